/-! ===== THE WORLD AT THE LAW'S ENTRY ===== -/
theorem aw_tbl {w : Cond} (h : w ∈ aw) : w ∈ lw_tbl := (List.mem_filter.mp h).1
theorem ex_cl {s : State} {args : Array Value} (hts : ∀ w ∈ aw, w.before args s = true) : ∀ κ : Nat, ∃ (cC : ClassId) (iS : Nat → Nat), ∀ q : vw_C, vwCl[κ]? = some q → u_Kn s q.1 q.2.1 q.2.2 cC iS := by
  have mk : ∀ {κ n : Nat} {C : String} {T : u_T} {N : Nat}, vwCl[κ]? = some (C, T, N) → (∀ w ∈ u_ws C T N, w ∈ aw) → (Cond.instantiable C n) ∈ aw → ∃ (cC : ClassId) (iS : Nat → Nat), ∀ q : vw_C, vwCl[κ]? = some q → u_Kn s q.1 q.2.1 q.2.2 cC iS := by
    intro κ n C T N h1 h2 h3
    obtain ⟨cC, iS, h⟩ := u_known hts h2 (hts _ h3)
    refine ⟨cC, iS, fun q hq => ?_⟩
    cases Option.some.inj (h1.symm.trans hq)
    exact h
  intro κ
  match κ with
  | 0 => exact mk rfl in_0 m_205
  | 1 => exact mk rfl in_1 m_191
  | 2 => exact mk rfl in_2 m_102
  | 3 => exact mk rfl in_3 m_25
  | 4 => exact mk rfl in_4 m_42
  | 5 => exact mk rfl in_5 m_171
  | 6 => exact mk rfl in_6 m_31
  | 7 => exact mk rfl in_7 m_17
  | κ + 8 => exact ⟨0, fun _ => 0, fun q hq => by cases hq⟩
def tyK (κ : Nat) : Option FieldType := match κ with
  | 9 => some .int
  | 11 => some (.object "RingHerd$Claim")
  | 12 => some (.object "RingHerd$Frame")
  | 13 => some (.object "RingHerd$Grain")
  | 14 => some (.object "RingHerd$Moon")
  | _ => none
theorem ex_prim {s : State} {args : Array Value} {ty : FieldType} (hp : ∀ C, ty ≠ .object C) (h : (Cond.arrayClass ty).before args s = true) : ∃ cA : ClassId, ArrOfT s cA ty ∧ va_RA s cA ty := by
  obtain ⟨c, k, comp, h1, h2, h3⟩ := Cond.arrayClass_spec h
  refine ⟨c, fun n z => ⟨fun k h => ?_, k, h2, comp, h3⟩, ?_⟩
  · cases h
  · cases ty with
    | object C => exact absurd rfl (hp C)
    | _ => exact h1
theorem ex_ref {s : State} {args : Array Value} {C : String} (h : (Cond.arrayOver (.object C)).before args s = true) : ∃ cA : ClassId, ArrOfT s cA (.object C) ∧ va_RA s cA (.object C) := by
  obtain ⟨comp, c, k, h1, h2, h3, h4, h5⟩ := Cond.arrayOver_spec h
  exact ⟨c, fun n z => ⟨fun k h => (by cases h), k, h3, comp, h4⟩, ⟨k, comp, h3, h4, h1, h5⟩⟩
theorem ex_arr {s : State} {args : Array Value} (hts : ∀ w ∈ lw_tbl, w.before args s = true) : ∀ κ : Nat, ∃ cA : ClassId, ∀ ty, tyK κ = some ty → ArrOfT s cA ty ∧ va_RA s cA ty := by
  have mk : ∀ {κ : Nat} {ty : FieldType}, tyK κ = some ty → (∃ cA : ClassId, ArrOfT s cA ty ∧ va_RA s cA ty) → ∃ cA : ClassId, ∀ ty, tyK κ = some ty → ArrOfT s cA ty ∧ va_RA s cA ty := by
    intro κ ty h1 ⟨cA, h2⟩
    refine ⟨cA, fun t ht => ?_⟩
    cases Option.some.inj (h1.symm.trans ht)
    exact h2
  have no : ∀ {κ : Nat}, tyK κ = none → ∃ cA : ClassId, ∀ ty, tyK κ = some ty → ArrOfT s cA ty ∧ va_RA s cA ty := fun h => ⟨0, fun t ht => by rw [h] at ht; cases ht⟩
  intro κ
  match κ with
  | 9 => exact mk rfl (ex_prim (fun C h => by cases h) (hts _ (by decide +kernel : (Cond.arrayClass .int) ∈ lw_tbl)))
  | 10 => exact no rfl
  | 11 => exact mk rfl (ex_ref (hts _ (by decide +kernel : (Cond.arrayOver (.object "RingHerd$Claim")) ∈ lw_tbl)))
  | 12 => exact mk rfl (ex_ref (hts _ (by decide +kernel : (Cond.arrayOver (.object "RingHerd$Frame")) ∈ lw_tbl)))
  | 13 => exact mk rfl (ex_ref (hts _ (by decide +kernel : (Cond.arrayOver (.object "RingHerd$Grain")) ∈ lw_tbl)))
  | 14 => exact mk rfl (ex_ref (hts _ (by decide +kernel : (Cond.arrayOver (.object "RingHerd$Moon")) ∈ lw_tbl)))
  | 15 => exact no rfl
  | 0 => exact no rfl
  | 1 => exact no rfl
  | 2 => exact no rfl
  | 3 => exact no rfl
  | 4 => exact no rfl
  | 5 => exact no rfl
  | 6 => exact no rfl
  | 7 => exact no rfl
  | 8 => exact no rfl
  | κ + 16 => exact no rfl
theorem nw_tbl : ∀ w ∈ nwL, w ∈ lw_tbl ∧ w.onTables = true := by decide +kernel
theorem nc_flat : ∀ q ∈ ncL, (Cond.not (.castable q.1 q.2)) ∈ flatC (Jvm.Cond.and given_1 narrow_1) := by decide +kernel
theorem st_flat : ∀ q ∈ stL, (Cond.stringRef "RingHerd" q.1 q.2) ∈ lw_tbl ∧ (Cond.exactly (.string "RingHerd" q.1) "java/lang/String") ∈ flatC (Jvm.Cond.and given_1 narrow_1) := by decide +kernel
theorem ao_tbl : ∀ C ∈ aoL, (Cond.arrayOver (.object C)) ∈ lw_tbl := by decide +kernel
theorem sq_tbl : ∀ q ∈ [("UNASSIGNED_STACK", Bundle.steD), ("SUPPRESSED_SENTINEL", Bundle.listD)], (Cond.laysStatic Bundle.tN q.1 q.2) ∈ lw_tbl ∧ (Cond.initialized Bundle.tN) ∈ lw_tbl ∧ (Cond.isRef (.static Bundle.tN q.1 q.2)) ∈ flatC (Jvm.Cond.and given_1 narrow_1) := by decide +kernel
theorem mk_Xe {s : State} {b : Nat} (hts : ∀ w ∈ lw_tbl, w.before #[Value.ref b] s = true) (hgv : (Jvm.Cond.and given_1 narrow_1).before #[Value.ref b] s = true) : ∃ (D : va_G) (ca : Nat → ClassId), Xe D ca s.heap.size s s.heap := by
  have h1 := ex_cl (s := s) (args := #[Value.ref b]) (fun w hw => hts w (aw_tbl hw))
  have h2 := ex_arr (s := s) hts
  have hf := flat_of_before _ hgv
  have hA : ∀ a : Nat, a < s.heap.size → ¬ s.heap.size ≤ a := fun a h => by omega
  refine ⟨(fun κ => Classical.choose (h1 κ), fun κ => Classical.choose (Classical.choose_spec (h1 κ))), fun κ => Classical.choose (h2 κ), ⟨fun c q hq => Classical.choose_spec (Classical.choose_spec (h1 c)) q hq, fun k q hk => ?_⟩, fun w hw => va_Nw.of (nw_tbl w hw).2 (hts w (nw_tbl w hw).1), fun q hq => va_Nc.of (hf _ (nc_flat q hq)), fun q hq => ?_, fun C hC => va_AO.of (hts _ (ao_tbl C hC)), ?_, ?_⟩
  · have hc := fun κ ty (h : tyK κ = some ty) => Classical.choose_spec (h2 κ) ty h
    match k, hk with
    | 0, hk => cases hk; exact hc 9 _ rfl
    | 1, hk => cases hk; exact hc 11 _ rfl
    | 2, hk => cases hk; exact hc 12 _ rfl
    | 3, hk => cases hk; exact hc 13 _ rfl
    | 4, hk => cases hk; exact hc 14 _ rfl
    | k + 5, hk => cases hk
  · obtain ⟨q1, q2⟩ := st_flat q hq
    obtain ⟨a, ha⟩ : ∃ a, (Term.string "RingHerd" q.1).eval #[Value.ref b] s none [] s = some (.ref a) := by
      have := Cond.exactly_spec (hf _ q2)
      grind
    exact ⟨a, vk_R.of (hts _ q1) ha⟩
  · have hq := sq_tbl ("UNASSIGNED_STACK", Bundle.steD) (by simp)
    exact vx_Zqof (hts _ hq.1) (hts _ hq.2.1) (hf _ hq.2.2) hA
  · have hq := sq_tbl ("SUPPRESSED_SENTINEL", Bundle.listD) (by simp)
    exact vx_Zqof (hts _ hq.1) (hts _ hq.2.1) (hf _ hq.2.2) hA
theorem no_traces {l : Launch} (h : l.flags = flags0) : l.stackTraces = false := by
  unfold Launch.stackTraces
  rw [h]
  decide +kernel
