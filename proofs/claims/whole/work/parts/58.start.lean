/-! ===== THE LAW'S PROLOGUE ===== -/
def M00 (n : Nat) : Mem := (fun _ => 16, fun _ => 0, fun _ _ => 0, fun _ _ => 0, fun _ _ => none, n)
theorem pro_f (n : Nat) : lt_ (mm_x (M00 n)) (fun a => lt_ (ms_n (M00 n) 7 0) fun M1 => bd (f_X7_init a M1) fun z7 => lt_ (mm_x z7) fun a2 => lt_ (ms_n z7 8 0) fun M2 => bd (f_X8_init a2 M2) fun z8 => lt_ (mm_x z8) fun a3 => lt_ (ms_n z8 15 1) fun M3 => some (a, a2, a3, M3)) = some (n, n + 177, n + 194, mAll (M00 n) n) := by
  have hb : mm_x (M00 n) = n := rfl
  have xd := x_T10 (M := M00 n) hb
  have xe := xd_T16 (M := cT10 (M00 n) n) xd
  simp only [lt_, hb, e_X7_init hb, bd_s, xd, e_X8_init xd, xe]
  rfl
set_option maxHeartbeats 4000000 in
theorem whole_start (l : Launch) (hflags : l.flags = flags0) {p : Program} {e : Env} {s : State} {m : MethodId} {below : List Frame} {meth : Method} {c : Code} {b : Nat} {xs : List Int32} (hbd : xs.length ≤ 2560) (C0 : lw_At p s m meth c b xs.length (fun j => xs.getD j 0)) :
    W p l e room_1 s m #[Value.ref b] below meth c s.heap [] 0 0 (lw_Z below #[Value.ref b] s) (entryFrame m ([Value.ref b] : List Value).toArray 8) := by
  obtain ⟨hx, hb, hr, hml, hown, hts0, hX, hbl, hlocks, hgv⟩ := id C0
  obtain ⟨D, ca, hXe⟩ := mk_Xe hts0 hgv
  have hts : ∀ w ∈ aw, w.before #[Value.ref b] s = true := fun w hw => hts0 w (aw_tbl hw)
  have hC : Cx cL_law 8 yL_law D ca s.heap.size (fun q => s.heap.size ≤ q) p s m #[Value.ref b] meth c := ⟨hx, hb, hml, hts, hown, hlocks, hXe, fun q h => h, fun q h => h, fun h => absurd h (by decide)⟩
  have hK := hXe.1
  have hA : ∀ q : Nat, s.heap.size ≤ q → (fun q : Nat => s.heap.size ≤ q) q := fun _ h => h
  have hR : Hp D ca true (fun q => s.heap.size ≤ q) s (M00 s.heap.size) s.heap [] := ⟨⟨fun q => ⟨fun h => absurd h (by show ¬ 16 < 9; decide), fun _ h => absurd h (by show ¬ 16 < 16; decide)⟩, fun _ => rfl, fun q h => absurd h (by show ¬ 16 < 16; decide)⟩, va_S.rf⟩
  have hf := pro_f s.heap.size
  have hl := lv_entry [Value.ref b] (n := 8) (Nat.le_of_ble_eq_true rfl)
  rw [lg_entry_eq]
  generalize ((lg_sl [Value.ref b] ++ List.replicate (8 - (lg_sl [Value.ref b]).length) Slot.unset).toArray) = ls at hl ⊢
  have hl : lv_has ls 8 [(0, .ref b)] := hl
  refine rg_new (pc := 0) (C := RX7) (T := TX7) (N := 11) (κ := 7) hx hb hts hK hR hA hown in_7 rfl (by decide) tyX7 tyX7_ok df_7 m_17 m_18 m_1 (Nat.le_of_ble_eq_true rfl) (Nat.le_of_ble_eq_true rfl) dL_law_0 hf (fun a M1 H hf hR => ?_)
  refine lv_dup (pc := 3) hx hb dL_law_3 rfl ?_
  refine rg_V (pc := 4) hf hR hA (fun z hz => rn_Ic (As := []) (rest := [.ref a]) hC hR (c_X7_init hz _) m_19 m_20 m_1 m_21 rfl hd_X7_init ⟨rfl, rfl, Nat.le_of_ble_eq_true rfl, Nat.le_of_ble_eq_true rfl⟩ rfl hl.1 rfl (Nat.le_of_ble_eq_true rfl) dL_law_4 ⟨Nat.le_of_ble_eq_true rfl, Nat.le_of_ble_eq_true rfl⟩) (fun z7 H locs hf hR => ?_)
  refine lv_astore_n (pc := 7) (lv' := [(1, .ref a), (0, .ref b)]) hx hb dL_law_7 rfl hl (by decide) rfl (fun ls hl => ?_)
  refine rg_new (pc := 8) (C := RX8) (T := TX8) (N := 37) (κ := 8) hx hb hts hK hR hA hown in_8 rfl (by decide) tyX8 tyX8_ok df_8 m_662 m_663 m_9 (Nat.le_of_ble_eq_true rfl) (Nat.le_of_ble_eq_true rfl) dL_law_8 hf (fun a2 M2 H hf hR => ?_)
  refine lv_dup (pc := 11) hx hb dL_law_11 rfl ?_
  refine rg_V (pc := 12) hf hR hA (fun z hz => rn_Ic (As := []) (rest := [.ref a2]) hC hR (c_X8_init hz _) m_664 m_665 m_9 m_666 rfl hd_X8_init ⟨rfl, rfl, Nat.le_of_ble_eq_true rfl, Nat.le_of_ble_eq_true rfl⟩ rfl hl.1 rfl (Nat.le_of_ble_eq_true rfl) dL_law_12 ⟨Nat.le_of_ble_eq_true rfl, Nat.le_of_ble_eq_true rfl⟩) (fun z8 H locs hf hR => ?_)
  refine lv_astore_n (pc := 15) (lv' := [(2, .ref a2), (1, .ref a), (0, .ref b)]) hx hb dL_law_15 rfl hl (by decide) rfl (fun ls hl => ?_)
  refine lv_iconst (pc := 16) (v := (1 : Int32)) hx hb dL_law_16 (by decide) ?_
  refine rg_newa (pc := 17) (atype := .long) (κ := 15) (N := 1) hx hb hts hK hR hA 6 rfl (by decide) m_989 (by decide) (by decide) (by decide) (Nat.le_of_ble_eq_true rfl) (Nat.le_of_ble_eq_true rfl) dL_law_17 hf (fun a3 M3 H hf hR => ?_)
  refine lv_astore_n (pc := 19) (lv' := [(3, .ref a3), (2, .ref a2), (1, .ref a), (0, .ref b)]) hx hb dL_law_19 rfl hl (by decide) rfl (fun ls hl => ?_)
  refine lv_iconst (pc := 20) (v := (0 : Int32)) hx hb dL_law_20 (by decide) ?_
  refine lv_istore (pc := 21) (lv' := [(4, .int (0 : Int32)), (3, .ref a3), (2, .ref a2), (1, .ref a), (0, .ref b)]) hx hb dL_law_21 hl (by decide) rfl (fun ls hl => ?_)
  simp only [Option.some.injEq, Prod.mk.injEq] at hf
  obtain ⟨rfl, rfl, rfl, rfl⟩ := hf
  have hW1 : Wr D ca false (fun q => s.heap.size ≤ q) (memC s.heap.size sg0) H := ⟨mAll_C rfl hR.1.1, fun h => (by cases h), fun q h => by
    have := kdC_in (b := s.heap.size) (q := q) h
    show s.heap.size ≤ q
    omega⟩
  have hW2 : Wr D ca false (fun q => s.heap.size ≤ q) (memM (s.heap.size + 177) sg0) H := ⟨mAll_M rfl hR.1.1, fun h => (by cases h), fun q h => by
    have := kdM_in (b := s.heap.size + 177) (q := q) h
    show s.heap.size ≤ q
    omega⟩
  exact whole_loop (no_traces hflags) hbd C0 hC (x := s.heap.size) (xs.length + 1) 0 0 _ _ _ _ H locs (Nat.zero_le _) (by omega) rfl (by omega) (by omega) I2_0 hW1 hW2 hR.2 ls (lv_sub hl [4, 3, 2, 1, 0] rfl)
