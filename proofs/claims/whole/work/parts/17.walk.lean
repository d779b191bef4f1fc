-- X8_goOn
def f_X8_goOn_b222 (k181 : Nat → Int32 → Mem → Option (Mem)) (s0 : Int32) (s1 : Int32) (s2 : Int32) (s3 : Nat) (v0 : Nat) (v1 : Int32) (M : Mem) : Option (Mem) := gd (M.1 s3 = 9 ∧ vi_ s2 (mm_N M s3)) <| lt_ (ms_i M s3 (s2).toNatClampNeg (s1 + s0)) fun M1 => lt_ (v1 + (1 : Int32)) fun x2 => k181 v0 x2 M1
def f_X8_goOn_b221 (k181 : Nat → Int32 → Mem → Option (Mem)) (s0 : Int32) (s1 : Int32) (s2 : Nat) (v0 : Nat) (v1 : Int32) (M : Mem) : Option (Mem) := f_X8_goOn_b222 k181 (0 : Int32) s0 s1 s2 v0 v1 M
def f_X8_goOn_b181 (k181 : Nat → Int32 → Mem → Option (Mem)) (v0 : Nat) (v1 : Int32) (M : Mem) : Option (Mem) := gd (M.1 v0 = 8) <| if (mm_i M v0 6) ≤ v1 then (gd (M.1 v0 = 8) <| gd (M.1 v0 = 8) <| lt_ (ms_i M v0 1 ((mm_i M v0 1) + (1 : Int32))) fun M3 => some M3) else (gd (M.1 v0 = 8) <| rd (mm_r M v0 11) fun a4 => gd (M.1 a4 = 9 ∧ vi_ v1 (mm_N M a4)) <| gd (M.1 v0 = 8) <| rd (mm_r M v0 12) fun a5 => gd (M.1 a5 = 10 ∧ vi_ v1 (mm_N M a5)) <| if (mm_i M a5 (v1).toNatClampNeg) = 0 then (f_X8_goOn_b221 k181 (mm_i M a4 (v1).toNatClampNeg) v1 a4 v0 v1 M) else (gd (M.1 v0 = 8) <| rd (mm_r M v0 11) fun a6 => gd (M.1 a6 = 9 ∧ vi_ v1 (mm_N M a6)) <| if (1000 : Int32) ≤ (mm_i M a6 (v1).toNatClampNeg) then (f_X8_goOn_b221 k181 (mm_i M a4 (v1).toNatClampNeg) v1 a4 v0 v1 M) else (f_X8_goOn_b222 k181 (1 : Int32) (mm_i M a4 (v1).toNatClampNeg) v1 a4 v0 v1 M)))
def f_X8_goOn_L181  : Nat → Nat → Int32 → Mem → Option (Mem)
  | 0 => fun _ _ _ => none
  | n + 1 => f_X8_goOn_b181  (f_X8_goOn_L181  n)
def f_X8_goOn_b167 (k132 : Nat → Int32 → Mem → Option (Mem)) (k144 : Nat → Int32 → Int32 → Mem → Option (Mem)) (v0 : Nat) (v1 : Int32) (v2 : Int32) (M : Mem) : Option (Mem) := lt_ (v2 + (1 : Int32)) fun x7 => k144 v0 v1 x7 M
def f_X8_goOn_b144 (k132 : Nat → Int32 → Mem → Option (Mem)) (k144 : Nat → Int32 → Int32 → Mem → Option (Mem)) (v0 : Nat) (v1 : Int32) (v2 : Int32) (M : Mem) : Option (Mem) := gd (M.1 v0 = 8) <| if (mm_i M v0 6) ≤ v2 then (lt_ (v1 + (1 : Int32)) fun x8 => k132 v0 x8 M) else (gd (M.1 v0 = 8) <| bd (f_X8_canMeet v0 v1 v2 M) fun z9 => if z9.2 = 0 then (f_X8_goOn_b167 k132 k144 v0 v1 v2 z9.1) else (gd (z9.1.1 v0 = 8) <| bd (f_X8_meets v0 v1 v2 z9.1) fun z10 => f_X8_goOn_b167 k132 k144 v0 v1 v2 z10))
def f_X8_goOn_L144 (k132 : Nat → Int32 → Mem → Option (Mem)) : Nat → Nat → Int32 → Int32 → Mem → Option (Mem)
  | 0 => fun _ _ _ _ => none
  | n + 1 => f_X8_goOn_b144 k132 (f_X8_goOn_L144 k132 n)
def f_X8_goOn_b132 (k132 : Nat → Int32 → Mem → Option (Mem)) (v0 : Nat) (v1 : Int32) (M : Mem) : Option (Mem) := gd (M.1 v0 = 8) <| if (mm_i M v0 6) ≤ v1 then (f_X8_goOn_L181 200 v0 (0 : Int32) M) else (lt_ ((v1 + (1 : Int32))) fun x11 => f_X8_goOn_L144 k132 200 v0 v1 x11 M)
def f_X8_goOn_L132  : Nat → Nat → Int32 → Mem → Option (Mem)
  | 0 => fun _ _ _ => none
  | n + 1 => f_X8_goOn_b132  (f_X8_goOn_L132  n)
def f_X8_goOn_b111 (k111 : Nat → Int32 → Mem → Option (Mem)) (v0 : Nat) (v1 : Int32) (M : Mem) : Option (Mem) := gd (M.1 v0 = 8) <| if (mm_i M v0 14) ≤ v1 then (f_X8_goOn_L132 200 v0 (0 : Int32) M) else (gd (M.1 v0 = 8) <| bd (f_X8_pushes v0 v1 M) fun z12 => lt_ (v1 + (1 : Int32)) fun x13 => k111 v0 x13 z12)
def f_X8_goOn_L111  : Nat → Nat → Int32 → Mem → Option (Mem)
  | 0 => fun _ _ _ => none
  | n + 1 => f_X8_goOn_b111  (f_X8_goOn_L111  n)
def f_X8_goOn_b69 (k69 : Nat → Int32 → Mem → Option (Mem)) (v0 : Nat) (v1 : Int32) (M : Mem) : Option (Mem) := gd (M.1 v0 = 8) <| if (mm_i M v0 14) ≤ v1 then (f_X8_goOn_L111 200 v0 (0 : Int32) M) else (gd (M.1 v0 = 8) <| rd (mm_r M v0 16) fun a14 => gd (M.1 v0 = 8) <| rd (mm_r M v0 16) fun a15 => gd (M.1 a15 = 9 ∧ vi_ v1 (mm_N M a15)) <| gd (M.1 v0 = 8) <| rd (mm_r M v0 15) fun a16 => gd (M.1 a16 = 9 ∧ vi_ v1 (mm_N M a16)) <| gd (M.1 v0 = 8) <| bd (f_X8_speedOf v0 (mm_i M a16 (v1).toNatClampNeg) M) fun z17 => gd (z17.1.1 a14 = 9 ∧ vi_ v1 (mm_N z17.1 a14)) <| lt_ (ms_i z17.1 a14 (v1).toNatClampNeg (((mm_i M a15 (v1).toNatClampNeg) + z17.2) - ((mm_i M a15 (v1).toNatClampNeg) + z17.2) / (36000 : Int32) * (36000 : Int32))) fun M18 => lt_ (v1 + (1 : Int32)) fun x19 => k69 v0 x19 M18)
def f_X8_goOn_L69  : Nat → Nat → Int32 → Mem → Option (Mem)
  | 0 => fun _ _ _ => none
  | n + 1 => f_X8_goOn_b69  (f_X8_goOn_L69  n)
def f_X8_goOn_b53 (k2 : Nat → Int32 → Mem → Option (Mem)) (s0 : Int32) (s1 : Int32) (s2 : Nat) (v0 : Nat) (v1 : Int32) (M : Mem) : Option (Mem) := gd (M.1 s2 = 9 ∧ vi_ s1 (mm_N M s2)) <| lt_ (ms_i M s2 (s1).toNatClampNeg s0) fun M20 => gd (M20.1 v0 = 8) <| rd (mm_r M20 v0 13) fun a21 => gd (M20.1 a21 = 10 ∧ vi_ v1 (mm_N M20 a21)) <| lt_ (ms_i M20 a21 (v1).toNatClampNeg (0 : Int32)) fun M22 => lt_ (v1 + (1 : Int32)) fun x23 => k2 v0 x23 M22
def f_X8_goOn_b2 (k2 : Nat → Int32 → Mem → Option (Mem)) (v0 : Nat) (v1 : Int32) (M : Mem) : Option (Mem) := gd (M.1 v0 = 8) <| if (mm_i M v0 6) ≤ v1 then (f_X8_goOn_L69 200 v0 (0 : Int32) M) else (gd (M.1 v0 = 8) <| rd (mm_r M v0 8) fun a24 => gd (M.1 v0 = 8) <| rd (mm_r M v0 12) fun a25 => gd (M.1 a25 = 10 ∧ vi_ v1 (mm_N M a25)) <| if (mm_i M a25 (v1).toNatClampNeg) = 0 then (gd (M.1 v0 = 8) <| rd (mm_r M v0 8) fun a26 => gd (M.1 a26 = 9 ∧ vi_ v1 (mm_N M a26)) <| f_X8_goOn_b53 k2 (mm_i M a26 (v1).toNatClampNeg) v1 a24 v0 v1 M) else (gd (M.1 v0 = 8) <| rd (mm_r M v0 8) fun a27 => gd (M.1 a27 = 9 ∧ vi_ v1 (mm_N M a27)) <| gd (M.1 v0 = 8) <| rd (mm_r M v0 7) fun a28 => gd (M.1 a28 = 9 ∧ vi_ v1 (mm_N M a28)) <| gd (M.1 v0 = 8) <| bd (f_X8_speedOf v0 (mm_i M a28 (v1).toNatClampNeg) M) fun z29 => f_X8_goOn_b53 k2 (((mm_i M a27 (v1).toNatClampNeg) + z29.2) - ((mm_i M a27 (v1).toNatClampNeg) + z29.2) / (36000 : Int32) * (36000 : Int32)) v1 a24 v0 v1 z29.1))
def f_X8_goOn_L2  : Nat → Nat → Int32 → Mem → Option (Mem)
  | 0 => fun _ _ _ => none
  | n + 1 => f_X8_goOn_b2  (f_X8_goOn_L2  n)
def f_X8_goOn (v0 : Nat) (M : Mem) : Option (Mem) := f_X8_goOn_L2 200 v0 (0 : Int32) M
abbrev rm_X8_goOn : Room := { frames := 3, cells := 0, slots := 0, locals := 76 }
theorem hd_X8_goOn : yX8_goOn.cls ≠ "java/lang/invoke/MethodHandle" ∧ yX8_goOn.cls ≠ "java/lang/invoke/VarHandle" ∧ (parseMethodDescriptor yX8_goOn.desc).map (fun d => d.parameters.length) = some 0 := by decide +kernel
set_option maxHeartbeats 8000000 in
set_option maxRecDepth 100000 in
theorem c_X8_goOn {l : Launch} {D : va_G} {ca : Nat → ClassId} {b : Nat} {nx : Bool} {v0 : Nat} {M : Mem} {r : Mem} (hf : f_X8_goOn v0 M = some r) : CtV l yX8_goOn cX8_goOn 3 none rm_X8_goOn D ca b nx [.ref v0] M r 0 0 := by
  intro sz
  refine body_start (Qc := fun A => cvV D ca nx A r) (by decide +kernel) (Nat.le_of_ble_eq_true rfl) ?_
  intro p e s m args below meth c A hC hr hR ls hl
  obtain ⟨hx, hb, hml, hts, hown, hlocks, hXe, hA, hAb, hnm⟩ := id hC
  have hK := hXe.1
  have hl : lv_has ls 3 [(0, .ref v0)] := hl
  have hB222 : ∀ (k181 : Nat → Int32 → Mem → Option (Mem)) (hk181 : ∀ (v0 : Nat) (v1 : Int32) (M : Mem) (H : Heap) (locs : List Loc) (ls : Array Slot), k181 v0 v1 M = some r → Hp D ca nx A s M H locs → lv_has ls 3 [(0, .ref v0), (1, .int v1)] → W p l e rm_X8_goOn s m args below meth c H locs 0 0 (MQ below (cvV D ca nx A r) args s 0 0 A) (F0 m 181 ls [])) (s0 : Int32) (s1 : Int32) (s2 : Int32) (s3 : Nat) (v0 : Nat) (v1 : Int32) (M : Mem) (H : Heap) (locs : List Loc) (ls : Array Slot), f_X8_goOn_b222 k181 s0 s1 s2 s3 v0 v1 M = some r → Hp D ca nx A s M H locs → lv_has ls 3 [(0, .ref v0), (1, .int v1)] → W p l e rm_X8_goOn s m args below meth c H locs 0 0 (MQ below (cvV D ca nx A r) args s 0 0 A) (F0 m 222 ls [.int s0, .int s1, .int s2, .ref s3]) := by
    intro k181 hk181 s0 s1 s2 s3 v0 v1 M H locs ls hf hR hl
    unfold f_X8_goOn_b222 at hf
    refine lv_iadd (pc := 222) hx hb dX8_goOn_222 ?_
    refine rg_iast (pc := 223) hx hb hK hR dX8_goOn_223 hf (fun M1 H locs hf hR => ?_)
    refine rg_iinc (pc := 224) hx hb dX8_goOn_224 hl (k := 1) rfl rfl (by decide) hf (fun x2 ls hf hl => ?_)
    have hl : lv_has ls 3 [(1, .int x2), (0, .ref v0)] := hl
    refine lv_goto (pc := 227) (tgt := 181) hx hb dX8_goOn_227 (by decide) ?_
    exact hk181 v0 x2 M1 _ _ _ hf hR (lv_sub hl [1, 0] rfl)
  have hB221 : ∀ (k181 : Nat → Int32 → Mem → Option (Mem)) (hk181 : ∀ (v0 : Nat) (v1 : Int32) (M : Mem) (H : Heap) (locs : List Loc) (ls : Array Slot), k181 v0 v1 M = some r → Hp D ca nx A s M H locs → lv_has ls 3 [(0, .ref v0), (1, .int v1)] → W p l e rm_X8_goOn s m args below meth c H locs 0 0 (MQ below (cvV D ca nx A r) args s 0 0 A) (F0 m 181 ls [])) (s0 : Int32) (s1 : Int32) (s2 : Nat) (v0 : Nat) (v1 : Int32) (M : Mem) (H : Heap) (locs : List Loc) (ls : Array Slot), f_X8_goOn_b221 k181 s0 s1 s2 v0 v1 M = some r → Hp D ca nx A s M H locs → lv_has ls 3 [(0, .ref v0), (1, .int v1)] → W p l e rm_X8_goOn s m args below meth c H locs 0 0 (MQ below (cvV D ca nx A r) args s 0 0 A) (F0 m 221 ls [.int s0, .int s1, .ref s2]) := by
    intro k181 hk181 s0 s1 s2 v0 v1 M H locs ls hf hR hl
    unfold f_X8_goOn_b221 at hf
    refine lv_iconst (pc := 221) (v := (0 : Int32)) hx hb dX8_goOn_221 (by decide) ?_
    exact hB222 k181 hk181 (0 : Int32) s0 s1 s2 v0 v1 M _ _ _ hf hR (lv_sub hl [0, 1] rfl)
  have hB181 : ∀ (k181 : Nat → Int32 → Mem → Option (Mem)) (hk181 : ∀ (v0 : Nat) (v1 : Int32) (M : Mem) (H : Heap) (locs : List Loc) (ls : Array Slot), k181 v0 v1 M = some r → Hp D ca nx A s M H locs → lv_has ls 3 [(0, .ref v0), (1, .int v1)] → W p l e rm_X8_goOn s m args below meth c H locs 0 0 (MQ below (cvV D ca nx A r) args s 0 0 A) (F0 m 181 ls [])) (v0 : Nat) (v1 : Int32) (M : Mem) (H : Heap) (locs : List Loc) (ls : Array Slot), f_X8_goOn_b181 k181 v0 v1 M = some r → Hp D ca nx A s M H locs → lv_has ls 3 [(0, .ref v0), (1, .int v1)] → W p l e rm_X8_goOn s m args below meth c H locs 0 0 (MQ below (cvV D ca nx A r) args s 0 0 A) (F0 m 181 ls []) := by
    intro k181 hk181 v0 v1 M H locs ls hf hR hl
    unfold f_X8_goOn_b181 at hf
    refine lv_iload_n (pc := 181) hx hb dX8_goOn_181 rfl (lv_at hl 1 rfl) ?_
    refine lv_aload_n (pc := 182) hx hb dX8_goOn_182 rfl (lv_at hl 0 rfl) ?_
    refine rg_get (pc := 183) (C := RX8) (T := TX8) (N := 37) (κ := 8) (v := .int (mm_i M v0 6)) hx hb hts hK hR hown in_8 rfl (by decide) 6 (by decide) m_674 rfl dX8_goOn_183 hf (fun hf => ?_)
    refine lv_icmp_ge (pc := 186) (tgt := 230) hx hb dX8_goOn_186 (by decide) (fun hc => ?_) (fun hc => ?_)
    · replace hf := it_t hf hc
      refine lv_aload_n (pc := 230) hx hb dX8_goOn_230 rfl (lv_at hl 0 rfl) ?_
      refine lv_dup (pc := 231) hx hb dX8_goOn_231 rfl ?_
      refine rg_get (pc := 232) (C := RX8) (T := TX8) (N := 37) (κ := 8) (v := .int (mm_i M v0 1)) hx hb hts hK hR hown in_8 rfl (by decide) 1 (by decide) m_669 rfl dX8_goOn_232 hf (fun hf => ?_)
      refine lv_iconst (pc := 235) (v := (1 : Int32)) hx hb dX8_goOn_235 (by decide) ?_
      refine lv_iadd (pc := 236) hx hb dX8_goOn_236 ?_
      refine rg_puti (pc := 237) (C := RX8) (T := TX8) (N := 37) (κ := 8) hx hb hts hK hR hown in_8 rfl (by decide) 1 (by decide) m_669 tyX8 tyX8_ok nmX8 rfl rfl rfl rfl dX8_goOn_237 hf (fun M3 H locs hf hR => ?_)
      exact rg_vret (pc := 240) hx hb hlocks hr hf hR dX8_goOn_240
    · replace hf := it_f hf hc
      refine lv_aload_n (pc := 189) hx hb dX8_goOn_189 rfl (lv_at hl 0 rfl) ?_
      refine rg_getr (pc := 190) (C := RX8) (T := TX8) (N := 37) (κ := 8) hx hb hts hK hR hown in_8 rfl (by decide) 11 (by decide) m_679 rfl dX8_goOn_190 hf (fun a4 hf => ?_)
      refine lv_iload_n (pc := 193) hx hb dX8_goOn_193 rfl (lv_at hl 1 rfl) ?_
      refine lv_dup2_11 (pc := 194) hx hb dX8_goOn_194 rfl rfl ?_
      refine rg_iald (pc := 195) hx hb hK hR dX8_goOn_195 hf (fun hf => ?_)
      refine lv_aload_n (pc := 196) hx hb dX8_goOn_196 rfl (lv_at hl 0 rfl) ?_
      refine rg_getr (pc := 197) (C := RX8) (T := TX8) (N := 37) (κ := 8) hx hb hts hK hR hown in_8 rfl (by decide) 12 (by decide) m_680 rfl dX8_goOn_197 hf (fun a5 hf => ?_)
      refine lv_iload_n (pc := 200) hx hb dX8_goOn_200 rfl (lv_at hl 1 rfl) ?_
      refine rg_zald (pc := 201) hx hb hK hR dX8_goOn_201 hf (fun hf => ?_)
      refine lv_if_eq (pc := 202) (tgt := 221) hx hb dX8_goOn_202 (by decide) (fun hc => ?_) (fun hc => ?_)
      · replace hf := it_t hf hc
        exact hB221 k181 hk181 (mm_i M a4 (v1).toNatClampNeg) v1 a4 v0 v1 M _ _ _ hf hR (lv_sub hl [0, 1] rfl)
      · replace hf := it_f hf hc
        refine lv_aload_n (pc := 205) hx hb dX8_goOn_205 rfl (lv_at hl 0 rfl) ?_
        refine rg_getr (pc := 206) (C := RX8) (T := TX8) (N := 37) (κ := 8) hx hb hts hK hR hown in_8 rfl (by decide) 11 (by decide) m_679 rfl dX8_goOn_206 hf (fun a6 hf => ?_)
        refine lv_iload_n (pc := 209) hx hb dX8_goOn_209 rfl (lv_at hl 1 rfl) ?_
        refine rg_iald (pc := 210) hx hb hK hR dX8_goOn_210 hf (fun hf => ?_)
        refine lv_sipush (pc := 211) (v := (1000 : Int32)) hx hb dX8_goOn_211 (by decide) ?_
        refine lv_icmp_ge (pc := 214) (tgt := 221) hx hb dX8_goOn_214 (by decide) (fun hc => ?_) (fun hc => ?_)
        · replace hf := it_t hf hc
          exact hB221 k181 hk181 (mm_i M a4 (v1).toNatClampNeg) v1 a4 v0 v1 M _ _ _ hf hR (lv_sub hl [0, 1] rfl)
        · replace hf := it_f hf hc
          refine lv_iconst (pc := 217) (v := (1 : Int32)) hx hb dX8_goOn_217 (by decide) ?_
          refine lv_goto (pc := 218) (tgt := 222) hx hb dX8_goOn_218 (by decide) ?_
          exact hB222 k181 hk181 (1 : Int32) (mm_i M a4 (v1).toNatClampNeg) v1 a4 v0 v1 M _ _ _ hf hR (lv_sub hl [0, 1] rfl)
  have hL181 : ∀  (n : Nat) (v0 : Nat) (v1 : Int32) (M : Mem) (H : Heap) (locs : List Loc) (ls : Array Slot), f_X8_goOn_L181  n v0 v1 M = some r → Hp D ca nx A s M H locs → lv_has ls 3 [(0, .ref v0), (1, .int v1)] → W p l e rm_X8_goOn s m args below meth c H locs 0 0 (MQ below (cvV D ca nx A r) args s 0 0 A) (F0 m 181 ls []) := by
    intro  n
    induction n with
    | zero => intro v0 v1 M H locs ls hf; exact nomatch (show (none : Option (Mem)) = some r from hf)
    | succ n ih => intro v0 v1 M H locs ls hf hR hl; exact hB181  (f_X8_goOn_L181  n) ih v0 v1 M H locs ls hf hR hl
  have hB167 : ∀ (k132 : Nat → Int32 → Mem → Option (Mem)) (hk132 : ∀ (v0 : Nat) (v1 : Int32) (M : Mem) (H : Heap) (locs : List Loc) (ls : Array Slot), k132 v0 v1 M = some r → Hp D ca nx A s M H locs → lv_has ls 3 [(0, .ref v0), (1, .int v1)] → W p l e rm_X8_goOn s m args below meth c H locs 0 0 (MQ below (cvV D ca nx A r) args s 0 0 A) (F0 m 132 ls [])) (k144 : Nat → Int32 → Int32 → Mem → Option (Mem)) (hk144 : ∀ (v0 : Nat) (v1 : Int32) (v2 : Int32) (M : Mem) (H : Heap) (locs : List Loc) (ls : Array Slot), k144 v0 v1 v2 M = some r → Hp D ca nx A s M H locs → lv_has ls 3 [(0, .ref v0), (1, .int v1), (2, .int v2)] → W p l e rm_X8_goOn s m args below meth c H locs 0 0 (MQ below (cvV D ca nx A r) args s 0 0 A) (F0 m 144 ls [])) (v0 : Nat) (v1 : Int32) (v2 : Int32) (M : Mem) (H : Heap) (locs : List Loc) (ls : Array Slot), f_X8_goOn_b167 k132 k144 v0 v1 v2 M = some r → Hp D ca nx A s M H locs → lv_has ls 3 [(0, .ref v0), (1, .int v1), (2, .int v2)] → W p l e rm_X8_goOn s m args below meth c H locs 0 0 (MQ below (cvV D ca nx A r) args s 0 0 A) (F0 m 167 ls []) := by
    intro k132 hk132 k144 hk144 v0 v1 v2 M H locs ls hf hR hl
    unfold f_X8_goOn_b167 at hf
    refine rg_iinc (pc := 167) hx hb dX8_goOn_167 hl (k := 2) rfl rfl (by decide) hf (fun x7 ls hf hl => ?_)
    have hl : lv_has ls 3 [(2, .int x7), (0, .ref v0), (1, .int v1)] := hl
    refine lv_goto (pc := 170) (tgt := 144) hx hb dX8_goOn_170 (by decide) ?_
    exact hk144 v0 v1 x7 M _ _ _ hf hR (lv_sub hl [1, 2, 0] rfl)
  have hB144 : ∀ (k132 : Nat → Int32 → Mem → Option (Mem)) (hk132 : ∀ (v0 : Nat) (v1 : Int32) (M : Mem) (H : Heap) (locs : List Loc) (ls : Array Slot), k132 v0 v1 M = some r → Hp D ca nx A s M H locs → lv_has ls 3 [(0, .ref v0), (1, .int v1)] → W p l e rm_X8_goOn s m args below meth c H locs 0 0 (MQ below (cvV D ca nx A r) args s 0 0 A) (F0 m 132 ls [])) (k144 : Nat → Int32 → Int32 → Mem → Option (Mem)) (hk144 : ∀ (v0 : Nat) (v1 : Int32) (v2 : Int32) (M : Mem) (H : Heap) (locs : List Loc) (ls : Array Slot), k144 v0 v1 v2 M = some r → Hp D ca nx A s M H locs → lv_has ls 3 [(0, .ref v0), (1, .int v1), (2, .int v2)] → W p l e rm_X8_goOn s m args below meth c H locs 0 0 (MQ below (cvV D ca nx A r) args s 0 0 A) (F0 m 144 ls [])) (v0 : Nat) (v1 : Int32) (v2 : Int32) (M : Mem) (H : Heap) (locs : List Loc) (ls : Array Slot), f_X8_goOn_b144 k132 k144 v0 v1 v2 M = some r → Hp D ca nx A s M H locs → lv_has ls 3 [(0, .ref v0), (1, .int v1), (2, .int v2)] → W p l e rm_X8_goOn s m args below meth c H locs 0 0 (MQ below (cvV D ca nx A r) args s 0 0 A) (F0 m 144 ls []) := by
    intro k132 hk132 k144 hk144 v0 v1 v2 M H locs ls hf hR hl
    unfold f_X8_goOn_b144 at hf
    refine lv_iload_n (pc := 144) hx hb dX8_goOn_144 rfl (lv_at hl 2 rfl) ?_
    refine lv_aload_n (pc := 145) hx hb dX8_goOn_145 rfl (lv_at hl 0 rfl) ?_
    refine rg_get (pc := 146) (C := RX8) (T := TX8) (N := 37) (κ := 8) (v := .int (mm_i M v0 6)) hx hb hts hK hR hown in_8 rfl (by decide) 6 (by decide) m_674 rfl dX8_goOn_146 hf (fun hf => ?_)
    refine lv_icmp_ge (pc := 149) (tgt := 173) hx hb dX8_goOn_149 (by decide) (fun hc => ?_) (fun hc => ?_)
    · replace hf := it_t hf hc
      refine rg_iinc (pc := 173) hx hb dX8_goOn_173 hl (k := 1) rfl rfl (by decide) hf (fun x8 ls hf hl => ?_)
      have hl : lv_has ls 3 [(1, .int x8), (0, .ref v0), (2, .int v2)] := hl
      refine lv_goto (pc := 176) (tgt := 132) hx hb dX8_goOn_176 (by decide) ?_
      exact hk132 v0 x8 M _ _ _ hf hR (lv_sub hl [1, 0] rfl)
    · replace hf := it_f hf hc
      refine lv_aload_n (pc := 152) hx hb dX8_goOn_152 rfl (lv_at hl 0 rfl) ?_
      refine lv_iload_n (pc := 153) hx hb dX8_goOn_153 rfl (lv_at hl 1 rfl) ?_
      refine lv_iload_n (pc := 154) hx hb dX8_goOn_154 rfl (lv_at hl 2 rfl) ?_
      obtain ⟨hq, hf⟩ := gd_e hf
      refine rg_I (pc := 155) hf hR hA (fun z hz => rn_V (κ := 8) (As := [.int v1, .int v2]) (rest := []) hC hR rfl (by decide) hq (c_X8_canMeet  hz _) m_846 m_848 ms_17 m_9 m_849 hd_X8_canMeet ⟨rfl, rfl, Nat.le_of_ble_eq_true rfl, Nat.le_of_ble_eq_true rfl⟩ rfl hl.1 rfl (Nat.le_of_ble_eq_true rfl) dX8_goOn_155 ⟨Nat.le_of_ble_eq_true rfl, Nat.le_of_ble_eq_true rfl⟩) (fun z9 H locs hf hR => ?_)
      refine lv_if_eq (pc := 158) (tgt := 167) hx hb dX8_goOn_158 (by decide) (fun hc => ?_) (fun hc => ?_)
      · replace hf := it_t hf hc
        exact hB167 k132 hk132 k144 hk144 v0 v1 v2 z9.1 _ _ _ hf hR (lv_sub hl [0, 1, 2] rfl)
      · replace hf := it_f hf hc
        refine lv_aload_n (pc := 161) hx hb dX8_goOn_161 rfl (lv_at hl 0 rfl) ?_
        refine lv_iload_n (pc := 162) hx hb dX8_goOn_162 rfl (lv_at hl 1 rfl) ?_
        refine lv_iload_n (pc := 163) hx hb dX8_goOn_163 rfl (lv_at hl 2 rfl) ?_
        obtain ⟨hq, hf⟩ := gd_e hf
        refine rg_V (pc := 164) hf hR hA (fun z hz => rn_V (κ := 8) (As := [.int v1, .int v2]) (rest := []) hC hR rfl (by decide) hq (c_X8_meets  hz _) m_850 m_852 ms_18 m_9 m_853 hd_X8_meets ⟨rfl, rfl, Nat.le_of_ble_eq_true rfl, Nat.le_of_ble_eq_true rfl⟩ rfl hl.1 rfl (Nat.le_of_ble_eq_true rfl) dX8_goOn_164 ⟨Nat.le_of_ble_eq_true rfl, Nat.le_of_ble_eq_true rfl⟩) (fun z10 H locs hf hR => ?_)
        exact hB167 k132 hk132 k144 hk144 v0 v1 v2 z10 _ _ _ hf hR (lv_sub hl [0, 1, 2] rfl)
  have hL144 : ∀ (k132 : Nat → Int32 → Mem → Option (Mem)) (hk132 : ∀ (v0 : Nat) (v1 : Int32) (M : Mem) (H : Heap) (locs : List Loc) (ls : Array Slot), k132 v0 v1 M = some r → Hp D ca nx A s M H locs → lv_has ls 3 [(0, .ref v0), (1, .int v1)] → W p l e rm_X8_goOn s m args below meth c H locs 0 0 (MQ below (cvV D ca nx A r) args s 0 0 A) (F0 m 132 ls [])) (n : Nat) (v0 : Nat) (v1 : Int32) (v2 : Int32) (M : Mem) (H : Heap) (locs : List Loc) (ls : Array Slot), f_X8_goOn_L144 k132 n v0 v1 v2 M = some r → Hp D ca nx A s M H locs → lv_has ls 3 [(0, .ref v0), (1, .int v1), (2, .int v2)] → W p l e rm_X8_goOn s m args below meth c H locs 0 0 (MQ below (cvV D ca nx A r) args s 0 0 A) (F0 m 144 ls []) := by
    intro k132 hk132 n
    induction n with
    | zero => intro v0 v1 v2 M H locs ls hf; exact nomatch (show (none : Option (Mem)) = some r from hf)
    | succ n ih => intro v0 v1 v2 M H locs ls hf hR hl; exact hB144 k132 hk132 (f_X8_goOn_L144 k132 n) ih v0 v1 v2 M H locs ls hf hR hl
  have hB132 : ∀ (k132 : Nat → Int32 → Mem → Option (Mem)) (hk132 : ∀ (v0 : Nat) (v1 : Int32) (M : Mem) (H : Heap) (locs : List Loc) (ls : Array Slot), k132 v0 v1 M = some r → Hp D ca nx A s M H locs → lv_has ls 3 [(0, .ref v0), (1, .int v1)] → W p l e rm_X8_goOn s m args below meth c H locs 0 0 (MQ below (cvV D ca nx A r) args s 0 0 A) (F0 m 132 ls [])) (v0 : Nat) (v1 : Int32) (M : Mem) (H : Heap) (locs : List Loc) (ls : Array Slot), f_X8_goOn_b132 k132 v0 v1 M = some r → Hp D ca nx A s M H locs → lv_has ls 3 [(0, .ref v0), (1, .int v1)] → W p l e rm_X8_goOn s m args below meth c H locs 0 0 (MQ below (cvV D ca nx A r) args s 0 0 A) (F0 m 132 ls []) := by
    intro k132 hk132 v0 v1 M H locs ls hf hR hl
    unfold f_X8_goOn_b132 at hf
    refine lv_iload_n (pc := 132) hx hb dX8_goOn_132 rfl (lv_at hl 1 rfl) ?_
    refine lv_aload_n (pc := 133) hx hb dX8_goOn_133 rfl (lv_at hl 0 rfl) ?_
    refine rg_get (pc := 134) (C := RX8) (T := TX8) (N := 37) (κ := 8) (v := .int (mm_i M v0 6)) hx hb hts hK hR hown in_8 rfl (by decide) 6 (by decide) m_674 rfl dX8_goOn_134 hf (fun hf => ?_)
    refine lv_icmp_ge (pc := 137) (tgt := 179) hx hb dX8_goOn_137 (by decide) (fun hc => ?_) (fun hc => ?_)
    · replace hf := it_t hf hc
      refine lv_iconst (pc := 179) (v := (0 : Int32)) hx hb dX8_goOn_179 (by decide) ?_
      refine lv_istore_n (pc := 180) (lv' := [(1, .int (0 : Int32)), (0, .ref v0)]) hx hb dX8_goOn_180 rfl hl (by decide) rfl (fun ls hl => ?_)
      exact hL181 200 v0 (0 : Int32) M _ _ _ hf hR (lv_sub hl [1, 0] rfl)
    · replace hf := it_f hf hc
      refine lv_iload_n (pc := 140) hx hb dX8_goOn_140 rfl (lv_at hl 1 rfl) ?_
      refine lv_iconst (pc := 141) (v := (1 : Int32)) hx hb dX8_goOn_141 (by decide) ?_
      refine lv_iadd (pc := 142) hx hb dX8_goOn_142 ?_
      refine nm_i hf (fun x11 hf => ?_)
      refine lv_istore_n (pc := 143) (lv' := [(2, .int x11), (0, .ref v0), (1, .int v1)]) hx hb dX8_goOn_143 rfl hl (by decide) rfl (fun ls hl => ?_)
      exact hL144 k132 hk132 200 v0 v1 x11 M _ _ _ hf hR (lv_sub hl [1, 2, 0] rfl)
  have hL132 : ∀  (n : Nat) (v0 : Nat) (v1 : Int32) (M : Mem) (H : Heap) (locs : List Loc) (ls : Array Slot), f_X8_goOn_L132  n v0 v1 M = some r → Hp D ca nx A s M H locs → lv_has ls 3 [(0, .ref v0), (1, .int v1)] → W p l e rm_X8_goOn s m args below meth c H locs 0 0 (MQ below (cvV D ca nx A r) args s 0 0 A) (F0 m 132 ls []) := by
    intro  n
    induction n with
    | zero => intro v0 v1 M H locs ls hf; exact nomatch (show (none : Option (Mem)) = some r from hf)
    | succ n ih => intro v0 v1 M H locs ls hf hR hl; exact hB132  (f_X8_goOn_L132  n) ih v0 v1 M H locs ls hf hR hl
  have hB111 : ∀ (k111 : Nat → Int32 → Mem → Option (Mem)) (hk111 : ∀ (v0 : Nat) (v1 : Int32) (M : Mem) (H : Heap) (locs : List Loc) (ls : Array Slot), k111 v0 v1 M = some r → Hp D ca nx A s M H locs → lv_has ls 3 [(0, .ref v0), (1, .int v1)] → W p l e rm_X8_goOn s m args below meth c H locs 0 0 (MQ below (cvV D ca nx A r) args s 0 0 A) (F0 m 111 ls [])) (v0 : Nat) (v1 : Int32) (M : Mem) (H : Heap) (locs : List Loc) (ls : Array Slot), f_X8_goOn_b111 k111 v0 v1 M = some r → Hp D ca nx A s M H locs → lv_has ls 3 [(0, .ref v0), (1, .int v1)] → W p l e rm_X8_goOn s m args below meth c H locs 0 0 (MQ below (cvV D ca nx A r) args s 0 0 A) (F0 m 111 ls []) := by
    intro k111 hk111 v0 v1 M H locs ls hf hR hl
    unfold f_X8_goOn_b111 at hf
    refine lv_iload_n (pc := 111) hx hb dX8_goOn_111 rfl (lv_at hl 1 rfl) ?_
    refine lv_aload_n (pc := 112) hx hb dX8_goOn_112 rfl (lv_at hl 0 rfl) ?_
    refine rg_get (pc := 113) (C := RX8) (T := TX8) (N := 37) (κ := 8) (v := .int (mm_i M v0 14)) hx hb hts hK hR hown in_8 rfl (by decide) 14 (by decide) m_682 rfl dX8_goOn_113 hf (fun hf => ?_)
    refine lv_icmp_ge (pc := 116) (tgt := 130) hx hb dX8_goOn_116 (by decide) (fun hc => ?_) (fun hc => ?_)
    · replace hf := it_t hf hc
      refine lv_iconst (pc := 130) (v := (0 : Int32)) hx hb dX8_goOn_130 (by decide) ?_
      refine lv_istore_n (pc := 131) (lv' := [(1, .int (0 : Int32)), (0, .ref v0)]) hx hb dX8_goOn_131 rfl hl (by decide) rfl (fun ls hl => ?_)
      exact hL132 200 v0 (0 : Int32) M _ _ _ hf hR (lv_sub hl [1, 0] rfl)
    · replace hf := it_f hf hc
      refine lv_aload_n (pc := 119) hx hb dX8_goOn_119 rfl (lv_at hl 0 rfl) ?_
      refine lv_iload_n (pc := 120) hx hb dX8_goOn_120 rfl (lv_at hl 1 rfl) ?_
      obtain ⟨hq, hf⟩ := gd_e hf
      refine rg_V (pc := 121) hf hR hA (fun z hz => rn_V (κ := 8) (As := [.int v1]) (rest := []) hC hR rfl (by decide) hq (c_X8_pushes  hz _) m_825 m_827 ms_14 m_9 m_828 hd_X8_pushes ⟨rfl, rfl, Nat.le_of_ble_eq_true rfl, Nat.le_of_ble_eq_true rfl⟩ rfl hl.1 rfl (Nat.le_of_ble_eq_true rfl) dX8_goOn_121 ⟨Nat.le_of_ble_eq_true rfl, Nat.le_of_ble_eq_true rfl⟩) (fun z12 H locs hf hR => ?_)
      refine rg_iinc (pc := 124) hx hb dX8_goOn_124 hl (k := 1) rfl rfl (by decide) hf (fun x13 ls hf hl => ?_)
      have hl : lv_has ls 3 [(1, .int x13), (0, .ref v0)] := hl
      refine lv_goto (pc := 127) (tgt := 111) hx hb dX8_goOn_127 (by decide) ?_
      exact hk111 v0 x13 z12 _ _ _ hf hR (lv_sub hl [1, 0] rfl)
  have hL111 : ∀  (n : Nat) (v0 : Nat) (v1 : Int32) (M : Mem) (H : Heap) (locs : List Loc) (ls : Array Slot), f_X8_goOn_L111  n v0 v1 M = some r → Hp D ca nx A s M H locs → lv_has ls 3 [(0, .ref v0), (1, .int v1)] → W p l e rm_X8_goOn s m args below meth c H locs 0 0 (MQ below (cvV D ca nx A r) args s 0 0 A) (F0 m 111 ls []) := by
    intro  n
    induction n with
    | zero => intro v0 v1 M H locs ls hf; exact nomatch (show (none : Option (Mem)) = some r from hf)
    | succ n ih => intro v0 v1 M H locs ls hf hR hl; exact hB111  (f_X8_goOn_L111  n) ih v0 v1 M H locs ls hf hR hl
  have hB69 : ∀ (k69 : Nat → Int32 → Mem → Option (Mem)) (hk69 : ∀ (v0 : Nat) (v1 : Int32) (M : Mem) (H : Heap) (locs : List Loc) (ls : Array Slot), k69 v0 v1 M = some r → Hp D ca nx A s M H locs → lv_has ls 3 [(0, .ref v0), (1, .int v1)] → W p l e rm_X8_goOn s m args below meth c H locs 0 0 (MQ below (cvV D ca nx A r) args s 0 0 A) (F0 m 69 ls [])) (v0 : Nat) (v1 : Int32) (M : Mem) (H : Heap) (locs : List Loc) (ls : Array Slot), f_X8_goOn_b69 k69 v0 v1 M = some r → Hp D ca nx A s M H locs → lv_has ls 3 [(0, .ref v0), (1, .int v1)] → W p l e rm_X8_goOn s m args below meth c H locs 0 0 (MQ below (cvV D ca nx A r) args s 0 0 A) (F0 m 69 ls []) := by
    intro k69 hk69 v0 v1 M H locs ls hf hR hl
    unfold f_X8_goOn_b69 at hf
    refine lv_iload_n (pc := 69) hx hb dX8_goOn_69 rfl (lv_at hl 1 rfl) ?_
    refine lv_aload_n (pc := 70) hx hb dX8_goOn_70 rfl (lv_at hl 0 rfl) ?_
    refine rg_get (pc := 71) (C := RX8) (T := TX8) (N := 37) (κ := 8) (v := .int (mm_i M v0 14)) hx hb hts hK hR hown in_8 rfl (by decide) 14 (by decide) m_682 rfl dX8_goOn_71 hf (fun hf => ?_)
    refine lv_icmp_ge (pc := 74) (tgt := 109) hx hb dX8_goOn_74 (by decide) (fun hc => ?_) (fun hc => ?_)
    · replace hf := it_t hf hc
      refine lv_iconst (pc := 109) (v := (0 : Int32)) hx hb dX8_goOn_109 (by decide) ?_
      refine lv_istore_n (pc := 110) (lv' := [(1, .int (0 : Int32)), (0, .ref v0)]) hx hb dX8_goOn_110 rfl hl (by decide) rfl (fun ls hl => ?_)
      exact hL111 200 v0 (0 : Int32) M _ _ _ hf hR (lv_sub hl [1, 0] rfl)
    · replace hf := it_f hf hc
      refine lv_aload_n (pc := 77) hx hb dX8_goOn_77 rfl (lv_at hl 0 rfl) ?_
      refine rg_getr (pc := 78) (C := RX8) (T := TX8) (N := 37) (κ := 8) hx hb hts hK hR hown in_8 rfl (by decide) 16 (by decide) m_684 rfl dX8_goOn_78 hf (fun a14 hf => ?_)
      refine lv_iload_n (pc := 81) hx hb dX8_goOn_81 rfl (lv_at hl 1 rfl) ?_
      refine lv_aload_n (pc := 82) hx hb dX8_goOn_82 rfl (lv_at hl 0 rfl) ?_
      refine rg_getr (pc := 83) (C := RX8) (T := TX8) (N := 37) (κ := 8) hx hb hts hK hR hown in_8 rfl (by decide) 16 (by decide) m_684 rfl dX8_goOn_83 hf (fun a15 hf => ?_)
      refine lv_iload_n (pc := 86) hx hb dX8_goOn_86 rfl (lv_at hl 1 rfl) ?_
      refine rg_iald (pc := 87) hx hb hK hR dX8_goOn_87 hf (fun hf => ?_)
      refine lv_aload_n (pc := 88) hx hb dX8_goOn_88 rfl (lv_at hl 0 rfl) ?_
      refine lv_aload_n (pc := 89) hx hb dX8_goOn_89 rfl (lv_at hl 0 rfl) ?_
      refine rg_getr (pc := 90) (C := RX8) (T := TX8) (N := 37) (κ := 8) hx hb hts hK hR hown in_8 rfl (by decide) 15 (by decide) m_683 rfl dX8_goOn_90 hf (fun a16 hf => ?_)
      refine lv_iload_n (pc := 93) hx hb dX8_goOn_93 rfl (lv_at hl 1 rfl) ?_
      refine rg_iald (pc := 94) hx hb hK hR dX8_goOn_94 hf (fun hf => ?_)
      obtain ⟨hq, hf⟩ := gd_e hf
      refine rg_I (pc := 95) hf hR hA (fun z hz => rn_V (κ := 8) (As := [.int (mm_i M a16 (v1).toNatClampNeg)]) (rest := [.int (mm_i M a15 (v1).toNatClampNeg), .int v1, .ref a14]) hC hR rfl (by decide) hq (c_X8_speedOf  hz _) m_820 m_822 ms_13 m_9 m_823 hd_X8_speedOf ⟨rfl, rfl, Nat.le_of_ble_eq_true rfl, Nat.le_of_ble_eq_true rfl⟩ rfl hl.1 rfl (Nat.le_of_ble_eq_true rfl) dX8_goOn_95 ⟨Nat.le_of_ble_eq_true rfl, Nat.le_of_ble_eq_true rfl⟩) (fun z17 H locs hf hR => ?_)
      refine lv_iadd (pc := 98) hx hb dX8_goOn_98 ?_
      refine lv_ldc (pc := 99) hx hb hown (hts _ m_824) dX8_goOn_99 ?_
      refine lv_irem (pc := 101) hx hb dX8_goOn_101 (by decide) ?_
      refine rg_iast (pc := 102) hx hb hK hR dX8_goOn_102 hf (fun M18 H locs hf hR => ?_)
      refine rg_iinc (pc := 103) hx hb dX8_goOn_103 hl (k := 1) rfl rfl (by decide) hf (fun x19 ls hf hl => ?_)
      have hl : lv_has ls 3 [(1, .int x19), (0, .ref v0)] := hl
      refine lv_goto (pc := 106) (tgt := 69) hx hb dX8_goOn_106 (by decide) ?_
      exact hk69 v0 x19 M18 _ _ _ hf hR (lv_sub hl [1, 0] rfl)
  have hL69 : ∀  (n : Nat) (v0 : Nat) (v1 : Int32) (M : Mem) (H : Heap) (locs : List Loc) (ls : Array Slot), f_X8_goOn_L69  n v0 v1 M = some r → Hp D ca nx A s M H locs → lv_has ls 3 [(0, .ref v0), (1, .int v1)] → W p l e rm_X8_goOn s m args below meth c H locs 0 0 (MQ below (cvV D ca nx A r) args s 0 0 A) (F0 m 69 ls []) := by
    intro  n
    induction n with
    | zero => intro v0 v1 M H locs ls hf; exact nomatch (show (none : Option (Mem)) = some r from hf)
    | succ n ih => intro v0 v1 M H locs ls hf hR hl; exact hB69  (f_X8_goOn_L69  n) ih v0 v1 M H locs ls hf hR hl
  have hB53 : ∀ (k2 : Nat → Int32 → Mem → Option (Mem)) (hk2 : ∀ (v0 : Nat) (v1 : Int32) (M : Mem) (H : Heap) (locs : List Loc) (ls : Array Slot), k2 v0 v1 M = some r → Hp D ca nx A s M H locs → lv_has ls 3 [(0, .ref v0), (1, .int v1)] → W p l e rm_X8_goOn s m args below meth c H locs 0 0 (MQ below (cvV D ca nx A r) args s 0 0 A) (F0 m 2 ls [])) (s0 : Int32) (s1 : Int32) (s2 : Nat) (v0 : Nat) (v1 : Int32) (M : Mem) (H : Heap) (locs : List Loc) (ls : Array Slot), f_X8_goOn_b53 k2 s0 s1 s2 v0 v1 M = some r → Hp D ca nx A s M H locs → lv_has ls 3 [(0, .ref v0), (1, .int v1)] → W p l e rm_X8_goOn s m args below meth c H locs 0 0 (MQ below (cvV D ca nx A r) args s 0 0 A) (F0 m 53 ls [.int s0, .int s1, .ref s2]) := by
    intro k2 hk2 s0 s1 s2 v0 v1 M H locs ls hf hR hl
    unfold f_X8_goOn_b53 at hf
    refine rg_iast (pc := 53) hx hb hK hR dX8_goOn_53 hf (fun M20 H locs hf hR => ?_)
    refine lv_aload_n (pc := 54) hx hb dX8_goOn_54 rfl (lv_at hl 0 rfl) ?_
    refine rg_getr (pc := 55) (C := RX8) (T := TX8) (N := 37) (κ := 8) hx hb hts hK hR hown in_8 rfl (by decide) 13 (by decide) m_681 rfl dX8_goOn_55 hf (fun a21 hf => ?_)
    refine lv_iload_n (pc := 58) hx hb dX8_goOn_58 rfl (lv_at hl 1 rfl) ?_
    refine lv_iconst (pc := 59) (v := (0 : Int32)) hx hb dX8_goOn_59 (by decide) ?_
    refine rg_zast (pc := 60) hx hb hK hR rfl dX8_goOn_60 hf (fun M22 H locs hf hR => ?_)
    refine rg_iinc (pc := 61) hx hb dX8_goOn_61 hl (k := 1) rfl rfl (by decide) hf (fun x23 ls hf hl => ?_)
    have hl : lv_has ls 3 [(1, .int x23), (0, .ref v0)] := hl
    refine lv_goto (pc := 64) (tgt := 2) hx hb dX8_goOn_64 (by decide) ?_
    exact hk2 v0 x23 M22 _ _ _ hf hR (lv_sub hl [1, 0] rfl)
  have hB2 : ∀ (k2 : Nat → Int32 → Mem → Option (Mem)) (hk2 : ∀ (v0 : Nat) (v1 : Int32) (M : Mem) (H : Heap) (locs : List Loc) (ls : Array Slot), k2 v0 v1 M = some r → Hp D ca nx A s M H locs → lv_has ls 3 [(0, .ref v0), (1, .int v1)] → W p l e rm_X8_goOn s m args below meth c H locs 0 0 (MQ below (cvV D ca nx A r) args s 0 0 A) (F0 m 2 ls [])) (v0 : Nat) (v1 : Int32) (M : Mem) (H : Heap) (locs : List Loc) (ls : Array Slot), f_X8_goOn_b2 k2 v0 v1 M = some r → Hp D ca nx A s M H locs → lv_has ls 3 [(0, .ref v0), (1, .int v1)] → W p l e rm_X8_goOn s m args below meth c H locs 0 0 (MQ below (cvV D ca nx A r) args s 0 0 A) (F0 m 2 ls []) := by
    intro k2 hk2 v0 v1 M H locs ls hf hR hl
    unfold f_X8_goOn_b2 at hf
    refine lv_iload_n (pc := 2) hx hb dX8_goOn_2 rfl (lv_at hl 1 rfl) ?_
    refine lv_aload_n (pc := 3) hx hb dX8_goOn_3 rfl (lv_at hl 0 rfl) ?_
    refine rg_get (pc := 4) (C := RX8) (T := TX8) (N := 37) (κ := 8) (v := .int (mm_i M v0 6)) hx hb hts hK hR hown in_8 rfl (by decide) 6 (by decide) m_674 rfl dX8_goOn_4 hf (fun hf => ?_)
    refine lv_icmp_ge (pc := 7) (tgt := 67) hx hb dX8_goOn_7 (by decide) (fun hc => ?_) (fun hc => ?_)
    · replace hf := it_t hf hc
      refine lv_iconst (pc := 67) (v := (0 : Int32)) hx hb dX8_goOn_67 (by decide) ?_
      refine lv_istore_n (pc := 68) (lv' := [(1, .int (0 : Int32)), (0, .ref v0)]) hx hb dX8_goOn_68 rfl hl (by decide) rfl (fun ls hl => ?_)
      exact hL69 200 v0 (0 : Int32) M _ _ _ hf hR (lv_sub hl [1, 0] rfl)
    · replace hf := it_f hf hc
      refine lv_aload_n (pc := 10) hx hb dX8_goOn_10 rfl (lv_at hl 0 rfl) ?_
      refine rg_getr (pc := 11) (C := RX8) (T := TX8) (N := 37) (κ := 8) hx hb hts hK hR hown in_8 rfl (by decide) 8 (by decide) m_676 rfl dX8_goOn_11 hf (fun a24 hf => ?_)
      refine lv_iload_n (pc := 14) hx hb dX8_goOn_14 rfl (lv_at hl 1 rfl) ?_
      refine lv_aload_n (pc := 15) hx hb dX8_goOn_15 rfl (lv_at hl 0 rfl) ?_
      refine rg_getr (pc := 16) (C := RX8) (T := TX8) (N := 37) (κ := 8) hx hb hts hK hR hown in_8 rfl (by decide) 12 (by decide) m_680 rfl dX8_goOn_16 hf (fun a25 hf => ?_)
      refine lv_iload_n (pc := 19) hx hb dX8_goOn_19 rfl (lv_at hl 1 rfl) ?_
      refine rg_zald (pc := 20) hx hb hK hR dX8_goOn_20 hf (fun hf => ?_)
      refine lv_if_eq (pc := 21) (tgt := 47) hx hb dX8_goOn_21 (by decide) (fun hc => ?_) (fun hc => ?_)
      · replace hf := it_t hf hc
        refine lv_aload_n (pc := 47) hx hb dX8_goOn_47 rfl (lv_at hl 0 rfl) ?_
        refine rg_getr (pc := 48) (C := RX8) (T := TX8) (N := 37) (κ := 8) hx hb hts hK hR hown in_8 rfl (by decide) 8 (by decide) m_676 rfl dX8_goOn_48 hf (fun a26 hf => ?_)
        refine lv_iload_n (pc := 51) hx hb dX8_goOn_51 rfl (lv_at hl 1 rfl) ?_
        refine rg_iald (pc := 52) hx hb hK hR dX8_goOn_52 hf (fun hf => ?_)
        exact hB53 k2 hk2 (mm_i M a26 (v1).toNatClampNeg) v1 a24 v0 v1 M _ _ _ hf hR (lv_sub hl [0, 1] rfl)
      · replace hf := it_f hf hc
        refine lv_aload_n (pc := 24) hx hb dX8_goOn_24 rfl (lv_at hl 0 rfl) ?_
        refine rg_getr (pc := 25) (C := RX8) (T := TX8) (N := 37) (κ := 8) hx hb hts hK hR hown in_8 rfl (by decide) 8 (by decide) m_676 rfl dX8_goOn_25 hf (fun a27 hf => ?_)
        refine lv_iload_n (pc := 28) hx hb dX8_goOn_28 rfl (lv_at hl 1 rfl) ?_
        refine rg_iald (pc := 29) hx hb hK hR dX8_goOn_29 hf (fun hf => ?_)
        refine lv_aload_n (pc := 30) hx hb dX8_goOn_30 rfl (lv_at hl 0 rfl) ?_
        refine lv_aload_n (pc := 31) hx hb dX8_goOn_31 rfl (lv_at hl 0 rfl) ?_
        refine rg_getr (pc := 32) (C := RX8) (T := TX8) (N := 37) (κ := 8) hx hb hts hK hR hown in_8 rfl (by decide) 7 (by decide) m_675 rfl dX8_goOn_32 hf (fun a28 hf => ?_)
        refine lv_iload_n (pc := 35) hx hb dX8_goOn_35 rfl (lv_at hl 1 rfl) ?_
        refine rg_iald (pc := 36) hx hb hK hR dX8_goOn_36 hf (fun hf => ?_)
        obtain ⟨hq, hf⟩ := gd_e hf
        refine rg_I (pc := 37) hf hR hA (fun z hz => rn_V (κ := 8) (As := [.int (mm_i M a28 (v1).toNatClampNeg)]) (rest := [.int (mm_i M a27 (v1).toNatClampNeg), .int v1, .ref a24]) hC hR rfl (by decide) hq (c_X8_speedOf  hz _) m_820 m_822 ms_13 m_9 m_823 hd_X8_speedOf ⟨rfl, rfl, Nat.le_of_ble_eq_true rfl, Nat.le_of_ble_eq_true rfl⟩ rfl hl.1 rfl (Nat.le_of_ble_eq_true rfl) dX8_goOn_37 ⟨Nat.le_of_ble_eq_true rfl, Nat.le_of_ble_eq_true rfl⟩) (fun z29 H locs hf hR => ?_)
        refine lv_iadd (pc := 40) hx hb dX8_goOn_40 ?_
        refine lv_ldc (pc := 41) hx hb hown (hts _ m_824) dX8_goOn_41 ?_
        refine lv_irem (pc := 43) hx hb dX8_goOn_43 (by decide) ?_
        refine lv_goto (pc := 44) (tgt := 53) hx hb dX8_goOn_44 (by decide) ?_
        exact hB53 k2 hk2 (((mm_i M a27 (v1).toNatClampNeg) + z29.2) - ((mm_i M a27 (v1).toNatClampNeg) + z29.2) / (36000 : Int32) * (36000 : Int32)) v1 a24 v0 v1 z29.1 _ _ _ hf hR (lv_sub hl [0, 1] rfl)
  have hL2 : ∀  (n : Nat) (v0 : Nat) (v1 : Int32) (M : Mem) (H : Heap) (locs : List Loc) (ls : Array Slot), f_X8_goOn_L2  n v0 v1 M = some r → Hp D ca nx A s M H locs → lv_has ls 3 [(0, .ref v0), (1, .int v1)] → W p l e rm_X8_goOn s m args below meth c H locs 0 0 (MQ below (cvV D ca nx A r) args s 0 0 A) (F0 m 2 ls []) := by
    intro  n
    induction n with
    | zero => intro v0 v1 M H locs ls hf; exact nomatch (show (none : Option (Mem)) = some r from hf)
    | succ n ih => intro v0 v1 M H locs ls hf hR hl; exact hB2  (f_X8_goOn_L2  n) ih v0 v1 M H locs ls hf hR hl
  unfold f_X8_goOn at hf
  refine lv_iconst (pc := 0) (v := (0 : Int32)) hx hb dX8_goOn_0 (by decide) ?_
  refine lv_istore_n (pc := 1) (lv' := [(1, .int (0 : Int32)), (0, .ref v0)]) hx hb dX8_goOn_1 rfl hl (by decide) rfl (fun ls hl => ?_)
  exact hL2 200 v0 (0 : Int32) M _ _ _ hf hR (lv_sub hl [1, 0] rfl)
-- X8_tick
def f_X8_tick_b46 (k46 : Nat → Int32 → Int32 → Mem → Option (Mem × Int32)) (v0 : Nat) (v1 : Int32) (v2 : Int32) (M : Mem) : Option (Mem × Int32) := if v1 ≤ v2 then (gd (M.1 v0 = 8) <| some (M, (mm_i M v0 1))) else (gd (M.1 v0 = 8) <| bd (f_X8_goOn v0 M) fun z1 => lt_ (v2 + (1 : Int32)) fun x2 => k46 v0 v1 x2 z1)
def f_X8_tick_L46  : Nat → Nat → Int32 → Int32 → Mem → Option (Mem × Int32)
  | 0 => fun _ _ _ _ => none
  | n + 1 => f_X8_tick_b46  (f_X8_tick_L46  n)
def f_X8_tick_b32  (s0 : Int32) (s1 : Nat) (v0 : Nat) (v1 : Int32) (M : Mem) : Option (Mem × Int32) := gd (M.1 s1 = 8) <| lt_ (ms_i M s1 0 s0) fun M3 => gd (M3.1 v0 = 8) <| if (mm_i M3 v0 0) ≤ 0 then (f_X8_tick_L46 200 v0 v1 (0 : Int32) M3) else (some (M3, (0 : Int32)))
def f_X8_tick (v0 : Nat) (v1 : Int32) (M : Mem) : Option (Mem × Int32) := bd (f_X8_isIn v1 (1 : Int32) (50 : Int32) M) fun z4 => if z4.2 = 0 then (f_X8_tick_b32 (1 : Int32) v0 v0 v1 z4.1) else (gd (z4.1.1 v0 = 8) <| if ((mm_i z4.1 v0 1) + v1) ≤ (2000 : Int32) then (f_X8_tick_b32 (0 : Int32) v0 v0 v1 z4.1) else (f_X8_tick_b32 (2 : Int32) v0 v0 v1 z4.1))
abbrev rm_X8_tick : Room := { frames := 4, cells := 0, slots := 0, locals := 98 }
theorem hd_X8_tick : yX8_tick.cls ≠ "java/lang/invoke/MethodHandle" ∧ yX8_tick.cls ≠ "java/lang/invoke/VarHandle" ∧ (parseMethodDescriptor yX8_tick.desc).map (fun d => d.parameters.length) = some 1 := by decide +kernel
set_option maxHeartbeats 8000000 in
set_option maxRecDepth 100000 in
theorem c_X8_tick {l : Launch} {D : va_G} {ca : Nat → ClassId} {b : Nat} {nx : Bool} {v0 : Nat} {v1 : Int32} {M : Mem} {r : Mem × Int32} (hf : f_X8_tick v0 v1 M = some r) : CtI l yX8_tick cX8_tick 3 (some .int) rm_X8_tick D ca b nx [.ref v0, .int v1] M r := by
  intro sz
  refine body_start (Qc := fun A => cvI D ca nx A r) (by decide +kernel) (Nat.le_of_ble_eq_true rfl) ?_
  intro p e s m args below meth c A hC hr hR ls hl
  obtain ⟨hx, hb, hml, hts, hown, hlocks, hXe, hA, hAb, hnm⟩ := id hC
  have hK := hXe.1
  have hl : lv_has ls 3 [(0, .ref v0), (1, .int v1)] := hl
  have hB46 : ∀ (k46 : Nat → Int32 → Int32 → Mem → Option (Mem × Int32)) (hk46 : ∀ (v0 : Nat) (v1 : Int32) (v2 : Int32) (M : Mem) (H : Heap) (locs : List Loc) (ls : Array Slot), k46 v0 v1 v2 M = some r → Hp D ca nx A s M H locs → lv_has ls 3 [(0, .ref v0), (1, .int v1), (2, .int v2)] → W p l e rm_X8_tick s m args below meth c H locs 0 0 (MQ below (cvI D ca nx A r) args s 0 0 A) (F0 m 46 ls [])) (v0 : Nat) (v1 : Int32) (v2 : Int32) (M : Mem) (H : Heap) (locs : List Loc) (ls : Array Slot), f_X8_tick_b46 k46 v0 v1 v2 M = some r → Hp D ca nx A s M H locs → lv_has ls 3 [(0, .ref v0), (1, .int v1), (2, .int v2)] → W p l e rm_X8_tick s m args below meth c H locs 0 0 (MQ below (cvI D ca nx A r) args s 0 0 A) (F0 m 46 ls []) := by
    intro k46 hk46 v0 v1 v2 M H locs ls hf hR hl
    unfold f_X8_tick_b46 at hf
    refine lv_iload_n (pc := 46) hx hb dX8_tick_46 rfl (lv_at hl 2 rfl) ?_
    refine lv_iload_n (pc := 47) hx hb dX8_tick_47 rfl (lv_at hl 1 rfl) ?_
    refine lv_icmp_ge (pc := 48) (tgt := 61) hx hb dX8_tick_48 (by decide) (fun hc => ?_) (fun hc => ?_)
    · replace hf := it_t hf hc
      refine lv_aload_n (pc := 61) hx hb dX8_tick_61 rfl (lv_at hl 0 rfl) ?_
      refine rg_get (pc := 62) (C := RX8) (T := TX8) (N := 37) (κ := 8) (v := .int (mm_i M v0 1)) hx hb hts hK hR hown in_8 rfl (by decide) 1 (by decide) m_669 rfl dX8_tick_62 hf (fun hf => ?_)
      exact rg_iret (pc := 65) hx hb hlocks hr hf hR dX8_tick_65
    · replace hf := it_f hf hc
      refine lv_aload_n (pc := 51) hx hb dX8_tick_51 rfl (lv_at hl 0 rfl) ?_
      obtain ⟨hq, hf⟩ := gd_e hf
      refine rg_V (pc := 52) hf hR hA (fun z hz => rn_V (κ := 8) (As := []) (rest := []) hC hR rfl (by decide) hq (c_X8_goOn  hz _) m_816 m_818 ms_12 m_9 m_819 hd_X8_goOn ⟨rfl, rfl, Nat.le_of_ble_eq_true rfl, Nat.le_of_ble_eq_true rfl⟩ rfl hl.1 rfl (Nat.le_of_ble_eq_true rfl) dX8_tick_52 ⟨Nat.le_of_ble_eq_true rfl, Nat.le_of_ble_eq_true rfl⟩) (fun z1 H locs hf hR => ?_)
      refine rg_iinc (pc := 55) hx hb dX8_tick_55 hl (k := 2) rfl rfl (by decide) hf (fun x2 ls hf hl => ?_)
      have hl : lv_has ls 3 [(2, .int x2), (0, .ref v0), (1, .int v1)] := hl
      refine lv_goto (pc := 58) (tgt := 46) hx hb dX8_tick_58 (by decide) ?_
      exact hk46 v0 v1 x2 z1 _ _ _ hf hR (lv_sub hl [1, 2, 0] rfl)
  have hL46 : ∀  (n : Nat) (v0 : Nat) (v1 : Int32) (v2 : Int32) (M : Mem) (H : Heap) (locs : List Loc) (ls : Array Slot), f_X8_tick_L46  n v0 v1 v2 M = some r → Hp D ca nx A s M H locs → lv_has ls 3 [(0, .ref v0), (1, .int v1), (2, .int v2)] → W p l e rm_X8_tick s m args below meth c H locs 0 0 (MQ below (cvI D ca nx A r) args s 0 0 A) (F0 m 46 ls []) := by
    intro  n
    induction n with
    | zero => intro v0 v1 v2 M H locs ls hf; exact nomatch (show (none : Option (Mem × Int32)) = some r from hf)
    | succ n ih => intro v0 v1 v2 M H locs ls hf hR hl; exact hB46  (f_X8_tick_L46  n) ih v0 v1 v2 M H locs ls hf hR hl
  have hB32 : ∀  (s0 : Int32) (s1 : Nat) (v0 : Nat) (v1 : Int32) (M : Mem) (H : Heap) (locs : List Loc) (ls : Array Slot), f_X8_tick_b32  s0 s1 v0 v1 M = some r → Hp D ca nx A s M H locs → lv_has ls 3 [(0, .ref v0), (1, .int v1)] → W p l e rm_X8_tick s m args below meth c H locs 0 0 (MQ below (cvI D ca nx A r) args s 0 0 A) (F0 m 32 ls [.int s0, .ref s1]) := by
    intro  s0 s1 v0 v1 M H locs ls hf hR hl
    unfold f_X8_tick_b32 at hf
    refine rg_puti (pc := 32) (C := RX8) (T := TX8) (N := 37) (κ := 8) hx hb hts hK hR hown in_8 rfl (by decide) 0 (by decide) m_668 tyX8 tyX8_ok nmX8 rfl rfl rfl rfl dX8_tick_32 hf (fun M3 H locs hf hR => ?_)
    refine lv_aload_n (pc := 35) hx hb dX8_tick_35 rfl (lv_at hl 0 rfl) ?_
    refine rg_get (pc := 36) (C := RX8) (T := TX8) (N := 37) (κ := 8) (v := .int (mm_i M3 v0 0)) hx hb hts hK hR hown in_8 rfl (by decide) 0 (by decide) m_668 rfl dX8_tick_36 hf (fun hf => ?_)
    refine lv_if_le (pc := 39) (tgt := 44) hx hb dX8_tick_39 (by decide) (fun hc => ?_) (fun hc => ?_)
    · replace hf := it_t hf hc
      refine lv_iconst (pc := 44) (v := (0 : Int32)) hx hb dX8_tick_44 (by decide) ?_
      refine lv_istore_n (pc := 45) (lv' := [(2, .int (0 : Int32)), (0, .ref v0), (1, .int v1)]) hx hb dX8_tick_45 rfl hl (by decide) rfl (fun ls hl => ?_)
      exact hL46 200 v0 v1 (0 : Int32) M3 _ _ _ hf hR (lv_sub hl [1, 2, 0] rfl)
    · replace hf := it_f hf hc
      refine lv_iconst (pc := 42) (v := (0 : Int32)) hx hb dX8_tick_42 (by decide) ?_
      exact rg_iret (pc := 43) hx hb hlocks hr hf hR dX8_tick_43
  unfold f_X8_tick at hf
  refine lv_aload_n (pc := 0) hx hb dX8_tick_0 rfl (lv_at hl 0 rfl) ?_
  refine lv_iload_n (pc := 1) hx hb dX8_tick_1 rfl (lv_at hl 1 rfl) ?_
  refine lv_iconst (pc := 2) (v := (1 : Int32)) hx hb dX8_tick_2 (by decide) ?_
  refine lv_bipush (pc := 3) (v := (50 : Int32)) hx hb dX8_tick_3 (by decide) ?_
  refine rg_I (pc := 5) hf hR hA (fun z hz => rn_S (As := [.int v1, .int (1 : Int32), .int (50 : Int32)]) (rest := [.ref v0]) hC hR (c_X8_isIn  hz _) m_792 m_793 m_9 m_794 hd_X8_isIn ⟨rfl, rfl, Nat.le_of_ble_eq_true rfl, Nat.le_of_ble_eq_true rfl⟩ rfl hl.1 rfl (Nat.le_of_ble_eq_true rfl) dX8_tick_5 ⟨Nat.le_of_ble_eq_true rfl, Nat.le_of_ble_eq_true rfl⟩) (fun z4 H locs hf hR => ?_)
  refine lv_if_ne (pc := 8) (tgt := 15) hx hb dX8_tick_8 (by decide) (fun hc => ?_) (fun hc => ?_)
  · replace hf := it_f hf hc
    refine lv_aload_n (pc := 15) hx hb dX8_tick_15 rfl (lv_at hl 0 rfl) ?_
    refine rg_get (pc := 16) (C := RX8) (T := TX8) (N := 37) (κ := 8) (v := .int (mm_i z4.1 v0 1)) hx hb hts hK hR hown in_8 rfl (by decide) 1 (by decide) m_669 rfl dX8_tick_16 hf (fun hf => ?_)
    refine lv_iload_n (pc := 19) hx hb dX8_tick_19 rfl (lv_at hl 1 rfl) ?_
    refine lv_iadd (pc := 20) hx hb dX8_tick_20 ?_
    refine lv_sipush (pc := 21) (v := (2000 : Int32)) hx hb dX8_tick_21 (by decide) ?_
    refine lv_icmp_le (pc := 24) (tgt := 31) hx hb dX8_tick_24 (by decide) (fun hc => ?_) (fun hc => ?_)
    · replace hf := it_t hf hc
      refine lv_iconst (pc := 31) (v := (0 : Int32)) hx hb dX8_tick_31 (by decide) ?_
      exact hB32 (0 : Int32) v0 v0 v1 z4.1 _ _ _ hf hR (lv_sub hl [0, 1] rfl)
    · replace hf := it_f hf hc
      refine lv_iconst (pc := 27) (v := (2 : Int32)) hx hb dX8_tick_27 (by decide) ?_
      refine lv_goto (pc := 28) (tgt := 32) hx hb dX8_tick_28 (by decide) ?_
      exact hB32 (2 : Int32) v0 v0 v1 z4.1 _ _ _ hf hR (lv_sub hl [0, 1] rfl)
  · replace hf := it_t hf hc
    refine lv_iconst (pc := 11) (v := (1 : Int32)) hx hb dX8_tick_11 (by decide) ?_
    refine lv_goto (pc := 12) (tgt := 32) hx hb dX8_tick_12 (by decide) ?_
    exact hB32 (1 : Int32) v0 v0 v1 z4.1 _ _ _ hf hR (lv_sub hl [0, 1] rfl)
-- X8_massOf
def f_X8_massOf_b42 (k4 : Nat → Int32 → Int32 → Int32 → Mem → Option (Mem × Int32)) (s0 : Int32) (s1 : Int32) (v0 : Nat) (v1 : Int32) (v3 : Int32) (M : Mem) : Option (Mem × Int32) := lt_ ((s1 + s0)) fun x1 => lt_ (v3 + (1 : Int32)) fun x2 => k4 v0 v1 x1 x2 M
def f_X8_massOf_b41 (k4 : Nat → Int32 → Int32 → Int32 → Mem → Option (Mem × Int32)) (s0 : Int32) (v0 : Nat) (v1 : Int32) (v3 : Int32) (M : Mem) : Option (Mem × Int32) := f_X8_massOf_b42 k4 (0 : Int32) s0 v0 v1 v3 M
def f_X8_massOf_b4 (k4 : Nat → Int32 → Int32 → Int32 → Mem → Option (Mem × Int32)) (v0 : Nat) (v1 : Int32) (v2 : Int32) (v3 : Int32) (M : Mem) : Option (Mem × Int32) := gd (M.1 v0 = 8) <| if (mm_i M v0 6) ≤ v3 then (some (M, v2)) else (gd (M.1 v0 = 8) <| rd (mm_r M v0 12) fun a3 => gd (M.1 a3 = 10 ∧ vi_ v3 (mm_N M a3)) <| if (mm_i M a3 (v3).toNatClampNeg) = 0 then (f_X8_massOf_b41 k4 v2 v0 v1 v3 M) else (gd (M.1 v0 = 8) <| rd (mm_r M v0 7) fun a4 => gd (M.1 a4 = 9 ∧ vi_ v3 (mm_N M a4)) <| if (mm_i M a4 (v3).toNatClampNeg) = v1 then (gd (M.1 v0 = 8) <| rd (mm_r M v0 9) fun a5 => gd (M.1 a5 = 9 ∧ vi_ v3 (mm_N M a5)) <| f_X8_massOf_b42 k4 (mm_i M a5 (v3).toNatClampNeg) v2 v0 v1 v3 M) else (f_X8_massOf_b41 k4 v2 v0 v1 v3 M)))
def f_X8_massOf_L4  : Nat → Nat → Int32 → Int32 → Int32 → Mem → Option (Mem × Int32)
  | 0 => fun _ _ _ _ _ => none
  | n + 1 => f_X8_massOf_b4  (f_X8_massOf_L4  n)
def f_X8_massOf (v0 : Nat) (v1 : Int32) (M : Mem) : Option (Mem × Int32) := f_X8_massOf_L4 200 v0 v1 (0 : Int32) (0 : Int32) M
abbrev rm_X8_massOf : Room := { frames := 0, cells := 0, slots := 0, locals := 0 }
theorem hd_X8_massOf : yX8_massOf.cls ≠ "java/lang/invoke/MethodHandle" ∧ yX8_massOf.cls ≠ "java/lang/invoke/VarHandle" ∧ (parseMethodDescriptor yX8_massOf.desc).map (fun d => d.parameters.length) = some 1 := by decide +kernel
set_option maxHeartbeats 8000000 in
set_option maxRecDepth 100000 in
theorem c_X8_massOf {l : Launch} {D : va_G} {ca : Nat → ClassId} {b : Nat} {nx : Bool} {v0 : Nat} {v1 : Int32} {M : Mem} {r : Mem × Int32} (hf : f_X8_massOf v0 v1 M = some r) : CtI l yX8_massOf cX8_massOf 4 (some .int) rm_X8_massOf D ca b nx [.ref v0, .int v1] M r := by
  intro sz
  refine body_start (Qc := fun A => cvI D ca nx A r) (by decide +kernel) (Nat.le_of_ble_eq_true rfl) ?_
  intro p e s m args below meth c A hC hr hR ls hl
  obtain ⟨hx, hb, hml, hts, hown, hlocks, hXe, hA, hAb, hnm⟩ := id hC
  have hK := hXe.1
  have hl : lv_has ls 4 [(0, .ref v0), (1, .int v1)] := hl
  have hB42 : ∀ (k4 : Nat → Int32 → Int32 → Int32 → Mem → Option (Mem × Int32)) (hk4 : ∀ (v0 : Nat) (v1 : Int32) (v2 : Int32) (v3 : Int32) (M : Mem) (H : Heap) (locs : List Loc) (ls : Array Slot), k4 v0 v1 v2 v3 M = some r → Hp D ca nx A s M H locs → lv_has ls 4 [(0, .ref v0), (1, .int v1), (2, .int v2), (3, .int v3)] → W p l e rm_X8_massOf s m args below meth c H locs 0 0 (MQ below (cvI D ca nx A r) args s 0 0 A) (F0 m 4 ls [])) (s0 : Int32) (s1 : Int32) (v0 : Nat) (v1 : Int32) (v3 : Int32) (M : Mem) (H : Heap) (locs : List Loc) (ls : Array Slot), f_X8_massOf_b42 k4 s0 s1 v0 v1 v3 M = some r → Hp D ca nx A s M H locs → lv_has ls 4 [(0, .ref v0), (1, .int v1), (3, .int v3)] → W p l e rm_X8_massOf s m args below meth c H locs 0 0 (MQ below (cvI D ca nx A r) args s 0 0 A) (F0 m 42 ls [.int s0, .int s1]) := by
    intro k4 hk4 s0 s1 v0 v1 v3 M H locs ls hf hR hl
    unfold f_X8_massOf_b42 at hf
    refine lv_iadd (pc := 42) hx hb dX8_massOf_42 ?_
    refine nm_i hf (fun x1 hf => ?_)
    refine lv_istore_n (pc := 43) (lv' := [(2, .int x1), (0, .ref v0), (1, .int v1), (3, .int v3)]) hx hb dX8_massOf_43 rfl hl (by decide) rfl (fun ls hl => ?_)
    refine rg_iinc (pc := 44) hx hb dX8_massOf_44 hl (k := 3) rfl rfl (by decide) hf (fun x2 ls hf hl => ?_)
    have hl : lv_has ls 4 [(3, .int x2), (2, .int x1), (0, .ref v0), (1, .int v1)] := hl
    refine lv_goto (pc := 47) (tgt := 4) hx hb dX8_massOf_47 (by decide) ?_
    exact hk4 v0 v1 x1 x2 M _ _ _ hf hR (lv_sub hl [2, 3, 1, 0] rfl)
  have hB41 : ∀ (k4 : Nat → Int32 → Int32 → Int32 → Mem → Option (Mem × Int32)) (hk4 : ∀ (v0 : Nat) (v1 : Int32) (v2 : Int32) (v3 : Int32) (M : Mem) (H : Heap) (locs : List Loc) (ls : Array Slot), k4 v0 v1 v2 v3 M = some r → Hp D ca nx A s M H locs → lv_has ls 4 [(0, .ref v0), (1, .int v1), (2, .int v2), (3, .int v3)] → W p l e rm_X8_massOf s m args below meth c H locs 0 0 (MQ below (cvI D ca nx A r) args s 0 0 A) (F0 m 4 ls [])) (s0 : Int32) (v0 : Nat) (v1 : Int32) (v3 : Int32) (M : Mem) (H : Heap) (locs : List Loc) (ls : Array Slot), f_X8_massOf_b41 k4 s0 v0 v1 v3 M = some r → Hp D ca nx A s M H locs → lv_has ls 4 [(0, .ref v0), (1, .int v1), (3, .int v3)] → W p l e rm_X8_massOf s m args below meth c H locs 0 0 (MQ below (cvI D ca nx A r) args s 0 0 A) (F0 m 41 ls [.int s0]) := by
    intro k4 hk4 s0 v0 v1 v3 M H locs ls hf hR hl
    unfold f_X8_massOf_b41 at hf
    refine lv_iconst (pc := 41) (v := (0 : Int32)) hx hb dX8_massOf_41 (by decide) ?_
    exact hB42 k4 hk4 (0 : Int32) s0 v0 v1 v3 M _ _ _ hf hR (lv_sub hl [0, 1, 2] rfl)
  have hB4 : ∀ (k4 : Nat → Int32 → Int32 → Int32 → Mem → Option (Mem × Int32)) (hk4 : ∀ (v0 : Nat) (v1 : Int32) (v2 : Int32) (v3 : Int32) (M : Mem) (H : Heap) (locs : List Loc) (ls : Array Slot), k4 v0 v1 v2 v3 M = some r → Hp D ca nx A s M H locs → lv_has ls 4 [(0, .ref v0), (1, .int v1), (2, .int v2), (3, .int v3)] → W p l e rm_X8_massOf s m args below meth c H locs 0 0 (MQ below (cvI D ca nx A r) args s 0 0 A) (F0 m 4 ls [])) (v0 : Nat) (v1 : Int32) (v2 : Int32) (v3 : Int32) (M : Mem) (H : Heap) (locs : List Loc) (ls : Array Slot), f_X8_massOf_b4 k4 v0 v1 v2 v3 M = some r → Hp D ca nx A s M H locs → lv_has ls 4 [(0, .ref v0), (1, .int v1), (2, .int v2), (3, .int v3)] → W p l e rm_X8_massOf s m args below meth c H locs 0 0 (MQ below (cvI D ca nx A r) args s 0 0 A) (F0 m 4 ls []) := by
    intro k4 hk4 v0 v1 v2 v3 M H locs ls hf hR hl
    unfold f_X8_massOf_b4 at hf
    refine lv_iload_n (pc := 4) hx hb dX8_massOf_4 rfl (lv_at hl 3 rfl) ?_
    refine lv_aload_n (pc := 5) hx hb dX8_massOf_5 rfl (lv_at hl 0 rfl) ?_
    refine rg_get (pc := 6) (C := RX8) (T := TX8) (N := 37) (κ := 8) (v := .int (mm_i M v0 6)) hx hb hts hK hR hown in_8 rfl (by decide) 6 (by decide) m_674 rfl dX8_massOf_6 hf (fun hf => ?_)
    refine lv_icmp_ge (pc := 9) (tgt := 50) hx hb dX8_massOf_9 (by decide) (fun hc => ?_) (fun hc => ?_)
    · replace hf := it_t hf hc
      refine lv_iload_n (pc := 50) hx hb dX8_massOf_50 rfl (lv_at hl 2 rfl) ?_
      exact rg_iret (pc := 51) hx hb hlocks hr hf hR dX8_massOf_51
    · replace hf := it_f hf hc
      refine lv_iload_n (pc := 12) hx hb dX8_massOf_12 rfl (lv_at hl 2 rfl) ?_
      refine lv_aload_n (pc := 13) hx hb dX8_massOf_13 rfl (lv_at hl 0 rfl) ?_
      refine rg_getr (pc := 14) (C := RX8) (T := TX8) (N := 37) (κ := 8) hx hb hts hK hR hown in_8 rfl (by decide) 12 (by decide) m_680 rfl dX8_massOf_14 hf (fun a3 hf => ?_)
      refine lv_iload_n (pc := 17) hx hb dX8_massOf_17 rfl (lv_at hl 3 rfl) ?_
      refine rg_zald (pc := 18) hx hb hK hR dX8_massOf_18 hf (fun hf => ?_)
      refine lv_if_eq (pc := 19) (tgt := 41) hx hb dX8_massOf_19 (by decide) (fun hc => ?_) (fun hc => ?_)
      · replace hf := it_t hf hc
        exact hB41 k4 hk4 v2 v0 v1 v3 M _ _ _ hf hR (lv_sub hl [0, 1, 3] rfl)
      · replace hf := it_f hf hc
        refine lv_aload_n (pc := 22) hx hb dX8_massOf_22 rfl (lv_at hl 0 rfl) ?_
        refine rg_getr (pc := 23) (C := RX8) (T := TX8) (N := 37) (κ := 8) hx hb hts hK hR hown in_8 rfl (by decide) 7 (by decide) m_675 rfl dX8_massOf_23 hf (fun a4 hf => ?_)
        refine lv_iload_n (pc := 26) hx hb dX8_massOf_26 rfl (lv_at hl 3 rfl) ?_
        refine rg_iald (pc := 27) hx hb hK hR dX8_massOf_27 hf (fun hf => ?_)
        refine lv_iload_n (pc := 28) hx hb dX8_massOf_28 rfl (lv_at hl 1 rfl) ?_
        refine lv_icmp_ne (pc := 29) (tgt := 41) hx hb dX8_massOf_29 (by decide) (fun hc => ?_) (fun hc => ?_)
        · replace hf := it_f hf hc
          exact hB41 k4 hk4 v2 v0 v1 v3 M _ _ _ hf hR (lv_sub hl [0, 1, 3] rfl)
        · replace hf := it_t hf hc
          refine lv_aload_n (pc := 32) hx hb dX8_massOf_32 rfl (lv_at hl 0 rfl) ?_
          refine rg_getr (pc := 33) (C := RX8) (T := TX8) (N := 37) (κ := 8) hx hb hts hK hR hown in_8 rfl (by decide) 9 (by decide) m_677 rfl dX8_massOf_33 hf (fun a5 hf => ?_)
          refine lv_iload_n (pc := 36) hx hb dX8_massOf_36 rfl (lv_at hl 3 rfl) ?_
          refine rg_iald (pc := 37) hx hb hK hR dX8_massOf_37 hf (fun hf => ?_)
          refine lv_goto (pc := 38) (tgt := 42) hx hb dX8_massOf_38 (by decide) ?_
          exact hB42 k4 hk4 (mm_i M a5 (v3).toNatClampNeg) v2 v0 v1 v3 M _ _ _ hf hR (lv_sub hl [0, 1, 3] rfl)
  have hL4 : ∀  (n : Nat) (v0 : Nat) (v1 : Int32) (v2 : Int32) (v3 : Int32) (M : Mem) (H : Heap) (locs : List Loc) (ls : Array Slot), f_X8_massOf_L4  n v0 v1 v2 v3 M = some r → Hp D ca nx A s M H locs → lv_has ls 4 [(0, .ref v0), (1, .int v1), (2, .int v2), (3, .int v3)] → W p l e rm_X8_massOf s m args below meth c H locs 0 0 (MQ below (cvI D ca nx A r) args s 0 0 A) (F0 m 4 ls []) := by
    intro  n
    induction n with
    | zero => intro v0 v1 v2 v3 M H locs ls hf; exact nomatch (show (none : Option (Mem × Int32)) = some r from hf)
    | succ n ih => intro v0 v1 v2 v3 M H locs ls hf hR hl; exact hB4  (f_X8_massOf_L4  n) ih v0 v1 v2 v3 M H locs ls hf hR hl
  unfold f_X8_massOf at hf
  refine lv_iconst (pc := 0) (v := (0 : Int32)) hx hb dX8_massOf_0 (by decide) ?_
  refine lv_istore_n (pc := 1) (lv' := [(2, .int (0 : Int32)), (0, .ref v0), (1, .int v1)]) hx hb dX8_massOf_1 rfl hl (by decide) rfl (fun ls hl => ?_)
  refine lv_iconst (pc := 2) (v := (0 : Int32)) hx hb dX8_massOf_2 (by decide) ?_
  refine lv_istore_n (pc := 3) (lv' := [(3, .int (0 : Int32)), (2, .int (0 : Int32)), (0, .ref v0), (1, .int v1)]) hx hb dX8_massOf_3 rfl hl (by decide) rfl (fun ls hl => ?_)
  exact hL4 200 v0 v1 (0 : Int32) (0 : Int32) M _ _ _ hf hR (lv_sub hl [2, 3, 1, 0] rfl)
-- X8_frame
def f_X8_frame_b29 (k29 : Nat → Int32 → Mem → Option (Mem × Int32)) (v0 : Nat) (v1 : Int32) (M : Mem) : Option (Mem × Int32) := if (64 : Int32) ≤ v1 then (gd (M.1 v0 = 8) <| rd (mm_r M v0 31) fun a1 => gd (M.1 v0 = 8) <| gd (M.1 v0 = 8) <| gd (M.1 a1 = 9 ∧ vi_ (mm_i M v0 29) (mm_N M a1)) <| lt_ (ms_i M a1 ((mm_i M v0 29)).toNatClampNeg (mm_i M v0 1)) fun M2 => gd (M2.1 v0 = 8) <| gd (M2.1 v0 = 8) <| lt_ (ms_i M2 v0 29 ((mm_i M2 v0 29) + (1 : Int32))) fun M3 => gd (M3.1 v0 = 8) <| some (M3, ((mm_i M3 v0 29) - (1 : Int32)))) else (gd (M.1 v0 = 8) <| rd (mm_r M v0 30) fun a4 => gd (M.1 v0 = 8) <| gd (M.1 v0 = 8) <| bd (f_X8_massOf v0 v1 M) fun z5 => gd (z5.1.1 a4 = 9 ∧ vi_ (((64 : Int32) * (mm_i M v0 29)) + v1) (mm_N z5.1 a4)) <| lt_ (ms_i z5.1 a4 ((((64 : Int32) * (mm_i M v0 29)) + v1)).toNatClampNeg z5.2) fun M6 => lt_ (v1 + (1 : Int32)) fun x7 => k29 v0 x7 M6)
def f_X8_frame_L29  : Nat → Nat → Int32 → Mem → Option (Mem × Int32)
  | 0 => fun _ _ _ => none
  | n + 1 => f_X8_frame_b29  (f_X8_frame_L29  n)
def f_X8_frame_b15  (s0 : Int32) (s1 : Nat) (v0 : Nat) (M : Mem) : Option (Mem × Int32) := gd (M.1 s1 = 8) <| lt_ (ms_i M s1 0 s0) fun M8 => gd (M8.1 v0 = 8) <| if (mm_i M8 v0 0) ≤ 0 then (f_X8_frame_L29 200 v0 (0 : Int32) M8) else (some (M8, (0 : Int32)))
def f_X8_frame (v0 : Nat) (M : Mem) : Option (Mem × Int32) := gd (M.1 v0 = 8) <| if (mm_i M v0 29) = (20 : Int32) then (f_X8_frame_b15 (1 : Int32) v0 v0 M) else (f_X8_frame_b15 (0 : Int32) v0 v0 M)
abbrev rm_X8_frame : Room := { frames := 1, cells := 0, slots := 0, locals := 23 }
theorem hd_X8_frame : yX8_frame.cls ≠ "java/lang/invoke/MethodHandle" ∧ yX8_frame.cls ≠ "java/lang/invoke/VarHandle" ∧ (parseMethodDescriptor yX8_frame.desc).map (fun d => d.parameters.length) = some 0 := by decide +kernel
set_option maxHeartbeats 8000000 in
set_option maxRecDepth 100000 in
theorem c_X8_frame {l : Launch} {D : va_G} {ca : Nat → ClassId} {b : Nat} {nx : Bool} {v0 : Nat} {M : Mem} {r : Mem × Int32} (hf : f_X8_frame v0 M = some r) : CtI l yX8_frame cX8_frame 2 (some .int) rm_X8_frame D ca b nx [.ref v0] M r := by
  intro sz
  refine body_start (Qc := fun A => cvI D ca nx A r) (by decide +kernel) (Nat.le_of_ble_eq_true rfl) ?_
  intro p e s m args below meth c A hC hr hR ls hl
  obtain ⟨hx, hb, hml, hts, hown, hlocks, hXe, hA, hAb, hnm⟩ := id hC
  have hK := hXe.1
  have hl : lv_has ls 2 [(0, .ref v0)] := hl
  have hB29 : ∀ (k29 : Nat → Int32 → Mem → Option (Mem × Int32)) (hk29 : ∀ (v0 : Nat) (v1 : Int32) (M : Mem) (H : Heap) (locs : List Loc) (ls : Array Slot), k29 v0 v1 M = some r → Hp D ca nx A s M H locs → lv_has ls 2 [(0, .ref v0), (1, .int v1)] → W p l e rm_X8_frame s m args below meth c H locs 0 0 (MQ below (cvI D ca nx A r) args s 0 0 A) (F0 m 29 ls [])) (v0 : Nat) (v1 : Int32) (M : Mem) (H : Heap) (locs : List Loc) (ls : Array Slot), f_X8_frame_b29 k29 v0 v1 M = some r → Hp D ca nx A s M H locs → lv_has ls 2 [(0, .ref v0), (1, .int v1)] → W p l e rm_X8_frame s m args below meth c H locs 0 0 (MQ below (cvI D ca nx A r) args s 0 0 A) (F0 m 29 ls []) := by
    intro k29 hk29 v0 v1 M H locs ls hf hR hl
    unfold f_X8_frame_b29 at hf
    refine lv_iload_n (pc := 29) hx hb dX8_frame_29 rfl (lv_at hl 1 rfl) ?_
    refine lv_bipush (pc := 30) (v := (64 : Int32)) hx hb dX8_frame_30 (by decide) ?_
    refine lv_icmp_ge (pc := 32) (tgt := 60) hx hb dX8_frame_32 (by decide) (fun hc => ?_) (fun hc => ?_)
    · replace hf := it_t hf hc
      refine lv_aload_n (pc := 60) hx hb dX8_frame_60 rfl (lv_at hl 0 rfl) ?_
      refine rg_getr (pc := 61) (C := RX8) (T := TX8) (N := 37) (κ := 8) hx hb hts hK hR hown in_8 rfl (by decide) 31 (by decide) m_699 rfl dX8_frame_61 hf (fun a1 hf => ?_)
      refine lv_aload_n (pc := 64) hx hb dX8_frame_64 rfl (lv_at hl 0 rfl) ?_
      refine rg_get (pc := 65) (C := RX8) (T := TX8) (N := 37) (κ := 8) (v := .int (mm_i M v0 29)) hx hb hts hK hR hown in_8 rfl (by decide) 29 (by decide) m_697 rfl dX8_frame_65 hf (fun hf => ?_)
      refine lv_aload_n (pc := 68) hx hb dX8_frame_68 rfl (lv_at hl 0 rfl) ?_
      refine rg_get (pc := 69) (C := RX8) (T := TX8) (N := 37) (κ := 8) (v := .int (mm_i M v0 1)) hx hb hts hK hR hown in_8 rfl (by decide) 1 (by decide) m_669 rfl dX8_frame_69 hf (fun hf => ?_)
      refine rg_iast (pc := 72) hx hb hK hR dX8_frame_72 hf (fun M2 H locs hf hR => ?_)
      refine lv_aload_n (pc := 73) hx hb dX8_frame_73 rfl (lv_at hl 0 rfl) ?_
      refine lv_dup (pc := 74) hx hb dX8_frame_74 rfl ?_
      refine rg_get (pc := 75) (C := RX8) (T := TX8) (N := 37) (κ := 8) (v := .int (mm_i M2 v0 29)) hx hb hts hK hR hown in_8 rfl (by decide) 29 (by decide) m_697 rfl dX8_frame_75 hf (fun hf => ?_)
      refine lv_iconst (pc := 78) (v := (1 : Int32)) hx hb dX8_frame_78 (by decide) ?_
      refine lv_iadd (pc := 79) hx hb dX8_frame_79 ?_
      refine rg_puti (pc := 80) (C := RX8) (T := TX8) (N := 37) (κ := 8) hx hb hts hK hR hown in_8 rfl (by decide) 29 (by decide) m_697 tyX8 tyX8_ok nmX8 rfl rfl rfl rfl dX8_frame_80 hf (fun M3 H locs hf hR => ?_)
      refine lv_aload_n (pc := 83) hx hb dX8_frame_83 rfl (lv_at hl 0 rfl) ?_
      refine rg_get (pc := 84) (C := RX8) (T := TX8) (N := 37) (κ := 8) (v := .int (mm_i M3 v0 29)) hx hb hts hK hR hown in_8 rfl (by decide) 29 (by decide) m_697 rfl dX8_frame_84 hf (fun hf => ?_)
      refine lv_iconst (pc := 87) (v := (1 : Int32)) hx hb dX8_frame_87 (by decide) ?_
      refine lv_isub (pc := 88) hx hb dX8_frame_88 ?_
      exact rg_iret (pc := 89) hx hb hlocks hr hf hR dX8_frame_89
    · replace hf := it_f hf hc
      refine lv_aload_n (pc := 35) hx hb dX8_frame_35 rfl (lv_at hl 0 rfl) ?_
      refine rg_getr (pc := 36) (C := RX8) (T := TX8) (N := 37) (κ := 8) hx hb hts hK hR hown in_8 rfl (by decide) 30 (by decide) m_698 rfl dX8_frame_36 hf (fun a4 hf => ?_)
      refine lv_bipush (pc := 39) (v := (64 : Int32)) hx hb dX8_frame_39 (by decide) ?_
      refine lv_aload_n (pc := 41) hx hb dX8_frame_41 rfl (lv_at hl 0 rfl) ?_
      refine rg_get (pc := 42) (C := RX8) (T := TX8) (N := 37) (κ := 8) (v := .int (mm_i M v0 29)) hx hb hts hK hR hown in_8 rfl (by decide) 29 (by decide) m_697 rfl dX8_frame_42 hf (fun hf => ?_)
      refine lv_imul (pc := 45) hx hb dX8_frame_45 ?_
      refine lv_iload_n (pc := 46) hx hb dX8_frame_46 rfl (lv_at hl 1 rfl) ?_
      refine lv_iadd (pc := 47) hx hb dX8_frame_47 ?_
      refine lv_aload_n (pc := 48) hx hb dX8_frame_48 rfl (lv_at hl 0 rfl) ?_
      refine lv_iload_n (pc := 49) hx hb dX8_frame_49 rfl (lv_at hl 1 rfl) ?_
      obtain ⟨hq, hf⟩ := gd_e hf
      refine rg_I (pc := 50) hf hR hA (fun z hz => rn_V (κ := 8) (As := [.int v1]) (rest := [.int (((64 : Int32) * (mm_i M v0 29)) + v1), .ref a4]) hC hR rfl (by decide) hq (c_X8_massOf  hz _) m_870 m_872 ms_22 m_9 m_873 hd_X8_massOf ⟨rfl, rfl, Nat.le_of_ble_eq_true rfl, Nat.le_of_ble_eq_true rfl⟩ rfl hl.1 rfl (Nat.le_of_ble_eq_true rfl) dX8_frame_50 ⟨Nat.le_of_ble_eq_true rfl, Nat.le_of_ble_eq_true rfl⟩) (fun z5 H locs hf hR => ?_)
      refine rg_iast (pc := 53) hx hb hK hR dX8_frame_53 hf (fun M6 H locs hf hR => ?_)
      refine rg_iinc (pc := 54) hx hb dX8_frame_54 hl (k := 1) rfl rfl (by decide) hf (fun x7 ls hf hl => ?_)
      have hl : lv_has ls 2 [(1, .int x7), (0, .ref v0)] := hl
      refine lv_goto (pc := 57) (tgt := 29) hx hb dX8_frame_57 (by decide) ?_
      exact hk29 v0 x7 M6 _ _ _ hf hR (lv_sub hl [1, 0] rfl)
  have hL29 : ∀  (n : Nat) (v0 : Nat) (v1 : Int32) (M : Mem) (H : Heap) (locs : List Loc) (ls : Array Slot), f_X8_frame_L29  n v0 v1 M = some r → Hp D ca nx A s M H locs → lv_has ls 2 [(0, .ref v0), (1, .int v1)] → W p l e rm_X8_frame s m args below meth c H locs 0 0 (MQ below (cvI D ca nx A r) args s 0 0 A) (F0 m 29 ls []) := by
    intro  n
    induction n with
    | zero => intro v0 v1 M H locs ls hf; exact nomatch (show (none : Option (Mem × Int32)) = some r from hf)
    | succ n ih => intro v0 v1 M H locs ls hf hR hl; exact hB29  (f_X8_frame_L29  n) ih v0 v1 M H locs ls hf hR hl
  have hB15 : ∀  (s0 : Int32) (s1 : Nat) (v0 : Nat) (M : Mem) (H : Heap) (locs : List Loc) (ls : Array Slot), f_X8_frame_b15  s0 s1 v0 M = some r → Hp D ca nx A s M H locs → lv_has ls 2 [(0, .ref v0)] → W p l e rm_X8_frame s m args below meth c H locs 0 0 (MQ below (cvI D ca nx A r) args s 0 0 A) (F0 m 15 ls [.int s0, .ref s1]) := by
    intro  s0 s1 v0 M H locs ls hf hR hl
    unfold f_X8_frame_b15 at hf
    refine rg_puti (pc := 15) (C := RX8) (T := TX8) (N := 37) (κ := 8) hx hb hts hK hR hown in_8 rfl (by decide) 0 (by decide) m_668 tyX8 tyX8_ok nmX8 rfl rfl rfl rfl dX8_frame_15 hf (fun M8 H locs hf hR => ?_)
    refine lv_aload_n (pc := 18) hx hb dX8_frame_18 rfl (lv_at hl 0 rfl) ?_
    refine rg_get (pc := 19) (C := RX8) (T := TX8) (N := 37) (κ := 8) (v := .int (mm_i M8 v0 0)) hx hb hts hK hR hown in_8 rfl (by decide) 0 (by decide) m_668 rfl dX8_frame_19 hf (fun hf => ?_)
    refine lv_if_le (pc := 22) (tgt := 27) hx hb dX8_frame_22 (by decide) (fun hc => ?_) (fun hc => ?_)
    · replace hf := it_t hf hc
      refine lv_iconst (pc := 27) (v := (0 : Int32)) hx hb dX8_frame_27 (by decide) ?_
      refine lv_istore_n (pc := 28) (lv' := [(1, .int (0 : Int32)), (0, .ref v0)]) hx hb dX8_frame_28 rfl hl (by decide) rfl (fun ls hl => ?_)
      exact hL29 200 v0 (0 : Int32) M8 _ _ _ hf hR (lv_sub hl [1, 0] rfl)
    · replace hf := it_f hf hc
      refine lv_iconst (pc := 25) (v := (0 : Int32)) hx hb dX8_frame_25 (by decide) ?_
      exact rg_iret (pc := 26) hx hb hlocks hr hf hR dX8_frame_26
  unfold f_X8_frame at hf
  refine lv_aload_n (pc := 0) hx hb dX8_frame_0 rfl (lv_at hl 0 rfl) ?_
  refine lv_aload_n (pc := 1) hx hb dX8_frame_1 rfl (lv_at hl 0 rfl) ?_
  refine rg_get (pc := 2) (C := RX8) (T := TX8) (N := 37) (κ := 8) (v := .int (mm_i M v0 29)) hx hb hts hK hR hown in_8 rfl (by decide) 29 (by decide) m_697 rfl dX8_frame_2 hf (fun hf => ?_)
  refine lv_bipush (pc := 5) (v := (20 : Int32)) hx hb dX8_frame_5 (by decide) ?_
  refine lv_icmp_ne (pc := 7) (tgt := 14) hx hb dX8_frame_7 (by decide) (fun hc => ?_) (fun hc => ?_)
  · replace hf := it_f hf hc
    refine lv_iconst (pc := 14) (v := (0 : Int32)) hx hb dX8_frame_14 (by decide) ?_
    exact hB15 (0 : Int32) v0 v0 M _ _ _ hf hR (lv_sub hl [0] rfl)
  · replace hf := it_t hf hc
    refine lv_iconst (pc := 10) (v := (1 : Int32)) hx hb dX8_frame_10 (by decide) ?_
    refine lv_goto (pc := 11) (tgt := 15) hx hb dX8_frame_11 (by decide) ?_
    exact hB15 (1 : Int32) v0 v0 M _ _ _ hf hR (lv_sub hl [0] rfl)
-- X8_isFrame
def f_X8_isFrame (v0 : Nat) (v1 : Int32) (M : Mem) : Option (Mem × Int32) := gd (M.1 v0 = 8) <| bd (f_X8_isIn v1 (0 : Int32) ((mm_i M v0 29) - (1 : Int32)) M) fun z1 => gd (z1.2 = 0 ∨ z1.2 = 1) <| some (z1.1, z1.2)
abbrev rm_X8_isFrame : Room := { frames := 1, cells := 0, slots := 0, locals := 22 }
theorem hd_X8_isFrame : yX8_isFrame.cls ≠ "java/lang/invoke/MethodHandle" ∧ yX8_isFrame.cls ≠ "java/lang/invoke/VarHandle" ∧ (parseMethodDescriptor yX8_isFrame.desc).map (fun d => d.parameters.length) = some 1 := by decide +kernel
set_option maxHeartbeats 8000000 in
set_option maxRecDepth 100000 in
theorem c_X8_isFrame {l : Launch} {D : va_G} {ca : Nat → ClassId} {b : Nat} {nx : Bool} {v0 : Nat} {v1 : Int32} {M : Mem} {r : Mem × Int32} (hf : f_X8_isFrame v0 v1 M = some r) : CtI l yX8_isFrame cX8_isFrame 2 (some .boolean) rm_X8_isFrame D ca b nx [.ref v0, .int v1] M r := by
  intro sz
  refine body_start (Qc := fun A => cvI D ca nx A r) (by decide +kernel) (Nat.le_of_ble_eq_true rfl) ?_
  intro p e s m args below meth c A hC hr hR ls hl
  obtain ⟨hx, hb, hml, hts, hown, hlocks, hXe, hA, hAb, hnm⟩ := id hC
  have hK := hXe.1
  have hl : lv_has ls 2 [(0, .ref v0), (1, .int v1)] := hl
  unfold f_X8_isFrame at hf
  refine lv_iload_n (pc := 0) hx hb dX8_isFrame_0 rfl (lv_at hl 1 rfl) ?_
  refine lv_iconst (pc := 1) (v := (0 : Int32)) hx hb dX8_isFrame_1 (by decide) ?_
  refine lv_aload_n (pc := 2) hx hb dX8_isFrame_2 rfl (lv_at hl 0 rfl) ?_
  refine rg_get (pc := 3) (C := RX8) (T := TX8) (N := 37) (κ := 8) (v := .int (mm_i M v0 29)) hx hb hts hK hR hown in_8 rfl (by decide) 29 (by decide) m_697 rfl dX8_isFrame_3 hf (fun hf => ?_)
  refine lv_iconst (pc := 6) (v := (1 : Int32)) hx hb dX8_isFrame_6 (by decide) ?_
  refine lv_isub (pc := 7) hx hb dX8_isFrame_7 ?_
  refine rg_I (pc := 8) hf hR hA (fun z hz => rn_S (As := [.int v1, .int (0 : Int32), .int ((mm_i M v0 29) - (1 : Int32))]) (rest := []) hC hR (c_X8_isIn  hz _) m_792 m_793 m_9 m_794 hd_X8_isIn ⟨rfl, rfl, Nat.le_of_ble_eq_true rfl, Nat.le_of_ble_eq_true rfl⟩ rfl hl.1 rfl (Nat.le_of_ble_eq_true rfl) dX8_isFrame_8 ⟨Nat.le_of_ble_eq_true rfl, Nat.le_of_ble_eq_true rfl⟩) (fun z1 H locs hf hR => ?_)
  exact rg_zret (pc := 11) hx hb hlocks hr hf hR dX8_isFrame_11
-- X8_claim
def f_X8_claim_b73  (s0 : Int32) (s1 : Nat) (v0 : Nat) (v1 : Int32) (v2 : Int32) (v3 : Int32) (v4 : Int32) (M : Mem) : Option (Mem × Int32) := gd (M.1 s1 = 8) <| lt_ (ms_i M s1 0 s0) fun M1 => gd (M1.1 v0 = 8) <| if (mm_i M1 v0 0) ≤ 0 then (gd (M1.1 v0 = 8) <| rd (mm_r M1 v0 33) fun a2 => gd (M1.1 v0 = 8) <| gd (M1.1 a2 = 9 ∧ vi_ (mm_i M1 v0 32) (mm_N M1 a2)) <| lt_ (ms_i M1 a2 ((mm_i M1 v0 32)).toNatClampNeg v1) fun M3 => gd (M3.1 v0 = 8) <| rd (mm_r M3 v0 34) fun a4 => gd (M3.1 v0 = 8) <| gd (M3.1 a4 = 9 ∧ vi_ (mm_i M3 v0 32) (mm_N M3 a4)) <| lt_ (ms_i M3 a4 ((mm_i M3 v0 32)).toNatClampNeg v2) fun M5 => gd (M5.1 v0 = 8) <| rd (mm_r M5 v0 35) fun a6 => gd (M5.1 v0 = 8) <| gd (M5.1 a6 = 9 ∧ vi_ (mm_i M5 v0 32) (mm_N M5 a6)) <| lt_ (ms_i M5 a6 ((mm_i M5 v0 32)).toNatClampNeg v3) fun M7 => gd (M7.1 v0 = 8) <| rd (mm_r M7 v0 36) fun a8 => gd (M7.1 v0 = 8) <| gd (M7.1 a8 = 9 ∧ vi_ (mm_i M7 v0 32) (mm_N M7 a8)) <| lt_ (ms_i M7 a8 ((mm_i M7 v0 32)).toNatClampNeg v4) fun M9 => gd (M9.1 v0 = 8) <| gd (M9.1 v0 = 8) <| lt_ (ms_i M9 v0 32 ((mm_i M9 v0 32) + (1 : Int32))) fun M10 => gd (M10.1 v0 = 8) <| some (M10, ((mm_i M10 v0 32) - (1 : Int32)))) else (some (M1, (0 : Int32)))
def f_X8_claim_b35  (s0 : Int32) (v0 : Nat) (v1 : Int32) (v2 : Int32) (v3 : Int32) (v4 : Int32) (M : Mem) : Option (Mem × Int32) := gd (M.1 v0 = 8) <| bd (f_X8_isFrame v0 v1 M) fun z11 => if z11.2 = 0 then (f_X8_claim_b73 (1 : Int32) v0 v0 v1 v2 v3 v4 z11.1) else (if s0 = 0 then (f_X8_claim_b73 (2 : Int32) v0 v0 v1 v2 v3 v4 z11.1) else (gd (z11.1.1 v0 = 8) <| if (mm_i z11.1 v0 32) = (40 : Int32) then (f_X8_claim_b73 (3 : Int32) v0 v0 v1 v2 v3 v4 z11.1) else (f_X8_claim_b73 (0 : Int32) v0 v0 v1 v2 v3 v4 z11.1)))
def f_X8_claim_b34  (v0 : Nat) (v1 : Int32) (v2 : Int32) (v3 : Int32) (v4 : Int32) (M : Mem) : Option (Mem × Int32) := f_X8_claim_b35 (0 : Int32) v0 v1 v2 v3 v4 M
def f_X8_claim (v0 : Nat) (v1 : Int32) (v2 : Int32) (v3 : Int32) (v4 : Int32) (M : Mem) : Option (Mem × Int32) := bd (f_X8_isLane v2 M) fun z12 => if z12.2 = 0 then (f_X8_claim_b34 v0 v1 v2 v3 v4 z12.1) else (bd (f_X8_isLane v3 z12.1) fun z13 => if z13.2 = 0 then (f_X8_claim_b34 v0 v1 v2 v3 v4 z13.1) else (if v3 < v2 then (f_X8_claim_b34 v0 v1 v2 v3 v4 z13.1) else (bd (f_X8_isIn v4 (0 : Int32) (1000000 : Int32) z13.1) fun z14 => if z14.2 = 0 then (f_X8_claim_b34 v0 v1 v2 v3 v4 z14.1) else (f_X8_claim_b35 (1 : Int32) v0 v1 v2 v3 v4 z14.1))))
abbrev rm_X8_claim : Room := { frames := 2, cells := 0, slots := 0, locals := 43 }
theorem hd_X8_claim : yX8_claim.cls ≠ "java/lang/invoke/MethodHandle" ∧ yX8_claim.cls ≠ "java/lang/invoke/VarHandle" ∧ (parseMethodDescriptor yX8_claim.desc).map (fun d => d.parameters.length) = some 4 := by decide +kernel
set_option maxHeartbeats 8000000 in
set_option maxRecDepth 100000 in
theorem c_X8_claim {l : Launch} {D : va_G} {ca : Nat → ClassId} {b : Nat} {nx : Bool} {v0 : Nat} {v1 : Int32} {v2 : Int32} {v3 : Int32} {v4 : Int32} {M : Mem} {r : Mem × Int32} (hf : f_X8_claim v0 v1 v2 v3 v4 M = some r) : CtI l yX8_claim cX8_claim 6 (some .int) rm_X8_claim D ca b nx [.ref v0, .int v1, .int v2, .int v3, .int v4] M r := by
  intro sz
  refine body_start (Qc := fun A => cvI D ca nx A r) (by decide +kernel) (Nat.le_of_ble_eq_true rfl) ?_
  intro p e s m args below meth c A hC hr hR ls hl
  obtain ⟨hx, hb, hml, hts, hown, hlocks, hXe, hA, hAb, hnm⟩ := id hC
  have hK := hXe.1
  have hl : lv_has ls 6 [(0, .ref v0), (1, .int v1), (2, .int v2), (3, .int v3), (4, .int v4)] := hl
  have hB73 : ∀  (s0 : Int32) (s1 : Nat) (v0 : Nat) (v1 : Int32) (v2 : Int32) (v3 : Int32) (v4 : Int32) (M : Mem) (H : Heap) (locs : List Loc) (ls : Array Slot), f_X8_claim_b73  s0 s1 v0 v1 v2 v3 v4 M = some r → Hp D ca nx A s M H locs → lv_has ls 6 [(0, .ref v0), (1, .int v1), (2, .int v2), (3, .int v3), (4, .int v4)] → W p l e rm_X8_claim s m args below meth c H locs 0 0 (MQ below (cvI D ca nx A r) args s 0 0 A) (F0 m 73 ls [.int s0, .ref s1]) := by
    intro  s0 s1 v0 v1 v2 v3 v4 M H locs ls hf hR hl
    unfold f_X8_claim_b73 at hf
    refine rg_puti (pc := 73) (C := RX8) (T := TX8) (N := 37) (κ := 8) hx hb hts hK hR hown in_8 rfl (by decide) 0 (by decide) m_668 tyX8 tyX8_ok nmX8 rfl rfl rfl rfl dX8_claim_73 hf (fun M1 H locs hf hR => ?_)
    refine lv_aload_n (pc := 76) hx hb dX8_claim_76 rfl (lv_at hl 0 rfl) ?_
    refine rg_get (pc := 77) (C := RX8) (T := TX8) (N := 37) (κ := 8) (v := .int (mm_i M1 v0 0)) hx hb hts hK hR hown in_8 rfl (by decide) 0 (by decide) m_668 rfl dX8_claim_77 hf (fun hf => ?_)
    refine lv_if_le (pc := 80) (tgt := 85) hx hb dX8_claim_80 (by decide) (fun hc => ?_) (fun hc => ?_)
    · replace hf := it_t hf hc
      refine lv_aload_n (pc := 85) hx hb dX8_claim_85 rfl (lv_at hl 0 rfl) ?_
      refine rg_getr (pc := 86) (C := RX8) (T := TX8) (N := 37) (κ := 8) hx hb hts hK hR hown in_8 rfl (by decide) 33 (by decide) m_701 rfl dX8_claim_86 hf (fun a2 hf => ?_)
      refine lv_aload_n (pc := 89) hx hb dX8_claim_89 rfl (lv_at hl 0 rfl) ?_
      refine rg_get (pc := 90) (C := RX8) (T := TX8) (N := 37) (κ := 8) (v := .int (mm_i M1 v0 32)) hx hb hts hK hR hown in_8 rfl (by decide) 32 (by decide) m_700 rfl dX8_claim_90 hf (fun hf => ?_)
      refine lv_iload_n (pc := 93) hx hb dX8_claim_93 rfl (lv_at hl 1 rfl) ?_
      refine rg_iast (pc := 94) hx hb hK hR dX8_claim_94 hf (fun M3 H locs hf hR => ?_)
      refine lv_aload_n (pc := 95) hx hb dX8_claim_95 rfl (lv_at hl 0 rfl) ?_
      refine rg_getr (pc := 96) (C := RX8) (T := TX8) (N := 37) (κ := 8) hx hb hts hK hR hown in_8 rfl (by decide) 34 (by decide) m_702 rfl dX8_claim_96 hf (fun a4 hf => ?_)
      refine lv_aload_n (pc := 99) hx hb dX8_claim_99 rfl (lv_at hl 0 rfl) ?_
      refine rg_get (pc := 100) (C := RX8) (T := TX8) (N := 37) (κ := 8) (v := .int (mm_i M3 v0 32)) hx hb hts hK hR hown in_8 rfl (by decide) 32 (by decide) m_700 rfl dX8_claim_100 hf (fun hf => ?_)
      refine lv_iload_n (pc := 103) hx hb dX8_claim_103 rfl (lv_at hl 2 rfl) ?_
      refine rg_iast (pc := 104) hx hb hK hR dX8_claim_104 hf (fun M5 H locs hf hR => ?_)
      refine lv_aload_n (pc := 105) hx hb dX8_claim_105 rfl (lv_at hl 0 rfl) ?_
      refine rg_getr (pc := 106) (C := RX8) (T := TX8) (N := 37) (κ := 8) hx hb hts hK hR hown in_8 rfl (by decide) 35 (by decide) m_703 rfl dX8_claim_106 hf (fun a6 hf => ?_)
      refine lv_aload_n (pc := 109) hx hb dX8_claim_109 rfl (lv_at hl 0 rfl) ?_
      refine rg_get (pc := 110) (C := RX8) (T := TX8) (N := 37) (κ := 8) (v := .int (mm_i M5 v0 32)) hx hb hts hK hR hown in_8 rfl (by decide) 32 (by decide) m_700 rfl dX8_claim_110 hf (fun hf => ?_)
      refine lv_iload_n (pc := 113) hx hb dX8_claim_113 rfl (lv_at hl 3 rfl) ?_
      refine rg_iast (pc := 114) hx hb hK hR dX8_claim_114 hf (fun M7 H locs hf hR => ?_)
      refine lv_aload_n (pc := 115) hx hb dX8_claim_115 rfl (lv_at hl 0 rfl) ?_
      refine rg_getr (pc := 116) (C := RX8) (T := TX8) (N := 37) (κ := 8) hx hb hts hK hR hown in_8 rfl (by decide) 36 (by decide) m_704 rfl dX8_claim_116 hf (fun a8 hf => ?_)
      refine lv_aload_n (pc := 119) hx hb dX8_claim_119 rfl (lv_at hl 0 rfl) ?_
      refine rg_get (pc := 120) (C := RX8) (T := TX8) (N := 37) (κ := 8) (v := .int (mm_i M7 v0 32)) hx hb hts hK hR hown in_8 rfl (by decide) 32 (by decide) m_700 rfl dX8_claim_120 hf (fun hf => ?_)
      refine lv_iload (pc := 123) hx hb dX8_claim_123 (lv_at hl 4 rfl) ?_
      refine rg_iast (pc := 125) hx hb hK hR dX8_claim_125 hf (fun M9 H locs hf hR => ?_)
      refine lv_aload_n (pc := 126) hx hb dX8_claim_126 rfl (lv_at hl 0 rfl) ?_
      refine lv_dup (pc := 127) hx hb dX8_claim_127 rfl ?_
      refine rg_get (pc := 128) (C := RX8) (T := TX8) (N := 37) (κ := 8) (v := .int (mm_i M9 v0 32)) hx hb hts hK hR hown in_8 rfl (by decide) 32 (by decide) m_700 rfl dX8_claim_128 hf (fun hf => ?_)
      refine lv_iconst (pc := 131) (v := (1 : Int32)) hx hb dX8_claim_131 (by decide) ?_
      refine lv_iadd (pc := 132) hx hb dX8_claim_132 ?_
      refine rg_puti (pc := 133) (C := RX8) (T := TX8) (N := 37) (κ := 8) hx hb hts hK hR hown in_8 rfl (by decide) 32 (by decide) m_700 tyX8 tyX8_ok nmX8 rfl rfl rfl rfl dX8_claim_133 hf (fun M10 H locs hf hR => ?_)
      refine lv_aload_n (pc := 136) hx hb dX8_claim_136 rfl (lv_at hl 0 rfl) ?_
      refine rg_get (pc := 137) (C := RX8) (T := TX8) (N := 37) (κ := 8) (v := .int (mm_i M10 v0 32)) hx hb hts hK hR hown in_8 rfl (by decide) 32 (by decide) m_700 rfl dX8_claim_137 hf (fun hf => ?_)
      refine lv_iconst (pc := 140) (v := (1 : Int32)) hx hb dX8_claim_140 (by decide) ?_
      refine lv_isub (pc := 141) hx hb dX8_claim_141 ?_
      exact rg_iret (pc := 142) hx hb hlocks hr hf hR dX8_claim_142
    · replace hf := it_f hf hc
      refine lv_iconst (pc := 83) (v := (0 : Int32)) hx hb dX8_claim_83 (by decide) ?_
      exact rg_iret (pc := 84) hx hb hlocks hr hf hR dX8_claim_84
  have hB35 : ∀  (s0 : Int32) (v0 : Nat) (v1 : Int32) (v2 : Int32) (v3 : Int32) (v4 : Int32) (M : Mem) (H : Heap) (locs : List Loc) (ls : Array Slot), f_X8_claim_b35  s0 v0 v1 v2 v3 v4 M = some r → Hp D ca nx A s M H locs → lv_has ls 6 [(0, .ref v0), (1, .int v1), (2, .int v2), (3, .int v3), (4, .int v4)] → W p l e rm_X8_claim s m args below meth c H locs 0 0 (MQ below (cvI D ca nx A r) args s 0 0 A) (F0 m 35 ls [.int s0]) := by
    intro  s0 v0 v1 v2 v3 v4 M H locs ls hf hR hl
    unfold f_X8_claim_b35 at hf
    refine lv_istore (pc := 35) (lv' := [(5, .int s0), (0, .ref v0), (1, .int v1), (2, .int v2), (3, .int v3), (4, .int v4)]) hx hb dX8_claim_35 hl (by decide) rfl (fun ls hl => ?_)
    refine lv_aload_n (pc := 37) hx hb dX8_claim_37 rfl (lv_at hl 1 rfl) ?_
    refine lv_aload_n (pc := 38) hx hb dX8_claim_38 rfl (lv_at hl 1 rfl) ?_
    refine lv_iload_n (pc := 39) hx hb dX8_claim_39 rfl (lv_at hl 2 rfl) ?_
    obtain ⟨hq, hf⟩ := gd_e hf
    refine rg_I (pc := 40) hf hR hA (fun z hz => rn_V (κ := 8) (As := [.int v1]) (rest := [.ref v0]) hC hR rfl (by decide) hq (c_X8_isFrame  hz _) m_879 m_881 ms_23 m_9 m_882 hd_X8_isFrame ⟨rfl, rfl, Nat.le_of_ble_eq_true rfl, Nat.le_of_ble_eq_true rfl⟩ rfl hl.1 rfl (Nat.le_of_ble_eq_true rfl) dX8_claim_40 ⟨Nat.le_of_ble_eq_true rfl, Nat.le_of_ble_eq_true rfl⟩) (fun z11 H locs hf hR => ?_)
    refine lv_if_ne (pc := 43) (tgt := 50) hx hb dX8_claim_43 (by decide) (fun hc => ?_) (fun hc => ?_)
    · replace hf := it_f hf hc
      refine lv_iload (pc := 50) hx hb dX8_claim_50 (lv_at hl 0 rfl) ?_
      refine lv_if_ne (pc := 52) (tgt := 59) hx hb dX8_claim_52 (by decide) (fun hc => ?_) (fun hc => ?_)
      · replace hf := it_f hf hc
        refine lv_aload_n (pc := 59) hx hb dX8_claim_59 rfl (lv_at hl 1 rfl) ?_
        refine rg_get (pc := 60) (C := RX8) (T := TX8) (N := 37) (κ := 8) (v := .int (mm_i z11.1 v0 32)) hx hb hts hK hR hown in_8 rfl (by decide) 32 (by decide) m_700 rfl dX8_claim_60 hf (fun hf => ?_)
        refine lv_bipush (pc := 63) (v := (40 : Int32)) hx hb dX8_claim_63 (by decide) ?_
        refine lv_icmp_ne (pc := 65) (tgt := 72) hx hb dX8_claim_65 (by decide) (fun hc => ?_) (fun hc => ?_)
        · replace hf := it_f hf hc
          refine lv_iconst (pc := 72) (v := (0 : Int32)) hx hb dX8_claim_72 (by decide) ?_
          exact hB73 (0 : Int32) v0 v0 v1 v2 v3 v4 z11.1 _ _ _ hf hR (lv_sub hl [1, 2, 3, 4, 5] rfl)
        · replace hf := it_t hf hc
          refine lv_iconst (pc := 68) (v := (3 : Int32)) hx hb dX8_claim_68 (by decide) ?_
          refine lv_goto (pc := 69) (tgt := 73) hx hb dX8_claim_69 (by decide) ?_
          exact hB73 (3 : Int32) v0 v0 v1 v2 v3 v4 z11.1 _ _ _ hf hR (lv_sub hl [1, 2, 3, 4, 5] rfl)
      · replace hf := it_t hf hc
        refine lv_iconst (pc := 55) (v := (2 : Int32)) hx hb dX8_claim_55 (by decide) ?_
        refine lv_goto (pc := 56) (tgt := 73) hx hb dX8_claim_56 (by decide) ?_
        exact hB73 (2 : Int32) v0 v0 v1 v2 v3 v4 z11.1 _ _ _ hf hR (lv_sub hl [1, 2, 3, 4, 5] rfl)
    · replace hf := it_t hf hc
      refine lv_iconst (pc := 46) (v := (1 : Int32)) hx hb dX8_claim_46 (by decide) ?_
      refine lv_goto (pc := 47) (tgt := 73) hx hb dX8_claim_47 (by decide) ?_
      exact hB73 (1 : Int32) v0 v0 v1 v2 v3 v4 z11.1 _ _ _ hf hR (lv_sub hl [1, 2, 3, 4, 5] rfl)
  have hB34 : ∀  (v0 : Nat) (v1 : Int32) (v2 : Int32) (v3 : Int32) (v4 : Int32) (M : Mem) (H : Heap) (locs : List Loc) (ls : Array Slot), f_X8_claim_b34  v0 v1 v2 v3 v4 M = some r → Hp D ca nx A s M H locs → lv_has ls 6 [(0, .ref v0), (1, .int v1), (2, .int v2), (3, .int v3), (4, .int v4)] → W p l e rm_X8_claim s m args below meth c H locs 0 0 (MQ below (cvI D ca nx A r) args s 0 0 A) (F0 m 34 ls []) := by
    intro  v0 v1 v2 v3 v4 M H locs ls hf hR hl
    unfold f_X8_claim_b34 at hf
    refine lv_iconst (pc := 34) (v := (0 : Int32)) hx hb dX8_claim_34 (by decide) ?_
    exact hB35 (0 : Int32) v0 v1 v2 v3 v4 M _ _ _ hf hR (lv_sub hl [0, 1, 2, 3, 4] rfl)
  unfold f_X8_claim at hf
  refine lv_iload_n (pc := 0) hx hb dX8_claim_0 rfl (lv_at hl 2 rfl) ?_
  refine rg_I (pc := 1) hf hR hA (fun z hz => rn_S (As := [.int v2]) (rest := []) hC hR (c_X8_isLane  hz _) m_789 m_790 m_9 m_791 hd_X8_isLane ⟨rfl, rfl, Nat.le_of_ble_eq_true rfl, Nat.le_of_ble_eq_true rfl⟩ rfl hl.1 rfl (Nat.le_of_ble_eq_true rfl) dX8_claim_1 ⟨Nat.le_of_ble_eq_true rfl, Nat.le_of_ble_eq_true rfl⟩) (fun z12 H locs hf hR => ?_)
  refine lv_if_eq (pc := 4) (tgt := 34) hx hb dX8_claim_4 (by decide) (fun hc => ?_) (fun hc => ?_)
  · replace hf := it_t hf hc
    exact hB34 v0 v1 v2 v3 v4 z12.1 _ _ _ hf hR (lv_sub hl [0, 1, 2, 3, 4] rfl)
  · replace hf := it_f hf hc
    refine lv_iload_n (pc := 7) hx hb dX8_claim_7 rfl (lv_at hl 3 rfl) ?_
    refine rg_I (pc := 8) hf hR hA (fun z hz => rn_S (As := [.int v3]) (rest := []) hC hR (c_X8_isLane  hz _) m_789 m_790 m_9 m_791 hd_X8_isLane ⟨rfl, rfl, Nat.le_of_ble_eq_true rfl, Nat.le_of_ble_eq_true rfl⟩ rfl hl.1 rfl (Nat.le_of_ble_eq_true rfl) dX8_claim_8 ⟨Nat.le_of_ble_eq_true rfl, Nat.le_of_ble_eq_true rfl⟩) (fun z13 H locs hf hR => ?_)
    refine lv_if_eq (pc := 11) (tgt := 34) hx hb dX8_claim_11 (by decide) (fun hc => ?_) (fun hc => ?_)
    · replace hf := it_t hf hc
      exact hB34 v0 v1 v2 v3 v4 z13.1 _ _ _ hf hR (lv_sub hl [0, 1, 2, 3, 4] rfl)
    · replace hf := it_f hf hc
      refine lv_iload_n (pc := 14) hx hb dX8_claim_14 rfl (lv_at hl 2 rfl) ?_
      refine lv_iload_n (pc := 15) hx hb dX8_claim_15 rfl (lv_at hl 3 rfl) ?_
      refine lv_icmp_gt (pc := 16) (tgt := 34) hx hb dX8_claim_16 (by decide) (fun hc => ?_) (fun hc => ?_)
      · replace hf := it_t hf hc
        exact hB34 v0 v1 v2 v3 v4 z13.1 _ _ _ hf hR (lv_sub hl [0, 1, 2, 3, 4] rfl)
      · replace hf := it_f hf hc
        refine lv_iload (pc := 19) hx hb dX8_claim_19 (lv_at hl 4 rfl) ?_
        refine lv_iconst (pc := 21) (v := (0 : Int32)) hx hb dX8_claim_21 (by decide) ?_
        refine lv_ldc (pc := 22) hx hb hown (hts _ m_878) dX8_claim_22 ?_
        refine rg_I (pc := 24) hf hR hA (fun z hz => rn_S (As := [.int v4, .int (0 : Int32), .int (1000000 : Int32)]) (rest := []) hC hR (c_X8_isIn  hz _) m_792 m_793 m_9 m_794 hd_X8_isIn ⟨rfl, rfl, Nat.le_of_ble_eq_true rfl, Nat.le_of_ble_eq_true rfl⟩ rfl hl.1 rfl (Nat.le_of_ble_eq_true rfl) dX8_claim_24 ⟨Nat.le_of_ble_eq_true rfl, Nat.le_of_ble_eq_true rfl⟩) (fun z14 H locs hf hR => ?_)
        refine lv_if_eq (pc := 27) (tgt := 34) hx hb dX8_claim_27 (by decide) (fun hc => ?_) (fun hc => ?_)
        · replace hf := it_t hf hc
          exact hB34 v0 v1 v2 v3 v4 z14.1 _ _ _ hf hR (lv_sub hl [0, 1, 2, 3, 4] rfl)
        · replace hf := it_f hf hc
          refine lv_iconst (pc := 30) (v := (1 : Int32)) hx hb dX8_claim_30 (by decide) ?_
          refine lv_goto (pc := 31) (tgt := 35) hx hb dX8_claim_31 (by decide) ?_
          exact hB35 (1 : Int32) v0 v1 v2 v3 v4 z14.1 _ _ _ hf hR (lv_sub hl [0, 1, 2, 3, 4] rfl)
-- X8_now
def f_X8_now (v0 : Nat) (M : Mem) : Option (Mem × Int32) := gd (M.1 v0 = 8) <| lt_ (ms_i M v0 0 (0 : Int32)) fun M1 => gd (M1.1 v0 = 8) <| some (M1, (mm_i M1 v0 1))
abbrev rm_X8_now : Room := { frames := 0, cells := 0, slots := 0, locals := 0 }
theorem hd_X8_now : yX8_now.cls ≠ "java/lang/invoke/MethodHandle" ∧ yX8_now.cls ≠ "java/lang/invoke/VarHandle" ∧ (parseMethodDescriptor yX8_now.desc).map (fun d => d.parameters.length) = some 0 := by decide +kernel
set_option maxHeartbeats 8000000 in
set_option maxRecDepth 100000 in
theorem c_X8_now {l : Launch} {D : va_G} {ca : Nat → ClassId} {b : Nat} {nx : Bool} {v0 : Nat} {M : Mem} {r : Mem × Int32} (hf : f_X8_now v0 M = some r) : CtI l yX8_now cX8_now 1 (some .int) rm_X8_now D ca b nx [.ref v0] M r := by
  intro sz
  refine body_start (Qc := fun A => cvI D ca nx A r) (by decide +kernel) (Nat.le_of_ble_eq_true rfl) ?_
  intro p e s m args below meth c A hC hr hR ls hl
  obtain ⟨hx, hb, hml, hts, hown, hlocks, hXe, hA, hAb, hnm⟩ := id hC
  have hK := hXe.1
  have hl : lv_has ls 1 [(0, .ref v0)] := hl
  unfold f_X8_now at hf
  refine lv_aload_n (pc := 0) hx hb dX8_now_0 rfl (lv_at hl 0 rfl) ?_
  refine lv_iconst (pc := 1) (v := (0 : Int32)) hx hb dX8_now_1 (by decide) ?_
  refine rg_puti (pc := 2) (C := RX8) (T := TX8) (N := 37) (κ := 8) hx hb hts hK hR hown in_8 rfl (by decide) 0 (by decide) m_668 tyX8 tyX8_ok nmX8 rfl rfl rfl rfl dX8_now_2 hf (fun M1 H locs hf hR => ?_)
  refine lv_aload_n (pc := 5) hx hb dX8_now_5 rfl (lv_at hl 0 rfl) ?_
  refine rg_get (pc := 6) (C := RX8) (T := TX8) (N := 37) (κ := 8) (v := .int (mm_i M1 v0 1)) hx hb hts hK hR hown in_8 rfl (by decide) 1 (by decide) m_669 rfl dX8_now_6 hf (fun hf => ?_)
  exact rg_iret (pc := 9) hx hb hlocks hr hf hR dX8_now_9
-- X8_told
def f_X8_told_b129  (s0 : Int32) (M : Mem) : Option (Mem × Int32) := some (M, s0)
def f_X8_told_b33  (s0 : Int32) (s1 : Nat) (v0 : Nat) (v1 : Int32) (v2 : Int32) (M : Mem) : Option (Mem × Int32) := gd (M.1 s1 = 8) <| lt_ (ms_i M s1 0 s0) fun M1 => gd (M1.1 v0 = 8) <| if (mm_i M1 v0 0) ≤ 0 then (if v2 = (0 : Int32) then (gd (M1.1 v0 = 8) <| rd (mm_r M1 v0 7) fun a2 => gd (M1.1 a2 = 9 ∧ vi_ v1 (mm_N M1 a2)) <| some (M1, (mm_i M1 a2 (v1).toNatClampNeg))) else if v2 = (1 : Int32) then (gd (M1.1 v0 = 8) <| rd (mm_r M1 v0 8) fun a3 => gd (M1.1 a3 = 9 ∧ vi_ v1 (mm_N M1 a3)) <| some (M1, (mm_i M1 a3 (v1).toNatClampNeg))) else if v2 = (2 : Int32) then (gd (M1.1 v0 = 8) <| rd (mm_r M1 v0 9) fun a4 => gd (M1.1 a4 = 9 ∧ vi_ v1 (mm_N M1 a4)) <| some (M1, (mm_i M1 a4 (v1).toNatClampNeg))) else if v2 = (3 : Int32) then (gd (M1.1 v0 = 8) <| rd (mm_r M1 v0 10) fun a5 => gd (M1.1 a5 = 9 ∧ vi_ v1 (mm_N M1 a5)) <| some (M1, (mm_i M1 a5 (v1).toNatClampNeg))) else if v2 = (4 : Int32) then (gd (M1.1 v0 = 8) <| rd (mm_r M1 v0 11) fun a6 => gd (M1.1 a6 = 9 ∧ vi_ v1 (mm_N M1 a6)) <| some (M1, (mm_i M1 a6 (v1).toNatClampNeg))) else (gd (M1.1 v0 = 8) <| rd (mm_r M1 v0 12) fun a7 => gd (M1.1 a7 = 10 ∧ vi_ v1 (mm_N M1 a7)) <| if (mm_i M1 a7 (v1).toNatClampNeg) = 0 then (f_X8_told_b129 (0 : Int32) M1) else (f_X8_told_b129 (1 : Int32) M1))) else (some (M1, (0 : Int32)))
def f_X8_told (v0 : Nat) (v1 : Int32) (v2 : Int32) (M : Mem) : Option (Mem × Int32) := gd (M.1 v0 = 8) <| bd (f_X8_isIn v1 (0 : Int32) ((mm_i M v0 6) - (1 : Int32)) M) fun z8 => if z8.2 = 0 then (f_X8_told_b33 (1 : Int32) v0 v0 v1 v2 z8.1) else (bd (f_X8_isIn v2 (0 : Int32) (5 : Int32) z8.1) fun z9 => if z9.2 = 0 then (f_X8_told_b33 (2 : Int32) v0 v0 v1 v2 z9.1) else (f_X8_told_b33 (0 : Int32) v0 v0 v1 v2 z9.1))
abbrev rm_X8_told : Room := { frames := 1, cells := 0, slots := 0, locals := 22 }
theorem hd_X8_told : yX8_told.cls ≠ "java/lang/invoke/MethodHandle" ∧ yX8_told.cls ≠ "java/lang/invoke/VarHandle" ∧ (parseMethodDescriptor yX8_told.desc).map (fun d => d.parameters.length) = some 2 := by decide +kernel
set_option maxHeartbeats 8000000 in
set_option maxRecDepth 100000 in
theorem c_X8_told {l : Launch} {D : va_G} {ca : Nat → ClassId} {b : Nat} {nx : Bool} {v0 : Nat} {v1 : Int32} {v2 : Int32} {M : Mem} {r : Mem × Int32} (hf : f_X8_told v0 v1 v2 M = some r) : CtI l yX8_told cX8_told 3 (some .int) rm_X8_told D ca b nx [.ref v0, .int v1, .int v2] M r := by
  intro sz
  refine body_start (Qc := fun A => cvI D ca nx A r) (by decide +kernel) (Nat.le_of_ble_eq_true rfl) ?_
  intro p e s m args below meth c A hC hr hR ls hl
  obtain ⟨hx, hb, hml, hts, hown, hlocks, hXe, hA, hAb, hnm⟩ := id hC
  have hK := hXe.1
  have hl : lv_has ls 3 [(0, .ref v0), (1, .int v1), (2, .int v2)] := hl
  have hB129 : ∀  (s0 : Int32) (M : Mem) (H : Heap) (locs : List Loc) (ls : Array Slot), f_X8_told_b129  s0 M = some r → Hp D ca nx A s M H locs → lv_has ls 3 [] → W p l e rm_X8_told s m args below meth c H locs 0 0 (MQ below (cvI D ca nx A r) args s 0 0 A) (F0 m 129 ls [.int s0]) := by
    intro  s0 M H locs ls hf hR hl
    unfold f_X8_told_b129 at hf
    exact rg_iret (pc := 129) hx hb hlocks hr hf hR dX8_told_129
  have hB33 : ∀  (s0 : Int32) (s1 : Nat) (v0 : Nat) (v1 : Int32) (v2 : Int32) (M : Mem) (H : Heap) (locs : List Loc) (ls : Array Slot), f_X8_told_b33  s0 s1 v0 v1 v2 M = some r → Hp D ca nx A s M H locs → lv_has ls 3 [(0, .ref v0), (1, .int v1), (2, .int v2)] → W p l e rm_X8_told s m args below meth c H locs 0 0 (MQ below (cvI D ca nx A r) args s 0 0 A) (F0 m 33 ls [.int s0, .ref s1]) := by
    intro  s0 s1 v0 v1 v2 M H locs ls hf hR hl
    unfold f_X8_told_b33 at hf
    refine rg_puti (pc := 33) (C := RX8) (T := TX8) (N := 37) (κ := 8) hx hb hts hK hR hown in_8 rfl (by decide) 0 (by decide) m_668 tyX8 tyX8_ok nmX8 rfl rfl rfl rfl dX8_told_33 hf (fun M1 H locs hf hR => ?_)
    refine lv_aload_n (pc := 36) hx hb dX8_told_36 rfl (lv_at hl 0 rfl) ?_
    refine rg_get (pc := 37) (C := RX8) (T := TX8) (N := 37) (κ := 8) (v := .int (mm_i M1 v0 0)) hx hb hts hK hR hown in_8 rfl (by decide) 0 (by decide) m_668 rfl dX8_told_37 hf (fun hf => ?_)
    refine lv_if_le (pc := 40) (tgt := 45) hx hb dX8_told_40 (by decide) (fun hc => ?_) (fun hc => ?_)
    · replace hf := it_t hf hc
      refine lv_iload_n (pc := 45) hx hb dX8_told_45 rfl (lv_at hl 2 rfl) ?_
      by_cases hw0 : v2 = (0 : Int32)
      · replace hf := it_t hf hw0
        refine lv_tableIn (pc := 46) (off := 34) (tgt := 80) hx hb dX8_told_46 (by rw [hw0]; decide) (by rw [hw0]; decide) (by rw [hw0]; decide) (by decide) ?_
        refine lv_aload_n (pc := 80) hx hb dX8_told_80 rfl (lv_at hl 0 rfl) ?_
        refine rg_getr (pc := 81) (C := RX8) (T := TX8) (N := 37) (κ := 8) hx hb hts hK hR hown in_8 rfl (by decide) 7 (by decide) m_675 rfl dX8_told_81 hf (fun a2 hf => ?_)
        refine lv_iload_n (pc := 84) hx hb dX8_told_84 rfl (lv_at hl 1 rfl) ?_
        refine rg_iald (pc := 85) hx hb hK hR dX8_told_85 hf (fun hf => ?_)
        exact rg_iret (pc := 86) hx hb hlocks hr hf hR dX8_told_86
      replace hf := it_f hf hw0
      by_cases hw1 : v2 = (1 : Int32)
      · replace hf := it_t hf hw1
        refine lv_tableIn (pc := 46) (off := 41) (tgt := 87) hx hb dX8_told_46 (by rw [hw1]; decide) (by rw [hw1]; decide) (by rw [hw1]; decide) (by decide) ?_
        refine lv_aload_n (pc := 87) hx hb dX8_told_87 rfl (lv_at hl 0 rfl) ?_
        refine rg_getr (pc := 88) (C := RX8) (T := TX8) (N := 37) (κ := 8) hx hb hts hK hR hown in_8 rfl (by decide) 8 (by decide) m_676 rfl dX8_told_88 hf (fun a3 hf => ?_)
        refine lv_iload_n (pc := 91) hx hb dX8_told_91 rfl (lv_at hl 1 rfl) ?_
        refine rg_iald (pc := 92) hx hb hK hR dX8_told_92 hf (fun hf => ?_)
        exact rg_iret (pc := 93) hx hb hlocks hr hf hR dX8_told_93
      replace hf := it_f hf hw1
      by_cases hw2 : v2 = (2 : Int32)
      · replace hf := it_t hf hw2
        refine lv_tableIn (pc := 46) (off := 48) (tgt := 94) hx hb dX8_told_46 (by rw [hw2]; decide) (by rw [hw2]; decide) (by rw [hw2]; decide) (by decide) ?_
        refine lv_aload_n (pc := 94) hx hb dX8_told_94 rfl (lv_at hl 0 rfl) ?_
        refine rg_getr (pc := 95) (C := RX8) (T := TX8) (N := 37) (κ := 8) hx hb hts hK hR hown in_8 rfl (by decide) 9 (by decide) m_677 rfl dX8_told_95 hf (fun a4 hf => ?_)
        refine lv_iload_n (pc := 98) hx hb dX8_told_98 rfl (lv_at hl 1 rfl) ?_
        refine rg_iald (pc := 99) hx hb hK hR dX8_told_99 hf (fun hf => ?_)
        exact rg_iret (pc := 100) hx hb hlocks hr hf hR dX8_told_100
      replace hf := it_f hf hw2
      by_cases hw3 : v2 = (3 : Int32)
      · replace hf := it_t hf hw3
        refine lv_tableIn (pc := 46) (off := 55) (tgt := 101) hx hb dX8_told_46 (by rw [hw3]; decide) (by rw [hw3]; decide) (by rw [hw3]; decide) (by decide) ?_
        refine lv_aload_n (pc := 101) hx hb dX8_told_101 rfl (lv_at hl 0 rfl) ?_
        refine rg_getr (pc := 102) (C := RX8) (T := TX8) (N := 37) (κ := 8) hx hb hts hK hR hown in_8 rfl (by decide) 10 (by decide) m_678 rfl dX8_told_102 hf (fun a5 hf => ?_)
        refine lv_iload_n (pc := 105) hx hb dX8_told_105 rfl (lv_at hl 1 rfl) ?_
        refine rg_iald (pc := 106) hx hb hK hR dX8_told_106 hf (fun hf => ?_)
        exact rg_iret (pc := 107) hx hb hlocks hr hf hR dX8_told_107
      replace hf := it_f hf hw3
      by_cases hw4 : v2 = (4 : Int32)
      · replace hf := it_t hf hw4
        refine lv_tableIn (pc := 46) (off := 62) (tgt := 108) hx hb dX8_told_46 (by rw [hw4]; decide) (by rw [hw4]; decide) (by rw [hw4]; decide) (by decide) ?_
        refine lv_aload_n (pc := 108) hx hb dX8_told_108 rfl (lv_at hl 0 rfl) ?_
        refine rg_getr (pc := 109) (C := RX8) (T := TX8) (N := 37) (κ := 8) hx hb hts hK hR hown in_8 rfl (by decide) 11 (by decide) m_679 rfl dX8_told_109 hf (fun a6 hf => ?_)
        refine lv_iload_n (pc := 112) hx hb dX8_told_112 rfl (lv_at hl 1 rfl) ?_
        refine rg_iald (pc := 113) hx hb hK hR dX8_told_113 hf (fun hf => ?_)
        exact rg_iret (pc := 114) hx hb hlocks hr hf hR dX8_told_114
      replace hf := it_f hf hw4
      refine lv_tableOut (pc := 46) (tgt := 115) hx hb dX8_told_46 (by have h0 := sw_ne (0 : Int32) (k := 0) (by decide) hw0; have h1 := sw_ne (1 : Int32) (k := 1) (by decide) hw1; have h2 := sw_ne (2 : Int32) (k := 2) (by decide) hw2; have h3 := sw_ne (3 : Int32) (k := 3) (by decide) hw3; have h4 := sw_ne (4 : Int32) (k := 4) (by decide) hw4; omega) (by decide) ?_
      refine lv_aload_n (pc := 115) hx hb dX8_told_115 rfl (lv_at hl 0 rfl) ?_
      refine rg_getr (pc := 116) (C := RX8) (T := TX8) (N := 37) (κ := 8) hx hb hts hK hR hown in_8 rfl (by decide) 12 (by decide) m_680 rfl dX8_told_116 hf (fun a7 hf => ?_)
      refine lv_iload_n (pc := 119) hx hb dX8_told_119 rfl (lv_at hl 1 rfl) ?_
      refine rg_zald (pc := 120) hx hb hK hR dX8_told_120 hf (fun hf => ?_)
      refine lv_if_eq (pc := 121) (tgt := 128) hx hb dX8_told_121 (by decide) (fun hc => ?_) (fun hc => ?_)
      · replace hf := it_t hf hc
        refine lv_iconst (pc := 128) (v := (0 : Int32)) hx hb dX8_told_128 (by decide) ?_
        exact hB129 (0 : Int32) M1 _ _ _ hf hR (lv_sub hl [] rfl)
      · replace hf := it_f hf hc
        refine lv_iconst (pc := 124) (v := (1 : Int32)) hx hb dX8_told_124 (by decide) ?_
        refine lv_goto (pc := 125) (tgt := 129) hx hb dX8_told_125 (by decide) ?_
        exact hB129 (1 : Int32) M1 _ _ _ hf hR (lv_sub hl [] rfl)
    · replace hf := it_f hf hc
      refine lv_iconst (pc := 43) (v := (0 : Int32)) hx hb dX8_told_43 (by decide) ?_
      exact rg_iret (pc := 44) hx hb hlocks hr hf hR dX8_told_44
  unfold f_X8_told at hf
  refine lv_aload_n (pc := 0) hx hb dX8_told_0 rfl (lv_at hl 0 rfl) ?_
  refine lv_iload_n (pc := 1) hx hb dX8_told_1 rfl (lv_at hl 1 rfl) ?_
  refine lv_iconst (pc := 2) (v := (0 : Int32)) hx hb dX8_told_2 (by decide) ?_
  refine lv_aload_n (pc := 3) hx hb dX8_told_3 rfl (lv_at hl 0 rfl) ?_
  refine rg_get (pc := 4) (C := RX8) (T := TX8) (N := 37) (κ := 8) (v := .int (mm_i M v0 6)) hx hb hts hK hR hown in_8 rfl (by decide) 6 (by decide) m_674 rfl dX8_told_4 hf (fun hf => ?_)
  refine lv_iconst (pc := 7) (v := (1 : Int32)) hx hb dX8_told_7 (by decide) ?_
  refine lv_isub (pc := 8) hx hb dX8_told_8 ?_
  refine rg_I (pc := 9) hf hR hA (fun z hz => rn_S (As := [.int v1, .int (0 : Int32), .int ((mm_i M v0 6) - (1 : Int32))]) (rest := [.ref v0]) hC hR (c_X8_isIn  hz _) m_792 m_793 m_9 m_794 hd_X8_isIn ⟨rfl, rfl, Nat.le_of_ble_eq_true rfl, Nat.le_of_ble_eq_true rfl⟩ rfl hl.1 rfl (Nat.le_of_ble_eq_true rfl) dX8_told_9 ⟨Nat.le_of_ble_eq_true rfl, Nat.le_of_ble_eq_true rfl⟩) (fun z8 H locs hf hR => ?_)
  refine lv_if_ne (pc := 12) (tgt := 19) hx hb dX8_told_12 (by decide) (fun hc => ?_) (fun hc => ?_)
  · replace hf := it_f hf hc
    refine lv_iload_n (pc := 19) hx hb dX8_told_19 rfl (lv_at hl 2 rfl) ?_
    refine lv_iconst (pc := 20) (v := (0 : Int32)) hx hb dX8_told_20 (by decide) ?_
    refine lv_iconst (pc := 21) (v := (5 : Int32)) hx hb dX8_told_21 (by decide) ?_
    refine rg_I (pc := 22) hf hR hA (fun z hz => rn_S (As := [.int v2, .int (0 : Int32), .int (5 : Int32)]) (rest := [.ref v0]) hC hR (c_X8_isIn  hz _) m_792 m_793 m_9 m_794 hd_X8_isIn ⟨rfl, rfl, Nat.le_of_ble_eq_true rfl, Nat.le_of_ble_eq_true rfl⟩ rfl hl.1 rfl (Nat.le_of_ble_eq_true rfl) dX8_told_22 ⟨Nat.le_of_ble_eq_true rfl, Nat.le_of_ble_eq_true rfl⟩) (fun z9 H locs hf hR => ?_)
    refine lv_if_ne (pc := 25) (tgt := 32) hx hb dX8_told_25 (by decide) (fun hc => ?_) (fun hc => ?_)
    · replace hf := it_f hf hc
      refine lv_iconst (pc := 32) (v := (0 : Int32)) hx hb dX8_told_32 (by decide) ?_
      exact hB33 (0 : Int32) v0 v0 v1 v2 z9.1 _ _ _ hf hR (lv_sub hl [0, 1, 2] rfl)
    · replace hf := it_t hf hc
      refine lv_iconst (pc := 28) (v := (2 : Int32)) hx hb dX8_told_28 (by decide) ?_
      refine lv_goto (pc := 29) (tgt := 33) hx hb dX8_told_29 (by decide) ?_
      exact hB33 (2 : Int32) v0 v0 v1 v2 z9.1 _ _ _ hf hR (lv_sub hl [0, 1, 2] rfl)
  · replace hf := it_t hf hc
    refine lv_iconst (pc := 15) (v := (1 : Int32)) hx hb dX8_told_15 (by decide) ?_
    refine lv_goto (pc := 16) (tgt := 33) hx hb dX8_told_16 (by decide) ?_
    exact hB33 (1 : Int32) v0 v0 v1 v2 z8.1 _ _ _ hf hR (lv_sub hl [0, 1, 2] rfl)
