/-! the law's loop, over any relation that every call keeps -/
abbrev CS : Type := Nat × (Nat → Nat → Int32) × (Nat → Nat → Int32) × (Nat → Nat → Nat → Int32) × (Nat → Int64)
abbrev MSt : Type := (Nat → Int32) × (Nat → Nat → Int32)
def cS0 (c : CS) (x1 : Int32) (x2 : Int64) : Option (Int32 × CS) := (fX8_feed c.1 c.2.1 c.2.2.1 c.2.2.2.1 c.2.2.2.2 x1 x2).bind fun (r, J, E, L) => some (r, c.1, c.2.1, J, E, L)
def mS0 (u : MSt) (x1 : Int32) (x2 : Int64) : Option (Int32 × MSt) := fX9_feed BM u.1 u.2 x1 x2
def hS0 (Rel : CS → MSt → Prop) : Prop := ∀ (c : CS) (u : MSt) (x1 : Int32) (x2 : Int64), Rel c u → ∃ (r : Int32) (c2 : CS) (u2 : MSt), cS0 c x1 x2 = some (r, c2) ∧ mS0 u x1 x2 = some (r, u2) ∧ Rel c2 u2
def cS1 (c : CS)  : Option (Int32 × CS) := fX8_chord c.1 c.2.1 c.2.2.1 c.2.2.2.1 c.2.2.2.2 
def mS1 (u : MSt)  : Option (Int32 × MSt) := fX9_chord BM u.1 u.2 
def hS1 (Rel : CS → MSt → Prop) : Prop := ∀ (c : CS) (u : MSt) , Rel c u → ∃ (r : Int32) (c2 : CS) (u2 : MSt), cS1 c  = some (r, c2) ∧ mS1 u  = some (r, u2) ∧ Rel c2 u2
def cS2 (c : CS) (x1 : Int32) (x2 : Int32) : Option (Int32 × CS) := (fX8_of c.1 c.2.1 c.2.2.1 c.2.2.2.1 c.2.2.2.2 x1 x2).bind fun r => some (r, c)
def mS2 (u : MSt) (x1 : Int32) (x2 : Int32) : Option (Int32 × MSt) := (fX9_of BM u.1 u.2 x1 x2).bind fun r => some (r, u)
def hS2 (Rel : CS → MSt → Prop) : Prop := ∀ (c : CS) (u : MSt) (x1 : Int32) (x2 : Int32), Rel c u → ∃ (r : Int32) (c2 : CS) (u2 : MSt), cS2 c x1 x2 = some (r, c2) ∧ mS2 u x1 x2 = some (r, u2) ∧ Rel c2 u2
def cS3 (c : CS) (x1 : Int32) (x2 : Int32) (x3 : Int32) : Option (Int32 × CS) := (fX8_step c.1 c.2.1 c.2.2.1 c.2.2.2.1 c.2.2.2.2 x1 x2 x3).bind fun r => some (r, c)
def mS3 (u : MSt) (x1 : Int32) (x2 : Int32) (x3 : Int32) : Option (Int32 × MSt) := (fX9_step BM u.1 u.2 x1 x2 x3).bind fun r => some (r, u)
def hS3 (Rel : CS → MSt → Prop) : Prop := ∀ (c : CS) (u : MSt) (x1 : Int32) (x2 : Int32) (x3 : Int32), Rel c u → ∃ (r : Int32) (c2 : CS) (u2 : MSt), cS3 c x1 x2 x3 = some (r, c2) ∧ mS3 u x1 x2 x3 = some (r, u2) ∧ Rel c2 u2
def cS4 (c : CS) (x1 : Int32) : Option (Int32 × CS) := (fX8_write c.1 c.2.1 c.2.2.1 c.2.2.2.1 c.2.2.2.2 x1).bind fun (r, J, E, L) => some (r, c.1, c.2.1, J, E, L)
def mS4 (u : MSt) (x1 : Int32) : Option (Int32 × MSt) := fX9_write BM u.1 u.2 x1
def hS4 (Rel : CS → MSt → Prop) : Prop := ∀ (c : CS) (u : MSt) (x1 : Int32), Rel c u → ∃ (r : Int32) (c2 : CS) (u2 : MSt), cS4 c x1 = some (r, c2) ∧ mS4 u x1 = some (r, u2) ∧ Rel c2 u2
def cS5 (c : CS) (x1 : Int32) : Option (Int32 × CS) := (fX8_shown c.1 c.2.1 c.2.2.1 c.2.2.2.1 c.2.2.2.2 x1).bind fun r => some (r, c)
def mS5 (u : MSt) (x1 : Int32) : Option (Int32 × MSt) := (fX9_shown BM u.1 u.2 x1).bind fun r => some (r, u)
def hS5 (Rel : CS → MSt → Prop) : Prop := ∀ (c : CS) (u : MSt) (x1 : Int32), Rel c u → ∃ (r : Int32) (c2 : CS) (u2 : MSt), cS5 c x1 = some (r, c2) ∧ mS5 u x1 = some (r, u2) ∧ Rel c2 u2
def cS6 (c : CS) (x1 : Int32) (x2 : Int32) : Option (Int32 × CS) := (fX8_named c.1 c.2.1 c.2.2.1 c.2.2.2.1 c.2.2.2.2 x1 x2).bind fun (r, J, E, L) => some (r, c.1, c.2.1, J, E, L)
def mS6 (u : MSt) (x1 : Int32) (x2 : Int32) : Option (Int32 × MSt) := fX9_named BM u.1 u.2 x1 x2
def hS6 (Rel : CS → MSt → Prop) : Prop := ∀ (c : CS) (u : MSt) (x1 : Int32) (x2 : Int32), Rel c u → ∃ (r : Int32) (c2 : CS) (u2 : MSt), cS6 c x1 x2 = some (r, c2) ∧ mS6 u x1 x2 = some (r, u2) ∧ Rel c2 u2
def cS7 (c : CS) (x1 : Int32) : Option (Int32 × CS) := (fX8_name c.1 c.2.1 c.2.2.1 c.2.2.2.1 c.2.2.2.2 x1).bind fun (r, J, E, L) => some (r, c.1, c.2.1, J, E, L)
def mS7 (u : MSt) (x1 : Int32) : Option (Int32 × MSt) := fX9_name BM u.1 u.2 x1
def hS7 (Rel : CS → MSt → Prop) : Prop := ∀ (c : CS) (u : MSt) (x1 : Int32), Rel c u → ∃ (r : Int32) (c2 : CS) (u2 : MSt), cS7 c x1 = some (r, c2) ∧ mS7 u x1 = some (r, u2) ∧ Rel c2 u2
def cS8 (c : CS) (x1 : Int32) : Option (Int32 × CS) := (fX8_normal c.1 c.2.1 c.2.2.1 c.2.2.2.1 c.2.2.2.2 x1).bind fun r => some (r, c)
def mS8 (u : MSt) (x1 : Int32) : Option (Int32 × MSt) := fX9_normal BM u.1 u.2 x1
def hS8 (Rel : CS → MSt → Prop) : Prop := ∀ (c : CS) (u : MSt) (x1 : Int32), Rel c u → ∃ (r : Int32) (c2 : CS) (u2 : MSt), cS8 c x1 = some (r, c2) ∧ mS8 u x1 = some (r, u2) ∧ Rel c2 u2
def cS9 (c : CS) (x1 : Int32) (x2 : Int32) : Option (Int32 × CS) := fX8_move c.1 c.2.1 c.2.2.1 c.2.2.2.1 c.2.2.2.2 x1 x2
def mS9 (u : MSt) (x1 : Int32) (x2 : Int32) : Option (Int32 × MSt) := fX9_move BM u.1 u.2 x1 x2
def hS9 (Rel : CS → MSt → Prop) : Prop := ∀ (c : CS) (u : MSt) (x1 : Int32) (x2 : Int32), Rel c u → ∃ (r : Int32) (c2 : CS) (u2 : MSt), cS9 c x1 x2 = some (r, c2) ∧ mS9 u x1 x2 = some (r, u2) ∧ Rel c2 u2
def cS10 (c : CS) (x1 : Int32) (x2 : Int32) (x3 : Int32) : Option (Int32 × CS) := (fX8_voice c.1 c.2.1 c.2.2.1 c.2.2.2.1 c.2.2.2.2 x1 x2 x3).bind fun (r, J, E, L) => some (r, c.1, c.2.1, J, E, L)
def mS10 (u : MSt) (x1 : Int32) (x2 : Int32) (x3 : Int32) : Option (Int32 × MSt) := fX9_voice BM u.1 u.2 x1 x2 x3
def hS10 (Rel : CS → MSt → Prop) : Prop := ∀ (c : CS) (u : MSt) (x1 : Int32) (x2 : Int32) (x3 : Int32), Rel c u → ∃ (r : Int32) (c2 : CS) (u2 : MSt), cS10 c x1 x2 x3 = some (r, c2) ∧ mS10 u x1 x2 x3 = some (r, u2) ∧ Rel c2 u2
def cS11 (c : CS) (x1 : Int32) : Option (Int32 × CS) := (fX8_key c.1 c.2.1 c.2.2.1 c.2.2.2.1 c.2.2.2.2 x1).bind fun r => some (r, c)
def mS11 (u : MSt) (x1 : Int32) : Option (Int32 × MSt) := (fX9_key BM u.1 u.2 x1).bind fun r => some (r, u)
def hS11 (Rel : CS → MSt → Prop) : Prop := ∀ (c : CS) (u : MSt) (x1 : Int32), Rel c u → ∃ (r : Int32) (c2 : CS) (u2 : MSt), cS11 c x1 = some (r, c2) ∧ mS11 u x1 = some (r, u2) ∧ Rel c2 u2
def cS12 (c : CS)  : Option (Int32 × CS) := (fX8_rest c.1 c.2.1 c.2.2.1 c.2.2.2.1 c.2.2.2.2 ).bind fun (r, J, E, L) => some (r, c.1, c.2.1, J, E, L)
def mS12 (u : MSt)  : Option (Int32 × MSt) := fX9_rest_ BM u.1 u.2 
def hS12 (Rel : CS → MSt → Prop) : Prop := ∀ (c : CS) (u : MSt) , Rel c u → ∃ (r : Int32) (c2 : CS) (u2 : MSt), cS12 c  = some (r, c2) ∧ mS12 u  = some (r, u2) ∧ Rel c2 u2
def cS13 (c : CS) (x1 : Int32) (x2 : Int32) : Option (Int32 × CS) := (fX8_figure c.1 c.2.1 c.2.2.1 c.2.2.2.1 c.2.2.2.2 x1 x2).bind fun (r, J, E, L) => some (r, c.1, c.2.1, J, E, L)
def mS13 (u : MSt) (x1 : Int32) (x2 : Int32) : Option (Int32 × MSt) := fX9_figure BM u.1 u.2 x1 x2
def hS13 (Rel : CS → MSt → Prop) : Prop := ∀ (c : CS) (u : MSt) (x1 : Int32) (x2 : Int32), Rel c u → ∃ (r : Int32) (c2 : CS) (u2 : MSt), cS13 c x1 x2 = some (r, c2) ∧ mS13 u x1 x2 = some (r, u2) ∧ Rel c2 u2
def cS14 (c : CS) (x1 : Int32) : Option (Int32 × CS) := (fX8_count c.1 c.2.1 c.2.2.1 c.2.2.2.1 c.2.2.2.2 x1).bind fun r => some (r, c)
def mS14 (u : MSt) (x1 : Int32) : Option (Int32 × MSt) := (fX9_count BM u.1 u.2 x1).bind fun r => some (r, u)
def hS14 (Rel : CS → MSt → Prop) : Prop := ∀ (c : CS) (u : MSt) (x1 : Int32), Rel c u → ∃ (r : Int32) (c2 : CS) (u2 : MSt), cS14 c x1 = some (r, c2) ∧ mS14 u x1 = some (r, u2) ∧ Rel c2 u2
def hAll (Rel : CS → MSt → Prop) : Prop := hS0 Rel ∧ hS1 Rel ∧ hS2 Rel ∧ hS3 Rel ∧ hS4 Rel ∧ hS5 Rel ∧ hS6 Rel ∧ hS7 Rel ∧ hS8 Rel ∧ hS9 Rel ∧ hS10 Rel ∧ hS11 Rel ∧ hS12 Rel ∧ hS13 Rel ∧ hS14 Rel
theorem tnI {n : Nat} (h : n < 2 ^ 31) : (nI n).toInt = (n : Int) := Int32.toInt_ofNat_of_lt h
theorem lw_go {i L : Nat} (hL : L ≤ 2048) (hi : i ≤ 4000) (h : ¬ (nI L - 4 : Int32) < nI i) : i + 4 ≤ L := by
  rw [Int32.lt_iff_toInt_lt, Int32.toInt_sub, tnI (by omega), tnI (by omega)] at h
  have e4 : (4 : Int32).toInt = 4 := by decide
  rw [e4] at h
  have : Int.bmod ((L : Int) - 4) (2 ^ 32) = (L : Int) - 4 := by
    rw [Int.bmod_eq_of_le] <;> omega
  rw [this] at h
  omega
theorem nI_ad {i j : Nat} (h : i + j < 2 ^ 31) : nI i + nI j = nI (i + j) := by
  unfold nI
  exact (Int32.ofNat_add i j).symm
set_option maxRecDepth 100000 in
set_option maxHeartbeats 8000000 in
theorem law_loop {p : Program} {l : Launch} {e : Env} {s : State} {m : MethodId} {below : List Frame} {meth : Method} {c : Code} {dC : Nat → ClassId} {dI : Nat → Nat → Nat} {b L : Nat} {xs : Nat → Int32} {en : Nat → Nat} (hL : L ≤ 2048) (C0 : lw_At p s m meth c b L xs) (hE : cE en (fun q : Nat => s.heap.size ≤ q) s s.heap) (Rel : CS → MSt → Prop) (hH : hAll Rel) :
    ∀ (n i : Nat) (x3 : Int32) (nC : Nat) (ck J : Nat → Nat → Int32) (E : Nat → Nat → Nat → Int32) (Lg : Nat → Int64) (I : Nat → Int32) (A : Nat → Nat → Int32), i ≤ L → L + 1 ≤ i + n → x3 = nI i → Rel (nC, ck, J, E, Lg) (I, A) → ∀ (cI cC cI2 cB cJ : ClassId) (G : Nat → Nat → Nat) (ca Q : Nat → Nat) (H : Heap) (locs : List Loc) (kc ks : Nat), kc + n ≤ 500000 → ks + 4 * n ≤ 7000000 → va_K (dC, dI) vwCl [(cI, .int), (cC, .object "LeadSheets$Chord"), (cI2, .int), (cB, .byte), (cJ, .long)] s → va_P (dC, dI) vwCl (wC cI cC G ca nC ck J E Lg ++ wM cI2 cB cJ Q BM I A) H → va_D (fun q : Nat => s.heap.size ≤ q) (wC cI cC G ca nC ck J E Lg ++ wM cI2 cB cJ Q BM I A) → va_S (fun q : Nat => s.heap.size ≤ q) s.heap H locs → ∀ (ls : Array Slot), lv_has ls 4 [(0, .ref b), (1, .ref (G 0 100)), (2, .ref (Q 100)), (3, .int x3)] → W p l e room_1 s m #[Value.ref b] below meth c H locs kc ks (lw_Z below #[Value.ref b] s) (F0 m 18 ls []) := by
  obtain ⟨hx, hb, hr, hml, hown, hts0, hX, hbl, hlocks, hgv⟩ := C0
  have hts := hts0
  have hA : ∀ q : Nat, s.heap.size ≤ q → (fun q : Nat => s.heap.size ≤ q) q := fun _ h => h
  have hbA : ¬ (fun q : Nat => s.heap.size ≤ q) b := Nat.not_le.mpr hbl
  intro n
  induction n with
  | zero =>
    intro i x3 nC ck J E Lg I A h1 h2
    exact absurd h2 (by omega)
  | succ n ih =>
    intro i x3 nC ck J E Lg I A hi hin ex3 hRel cI cC cI2 cB cJ G ca Q H locs kc ks hkc hks hK hP hD hS ls hl
    refine lv_iload_n hx hb dL_law_18 rfl (lv_at hl 3 rfl) ?_
    refine lv_aload_n hx hb dL_law_19 rfl (lv_at hl 0 rfl) ?_
    refine va_slen hx hb hX hbl hbA hS dL_law_20 ?_
    refine lv_iconst (v := (4 : Int32)) hx hb dL_law_21 (by decide) ?_
    refine lv_isub hx hb dL_law_22 ?_
    refine lv_icmp_gt (tgt := 559) hx hb dL_law_23 (by decide) (fun c10 => ?_) (fun c10 => ?_)
    · refine lv_iconst (v := (1 : Int32)) hx hb dL_law_559 (by decide) ?_
      refine va_forget (fun q hq => hS.2.2 q hq) ?_
      refine W.widen (k := 600000) (n := 7302250) (by omega) (by omega) ?_
      exact lw_ret hx hb hr hlocks dL_law_560
    have h4 : i + 4 ≤ L := lw_go hL (by omega) (by rw [← ex3]; exact c10)
    have g0 : vp_in x3 L := by rw [ex3]; exact vp_in_nI (by omega) (by omega)
    have g1 : vp_in (x3 + 1) L := by rw [ex3, show (1 : Int32) = nI 1 from rfl, nI_ad (by omega)]; exact vp_in_nI (by omega) (by omega)
    have g2 : vp_in (x3 + 2) L := by rw [ex3, show (2 : Int32) = nI 2 from rfl, nI_ad (by omega)]; exact vp_in_nI (by omega) (by omega)
    have g3 : vp_in (x3 + 3) L := by rw [ex3, show (3 : Int32) = nI 3 from rfl, nI_ad (by omega)]; exact vp_in_nI (by omega) (by omega)
    have ex4 : x3 + 4 = nI (i + 4) := by rw [ex3, show (4 : Int32) = nI 4 from rfl, nI_ad (by omega)]
    have fin : ∀ (nC : Nat) (ck J : Nat → Nat → Int32) (E : Nat → Nat → Nat → Int32) (Lg : Nat → Int64) (I : Nat → Int32) (A : Nat → Nat → Int32) (ca : Nat → Nat) (H : Heap) (locs : List Loc) (k2 s2 : Nat), Rel (nC, ck, J, E, Lg) (I, A) → k2 + n ≤ 500000 → s2 + 4 * n ≤ 7000000 → va_P (dC, dI) vwCl (wC cI cC G ca nC ck J E Lg ++ wM cI2 cB cJ Q BM I A) H → va_D (fun q : Nat => s.heap.size ≤ q) (wC cI cC G ca nC ck J E Lg ++ wM cI2 cB cJ Q BM I A) → va_S (fun q : Nat => s.heap.size ≤ q) s.heap H locs → W p l e room_1 s m #[Value.ref b] below meth c H locs k2 s2 (lw_Z below #[Value.ref b] s) (F0 m 553 ls []) := by
      intro nC ck J E Lg I A ca H locs k2 s2 hRel hk2 hs2 hP hD hS
      refine lv_iinc (v := x3 + 4) (lv' := [(3, .int (x3 + 4)), (0, .ref b), (1, .ref (G 0 100)), (2, .ref (Q 100))]) hx hb dL_law_553 hl (k := 3) rfl rfl (by decide) rfl (fun ls hl => ?_)
      refine lv_goto (tgt := 18) hx hb dL_law_556 (by decide) ?_
      exact ih (i + 4) (x3 + 4) nC ck J E Lg I A (by omega) (by omega) ex4 hRel cI cC cI2 cB cJ G ca Q H locs k2 s2 (by omega) (by omega) hK hP hD hS ls (lv_sub hl [1, 2, 3, 0] rfl)
    obtain ⟨h0, h1, h2, h3, h4, h5, h6, h7, h8, h9, h10, h11, h12, h13, h14⟩ := hH
    refine lv_aload_n hx hb dL_law_26 rfl (lv_at hl 0 rfl) ?_
    refine lv_iload_n hx hb dL_law_27 rfl (lv_at hl 3 rfl) ?_
    refine va_sld hx hb hX hbl hbA hS g0 dL_law_28 ?_
    refine lv_bipush (v := (15 : Int32)) hx hb dL_law_29 (by decide) ?_
    refine lv_iand hx hb dL_law_31 ?_
    generalize xs x3.toNatClampNeg &&& 15 = op
    by_cases c20 : op = (0 : Int32)
    · refine lv_tableIn (tgt := 108) hx hb dL_law_32 (by rw [c20]; decide) (by rw [c20]; decide) (by rw [c20]; rfl) (by decide) ?_
      obtain ⟨r, ⟨nC2, ck2, J2, E2, L2⟩, ⟨I2, A2⟩, hc, hm, hRel2⟩ := h0 (nC, ck, J, E, Lg) (I, A) (xs (x3 + 1).toNatClampNeg) ((((xs (x3 + 2).toNatClampNeg).toInt64) <<< ((32 : Int32).toInt64 &&& 63)) ||| ((xs (x3 + 3).toNatClampNeg).toInt64 &&& 4294967295)) hRel
      refine lv_aload_n hx hb dL_law_108 rfl (lv_at hl 1 rfl) ?_
      refine lv_aload_n hx hb dL_law_109 rfl (lv_at hl 0 rfl) ?_
      refine lv_iload_n hx hb dL_law_110 rfl (lv_at hl 3 rfl) ?_
      refine lv_iconst (v := (1 : Int32)) hx hb dL_law_111 (by decide) ?_
      refine lv_iadd hx hb dL_law_112 ?_
      refine va_sld hx hb hX hbl hbA hS g1 dL_law_113 ?_
      refine lv_aload_n hx hb dL_law_114 rfl (lv_at hl 0 rfl) ?_
      refine lv_iload_n hx hb dL_law_115 rfl (lv_at hl 3 rfl) ?_
      refine lv_iconst (v := (2 : Int32)) hx hb dL_law_116 (by decide) ?_
      refine lv_iadd hx hb dL_law_117 ?_
      refine va_sld hx hb hX hbl hbA hS g2 dL_law_118 ?_
      refine lv_i2l hx hb dL_law_119 rfl ?_
      refine lv_bipush (v := (32 : Int32)) hx hb dL_law_120 (by decide) ?_
      refine lv_lshl hx hb dL_law_122 rfl ?_
      refine lv_aload_n hx hb dL_law_123 rfl (lv_at hl 0 rfl) ?_
      refine lv_iload_n hx hb dL_law_124 rfl (lv_at hl 3 rfl) ?_
      refine lv_iconst (v := (3 : Int32)) hx hb dL_law_125 (by decide) ?_
      refine lv_iadd hx hb dL_law_126 ?_
      refine va_sld hx hb hX hbl hbA hS g3 dL_law_127 ?_
      refine lv_i2l hx hb dL_law_128 rfl ?_
      refine lv_ldc2 hx hb hown (hts (.constantLong RL 13 (4294967295)) (by decide +kernel)) dL_law_129 ?_
      refine lv_land hx hb dL_law_132 ?_
      refine lv_lor hx hb dL_law_133 ?_
      obtain ⟨⟨r1, J1, E1, L1⟩, hc1, hc2⟩ := of_bind_some hc
      cases hc2
      have hPs : va_P (dC, dI) vwCl ([] ++ (wC cI cC G ca nC ck J E Lg ++ wM cI2 cB cJ Q BM I A)) H := hP
      have hDs : va_D (fun q : Nat => s.heap.size ≤ q) ([] ++ (wC cI cC G ca nC ck J E Lg ++ wM cI2 cB cJ Q BM I A)) := hD
      have hF := va_freeMid hDs hS hA
      refine va_calli (va_runV (As := [.int (xs (x3 + 1).toNatClampNeg), .long ((((xs (x3 + 2).toNatClampNeg).toInt64) <<< ((32 : Int32).toInt64 &&& 63)) ||| ((xs (x3 + 3).toNatClampNeg).toInt64 &&& 4294967295))]) (rest := []) ⟨hx, hb, hml, hown, hts⟩ (mX8_feed l en dC dI cI cC G ca nC ck J E Lg (xs (x3 + 1).toNatClampNeg) ((((xs (x3 + 2).toNatClampNeg).toInt64) <<< ((32 : Int32).toInt64 &&& 63)) ||| ((xs (x3 + 3).toNatClampNeg).toInt64 &&& 4294967295)) H.size _ hc1) (cwV 2 hts gW_X8_feed rfl rfl rfl (by decide +kernel) ⟨Nat.le_of_ble_eq_true rfl, Nat.le_of_ble_eq_true rfl⟩) ⟨blindWE, va_recv hK hP.left (ci := 5) (q0 := 0) rfl rfl, fun U hU hW => ⟨rfl, by rw [hU], by rw [hU]; exact hP.left, va_K.moved hW.alike (hK.sub [0, 1] rfl), hD.left.weaken (fun _ _ _ _ => trivial), cE_sub hE hS hW hU hF⟩⟩ rfl rfl hl.1 rfl (lv_room (Nat.le_of_ble_eq_true rfl)) dL_law_134 ⟨(by show _ ≤ 600000; omega), (by show _ ≤ 7302250; omega)⟩) hS (fun q _ h => hF q h) hF (fun r0 u t H locs ht hvm hw hB hz1 hk1 hS => ?_)
      cases hw
      obtain ⟨hP1, hK9, hD1⟩ := hB
      rw [ht] at hP1
      obtain ⟨hP, hD⟩ := va_joinMid hPs hDs hk1 hF hP1 hD1
      have hP : va_P (dC, dI) vwCl (wC cI cC G ca nC ck J2 E2 L2 ++ wM cI2 cB cJ Q BM I A) H := hP
      have hD : va_D (fun q : Nat => s.heap.size ≤ q) (wC cI cC G ca nC ck J2 E2 L2 ++ wM cI2 cB cJ Q BM I A) := hD
      clear hPs hDs hP1 hD1 hk1 hF
      refine lv_aload_n hx hb dL_law_137 rfl (lv_at hl 2 rfl) ?_
      refine lv_aload_n hx hb dL_law_138 rfl (lv_at hl 0 rfl) ?_
      refine lv_iload_n hx hb dL_law_139 rfl (lv_at hl 3 rfl) ?_
      refine lv_iconst (v := (1 : Int32)) hx hb dL_law_140 (by decide) ?_
      refine lv_iadd hx hb dL_law_141 ?_
      refine va_sld hx hb hX hbl hbA hS g1 dL_law_142 ?_
      refine lv_aload_n hx hb dL_law_143 rfl (lv_at hl 0 rfl) ?_
      refine lv_iload_n hx hb dL_law_144 rfl (lv_at hl 3 rfl) ?_
      refine lv_iconst (v := (2 : Int32)) hx hb dL_law_145 (by decide) ?_
      refine lv_iadd hx hb dL_law_146 ?_
      refine va_sld hx hb hX hbl hbA hS g2 dL_law_147 ?_
      refine lv_i2l hx hb dL_law_148 rfl ?_
      refine lv_bipush (v := (32 : Int32)) hx hb dL_law_149 (by decide) ?_
      refine lv_lshl hx hb dL_law_151 rfl ?_
      refine lv_aload_n hx hb dL_law_152 rfl (lv_at hl 0 rfl) ?_
      refine lv_iload_n hx hb dL_law_153 rfl (lv_at hl 3 rfl) ?_
      refine lv_iconst (v := (3 : Int32)) hx hb dL_law_154 (by decide) ?_
      refine lv_iadd hx hb dL_law_155 ?_
      refine va_sld hx hb hX hbl hbA hS g3 dL_law_156 ?_
      refine lv_i2l hx hb dL_law_157 rfl ?_
      refine lv_ldc2 hx hb hown (hts (.constantLong RL 13 (4294967295)) (by decide +kernel)) dL_law_158 ?_
      refine lv_land hx hb dL_law_161 ?_
      refine lv_lor hx hb dL_law_162 ?_
      have hPs : va_P (dC, dI) vwCl (wC cI cC G ca nC ck J2 E2 L2 ++ (wM cI2 cB cJ Q BM I A ++ [])) H := hP
      have hDs : va_D (fun q : Nat => s.heap.size ≤ q) (wC cI cC G ca nC ck J2 E2 L2 ++ (wM cI2 cB cJ Q BM I A ++ [])) := hD
      have hF := va_freeMid hDs hS hA
      refine va_calli (va_runV (As := [.int (xs (x3 + 1).toNatClampNeg), .long ((((xs (x3 + 2).toNatClampNeg).toInt64) <<< ((32 : Int32).toInt64 &&& 63)) ||| ((xs (x3 + 3).toNatClampNeg).toInt64 &&& 4294967295))]) (rest := [.int r]) ⟨hx, hb, hml, hown, hts⟩ (mX9_feed l dC dI cI2 cB cJ Q BM I A (xs (x3 + 1).toNatClampNeg) ((((xs (x3 + 2).toNatClampNeg).toInt64) <<< ((32 : Int32).toInt64 &&& 63)) ||| ((xs (x3 + 3).toNatClampNeg).toInt64 &&& 4294967295)) H.size _ hm) (cwV 2 hts gW_X9_feed rfl rfl rfl (by decide +kernel) ⟨Nat.le_of_ble_eq_true rfl, Nat.le_of_ble_eq_true rfl⟩) ⟨blindW, va_recv hK hPs.mid (ci := 6) (q0 := 0) rfl rfl, fun U hU hW => ⟨rfl, by rw [hU], by rw [hU]; exact hPs.mid, va_K.moved hW.alike (hK.sub [2, 3, 4] rfl), hDs.mid.weaken (fun _ _ _ _ => trivial)⟩⟩ rfl rfl hl.1 rfl (lv_room (Nat.le_of_ble_eq_true rfl)) dL_law_163 ⟨(by show _ ≤ 600000; omega), (by show _ ≤ 7302250; omega)⟩) hS (fun q _ h => hF q h) hF (fun r0 u t H locs ht hvm hw hB hz1 hk1 hS => ?_)
      cases hw
      obtain ⟨hP1, hK9, hD1⟩ := hB
      rw [ht] at hP1
      obtain ⟨hP, hD⟩ := va_joinMid hPs hDs hk1 hF hP1 hD1
      have hP : va_P (dC, dI) vwCl (wC cI cC G ca nC ck J2 E2 L2 ++ wM cI2 cB cJ Q BM I2 A2) H := hP
      have hD : va_D (fun q : Nat => s.heap.size ≤ q) (wC cI cC G ca nC ck J2 E2 L2 ++ wM cI2 cB cJ Q BM I2 A2) := hD
      refine lv_icmp_eq (tgt := 553) hx hb dL_law_166 (by decide) (fun _ => ?_) (fun cx => absurd rfl cx)
      exact fin _ _ _ _ _ _ _ ca _ _ _ _ hRel2 (by omega) (by omega) hP hD hS
    by_cases c21 : op = (1 : Int32)
    · refine lv_tableIn (tgt := 171) hx hb dL_law_32 (by rw [c21]; decide) (by rw [c21]; decide) (by rw [c21]; rfl) (by decide) ?_
      obtain ⟨r, ⟨nC2, ck2, J2, E2, L2⟩, ⟨I2, A2⟩, hc, hm, hRel2⟩ := h1 (nC, ck, J, E, Lg) (I, A)  hRel
      refine lv_aload_n hx hb dL_law_171 rfl (lv_at hl 1 rfl) ?_
      have hPs : va_P (dC, dI) vwCl ([] ++ (wC cI cC G ca nC ck J E Lg ++ wM cI2 cB cJ Q BM I A)) H := hP
      have hDs : va_D (fun q : Nat => s.heap.size ≤ q) ([] ++ (wC cI cC G ca nC ck J E Lg ++ wM cI2 cB cJ Q BM I A)) := hD
      have hF := va_freeMid hDs hS hA
      refine va_calli (va_runV (As := []) (rest := []) ⟨hx, hb, hml, hown, hts⟩ (mX8_chord l en dC dI cI cC G ca nC ck J E Lg  H.size _ hc) (cwV 0 hts gW_X8_chord rfl rfl rfl (by decide +kernel) ⟨Nat.le_of_ble_eq_true rfl, Nat.le_of_ble_eq_true rfl⟩) ⟨blindWE, va_recv hK hP.left (ci := 5) (q0 := 0) rfl rfl, fun U hU hW => ⟨rfl, by rw [hU], by rw [hU]; exact hP.left, va_K.moved hW.alike (hK.sub [0, 1] rfl), hD.left.weaken (fun _ _ _ _ => trivial), cE_sub hE hS hW hU hF⟩⟩ rfl rfl hl.1 rfl (lv_room (Nat.le_of_ble_eq_true rfl)) dL_law_172 ⟨(by show _ ≤ 600000; omega), (by show _ ≤ 7302250; omega)⟩) hS (fun q _ h => hF q h) hF (fun r0 u t H locs ht hvm hw hB hz1 hk1 hS => ?_)
      cases hw
      obtain ⟨ca2, hP1, hK9, hD1⟩ := hB
      rw [ht] at hP1
      obtain ⟨hP, hD⟩ := va_joinMid hPs hDs hk1 hF hP1 hD1
      have hP : va_P (dC, dI) vwCl (wC cI cC G ca2 nC2 ck2 J2 E2 L2 ++ wM cI2 cB cJ Q BM I A) H := hP
      have hD : va_D (fun q : Nat => s.heap.size ≤ q) (wC cI cC G ca2 nC2 ck2 J2 E2 L2 ++ wM cI2 cB cJ Q BM I A) := hD
      clear hPs hDs hP1 hD1 hk1 hF
      refine lv_aload_n hx hb dL_law_175 rfl (lv_at hl 2 rfl) ?_
      have hPs : va_P (dC, dI) vwCl (wC cI cC G ca2 nC2 ck2 J2 E2 L2 ++ (wM cI2 cB cJ Q BM I A ++ [])) H := hP
      have hDs : va_D (fun q : Nat => s.heap.size ≤ q) (wC cI cC G ca2 nC2 ck2 J2 E2 L2 ++ (wM cI2 cB cJ Q BM I A ++ [])) := hD
      have hF := va_freeMid hDs hS hA
      refine va_calli (va_runV (As := []) (rest := [.int r]) ⟨hx, hb, hml, hown, hts⟩ (mX9_chord l dC dI cI2 cB cJ Q BM I A  H.size _ hm) (cwV 0 hts gW_X9_chord rfl rfl rfl (by decide +kernel) ⟨Nat.le_of_ble_eq_true rfl, Nat.le_of_ble_eq_true rfl⟩) ⟨blindW, va_recv hK hPs.mid (ci := 6) (q0 := 0) rfl rfl, fun U hU hW => ⟨rfl, by rw [hU], by rw [hU]; exact hPs.mid, va_K.moved hW.alike (hK.sub [2, 3, 4] rfl), hDs.mid.weaken (fun _ _ _ _ => trivial)⟩⟩ rfl rfl hl.1 rfl (lv_room (Nat.le_of_ble_eq_true rfl)) dL_law_176 ⟨(by show _ ≤ 600000; omega), (by show _ ≤ 7302250; omega)⟩) hS (fun q _ h => hF q h) hF (fun r0 u t H locs ht hvm hw hB hz1 hk1 hS => ?_)
      cases hw
      obtain ⟨hP1, hK9, hD1⟩ := hB
      rw [ht] at hP1
      obtain ⟨hP, hD⟩ := va_joinMid hPs hDs hk1 hF hP1 hD1
      have hP : va_P (dC, dI) vwCl (wC cI cC G ca2 nC2 ck2 J2 E2 L2 ++ wM cI2 cB cJ Q BM I2 A2) H := hP
      have hD : va_D (fun q : Nat => s.heap.size ≤ q) (wC cI cC G ca2 nC2 ck2 J2 E2 L2 ++ wM cI2 cB cJ Q BM I2 A2) := hD
      refine lv_icmp_eq (tgt := 553) hx hb dL_law_179 (by decide) (fun _ => ?_) (fun cx => absurd rfl cx)
      exact fin _ _ _ _ _ _ _ ca2 _ _ _ _ hRel2 (by omega) (by omega) hP hD hS
    by_cases c22 : op = (2 : Int32)
    · refine lv_tableIn (tgt := 184) hx hb dL_law_32 (by rw [c22]; decide) (by rw [c22]; decide) (by rw [c22]; rfl) (by decide) ?_
      obtain ⟨r, ⟨nC2, ck2, J2, E2, L2⟩, ⟨I2, A2⟩, hc, hm, hRel2⟩ := h2 (nC, ck, J, E, Lg) (I, A) (xs (x3 + 1).toNatClampNeg) (xs (x3 + 2).toNatClampNeg) hRel
      refine lv_aload_n hx hb dL_law_184 rfl (lv_at hl 1 rfl) ?_
      refine lv_aload_n hx hb dL_law_185 rfl (lv_at hl 0 rfl) ?_
      refine lv_iload_n hx hb dL_law_186 rfl (lv_at hl 3 rfl) ?_
      refine lv_iconst (v := (1 : Int32)) hx hb dL_law_187 (by decide) ?_
      refine lv_iadd hx hb dL_law_188 ?_
      refine va_sld hx hb hX hbl hbA hS g1 dL_law_189 ?_
      refine lv_aload_n hx hb dL_law_190 rfl (lv_at hl 0 rfl) ?_
      refine lv_iload_n hx hb dL_law_191 rfl (lv_at hl 3 rfl) ?_
      refine lv_iconst (v := (2 : Int32)) hx hb dL_law_192 (by decide) ?_
      refine lv_iadd hx hb dL_law_193 ?_
      refine va_sld hx hb hX hbl hbA hS g2 dL_law_194 ?_
      obtain ⟨r1, hc1, hc2⟩ := of_bind_some hc
      cases hc2
      refine W.callR (r := r) (W.runV (As := [.int (xs (x3 + 1).toNatClampNeg), .int (xs (x3 + 2).toNatClampNeg)]) (rest := []) ⟨hx, hb, hml, hown, hts⟩ (mX8_of l en dC dI cI cC G ca nC ck J E Lg (xs (x3 + 1).toNatClampNeg) (xs (x3 + 2).toNatClampNeg) r hc1) (cwV 2 hts gW_X8_of rfl rfl rfl (by decide +kernel) ⟨Nat.le_of_ble_eq_true rfl, Nat.le_of_ble_eq_true rfl⟩) ⟨blindRE, va_recv hK hP.left (ci := 5) (q0 := 0) rfl rfl, fun U hU hW => ⟨rfl, by rw [hU]; exact hP.left, va_K.moved hW.alike (hK.sub [0, 1] rfl), cE_read hE hS hW hU⟩⟩ rfl rfl hl.1 rfl (lv_room (Nat.le_of_ble_eq_true rfl)) dL_law_195 ⟨(by show _ ≤ 600000; omega), (by show _ ≤ 7302250; omega)⟩) ?_
      refine W.eq (g2 := F0 m 198 ls [.int r]) rfl ?_
      refine lv_aload_n hx hb dL_law_198 rfl (lv_at hl 2 rfl) ?_
      refine lv_aload_n hx hb dL_law_199 rfl (lv_at hl 0 rfl) ?_
      refine lv_iload_n hx hb dL_law_200 rfl (lv_at hl 3 rfl) ?_
      refine lv_iconst (v := (1 : Int32)) hx hb dL_law_201 (by decide) ?_
      refine lv_iadd hx hb dL_law_202 ?_
      refine va_sld hx hb hX hbl hbA hS g1 dL_law_203 ?_
      refine lv_aload_n hx hb dL_law_204 rfl (lv_at hl 0 rfl) ?_
      refine lv_iload_n hx hb dL_law_205 rfl (lv_at hl 3 rfl) ?_
      refine lv_iconst (v := (2 : Int32)) hx hb dL_law_206 (by decide) ?_
      refine lv_iadd hx hb dL_law_207 ?_
      refine va_sld hx hb hX hbl hbA hS g2 dL_law_208 ?_
      have hPs : va_P (dC, dI) vwCl (wC cI cC G ca nC ck J E Lg ++ (wM cI2 cB cJ Q BM I A ++ [])) H := hP
      obtain ⟨r2, hm1, hm2⟩ := of_bind_some hm
      cases hm2
      refine W.callR (r := r) (W.runV (As := [.int (xs (x3 + 1).toNatClampNeg), .int (xs (x3 + 2).toNatClampNeg)]) (rest := [.int r]) ⟨hx, hb, hml, hown, hts⟩ (mX9_of l dC dI cI2 cB cJ Q BM I A (xs (x3 + 1).toNatClampNeg) (xs (x3 + 2).toNatClampNeg) r hm1) (cwV 2 hts gW_X9_of rfl rfl rfl (by decide +kernel) ⟨Nat.le_of_ble_eq_true rfl, Nat.le_of_ble_eq_true rfl⟩) ⟨blindR, va_recv hK hPs.mid (ci := 6) (q0 := 0) rfl rfl, fun U hU hW => ⟨rfl, by rw [hU]; exact hPs.mid, va_K.moved hW.alike (hK.sub [2, 3, 4] rfl)⟩⟩ rfl rfl hl.1 rfl (lv_room (Nat.le_of_ble_eq_true rfl)) dL_law_209 ⟨(by show _ ≤ 600000; omega), (by show _ ≤ 7302250; omega)⟩) ?_
      refine W.eq (g2 := F0 m 212 ls [.int r, .int r]) rfl ?_
      refine lv_icmp_eq (tgt := 553) hx hb dL_law_212 (by decide) (fun _ => ?_) (fun cx => absurd rfl cx)
      exact fin _ _ _ _ _ _ _ ca _ _ _ _ hRel2 (by omega) (by omega) hP hD hS
    by_cases c23 : op = (3 : Int32)
    · refine lv_tableIn (tgt := 217) hx hb dL_law_32 (by rw [c23]; decide) (by rw [c23]; decide) (by rw [c23]; rfl) (by decide) ?_
      obtain ⟨r, ⟨nC2, ck2, J2, E2, L2⟩, ⟨I2, A2⟩, hc, hm, hRel2⟩ := h3 (nC, ck, J, E, Lg) (I, A) (xs (x3 + 1).toNatClampNeg) (xs (x3 + 2).toNatClampNeg) (xs (x3 + 3).toNatClampNeg) hRel
      refine lv_aload_n hx hb dL_law_217 rfl (lv_at hl 1 rfl) ?_
      refine lv_aload_n hx hb dL_law_218 rfl (lv_at hl 0 rfl) ?_
      refine lv_iload_n hx hb dL_law_219 rfl (lv_at hl 3 rfl) ?_
      refine lv_iconst (v := (1 : Int32)) hx hb dL_law_220 (by decide) ?_
      refine lv_iadd hx hb dL_law_221 ?_
      refine va_sld hx hb hX hbl hbA hS g1 dL_law_222 ?_
      refine lv_aload_n hx hb dL_law_223 rfl (lv_at hl 0 rfl) ?_
      refine lv_iload_n hx hb dL_law_224 rfl (lv_at hl 3 rfl) ?_
      refine lv_iconst (v := (2 : Int32)) hx hb dL_law_225 (by decide) ?_
      refine lv_iadd hx hb dL_law_226 ?_
      refine va_sld hx hb hX hbl hbA hS g2 dL_law_227 ?_
      refine lv_aload_n hx hb dL_law_228 rfl (lv_at hl 0 rfl) ?_
      refine lv_iload_n hx hb dL_law_229 rfl (lv_at hl 3 rfl) ?_
      refine lv_iconst (v := (3 : Int32)) hx hb dL_law_230 (by decide) ?_
      refine lv_iadd hx hb dL_law_231 ?_
      refine va_sld hx hb hX hbl hbA hS g3 dL_law_232 ?_
      obtain ⟨r1, hc1, hc2⟩ := of_bind_some hc
      cases hc2
      refine W.callR (r := r) (W.runV (As := [.int (xs (x3 + 1).toNatClampNeg), .int (xs (x3 + 2).toNatClampNeg), .int (xs (x3 + 3).toNatClampNeg)]) (rest := []) ⟨hx, hb, hml, hown, hts⟩ (mX8_step l en dC dI cI cC G ca nC ck J E Lg (xs (x3 + 1).toNatClampNeg) (xs (x3 + 2).toNatClampNeg) (xs (x3 + 3).toNatClampNeg) r hc1) (cwV 3 hts gW_X8_step rfl rfl rfl (by decide +kernel) ⟨Nat.le_of_ble_eq_true rfl, Nat.le_of_ble_eq_true rfl⟩) ⟨blindRE, va_recv hK hP.left (ci := 5) (q0 := 0) rfl rfl, fun U hU hW => ⟨rfl, by rw [hU]; exact hP.left, va_K.moved hW.alike (hK.sub [0, 1] rfl), cE_read hE hS hW hU⟩⟩ rfl rfl hl.1 rfl (lv_room (Nat.le_of_ble_eq_true rfl)) dL_law_233 ⟨(by show _ ≤ 600000; omega), (by show _ ≤ 7302250; omega)⟩) ?_
      refine W.eq (g2 := F0 m 236 ls [.int r]) rfl ?_
      refine lv_aload_n hx hb dL_law_236 rfl (lv_at hl 2 rfl) ?_
      refine lv_aload_n hx hb dL_law_237 rfl (lv_at hl 0 rfl) ?_
      refine lv_iload_n hx hb dL_law_238 rfl (lv_at hl 3 rfl) ?_
      refine lv_iconst (v := (1 : Int32)) hx hb dL_law_239 (by decide) ?_
      refine lv_iadd hx hb dL_law_240 ?_
      refine va_sld hx hb hX hbl hbA hS g1 dL_law_241 ?_
      refine lv_aload_n hx hb dL_law_242 rfl (lv_at hl 0 rfl) ?_
      refine lv_iload_n hx hb dL_law_243 rfl (lv_at hl 3 rfl) ?_
      refine lv_iconst (v := (2 : Int32)) hx hb dL_law_244 (by decide) ?_
      refine lv_iadd hx hb dL_law_245 ?_
      refine va_sld hx hb hX hbl hbA hS g2 dL_law_246 ?_
      refine lv_aload_n hx hb dL_law_247 rfl (lv_at hl 0 rfl) ?_
      refine lv_iload_n hx hb dL_law_248 rfl (lv_at hl 3 rfl) ?_
      refine lv_iconst (v := (3 : Int32)) hx hb dL_law_249 (by decide) ?_
      refine lv_iadd hx hb dL_law_250 ?_
      refine va_sld hx hb hX hbl hbA hS g3 dL_law_251 ?_
      have hPs : va_P (dC, dI) vwCl (wC cI cC G ca nC ck J E Lg ++ (wM cI2 cB cJ Q BM I A ++ [])) H := hP
      obtain ⟨r2, hm1, hm2⟩ := of_bind_some hm
      cases hm2
      refine W.callR (r := r) (W.runV (As := [.int (xs (x3 + 1).toNatClampNeg), .int (xs (x3 + 2).toNatClampNeg), .int (xs (x3 + 3).toNatClampNeg)]) (rest := [.int r]) ⟨hx, hb, hml, hown, hts⟩ (mX9_step l dC dI cI2 cB cJ Q BM I A (xs (x3 + 1).toNatClampNeg) (xs (x3 + 2).toNatClampNeg) (xs (x3 + 3).toNatClampNeg) r hm1) (cwV 3 hts gW_X9_step rfl rfl rfl (by decide +kernel) ⟨Nat.le_of_ble_eq_true rfl, Nat.le_of_ble_eq_true rfl⟩) ⟨blindR, va_recv hK hPs.mid (ci := 6) (q0 := 0) rfl rfl, fun U hU hW => ⟨rfl, by rw [hU]; exact hPs.mid, va_K.moved hW.alike (hK.sub [2, 3, 4] rfl)⟩⟩ rfl rfl hl.1 rfl (lv_room (Nat.le_of_ble_eq_true rfl)) dL_law_252 ⟨(by show _ ≤ 600000; omega), (by show _ ≤ 7302250; omega)⟩) ?_
      refine W.eq (g2 := F0 m 255 ls [.int r, .int r]) rfl ?_
      refine lv_icmp_eq (tgt := 553) hx hb dL_law_255 (by decide) (fun _ => ?_) (fun cx => absurd rfl cx)
      exact fin _ _ _ _ _ _ _ ca _ _ _ _ hRel2 (by omega) (by omega) hP hD hS
    by_cases c24 : op = (4 : Int32)
    · refine lv_tableIn (tgt := 260) hx hb dL_law_32 (by rw [c24]; decide) (by rw [c24]; decide) (by rw [c24]; rfl) (by decide) ?_
      obtain ⟨r, ⟨nC2, ck2, J2, E2, L2⟩, ⟨I2, A2⟩, hc, hm, hRel2⟩ := h4 (nC, ck, J, E, Lg) (I, A) (xs (x3 + 1).toNatClampNeg) hRel
      refine lv_aload_n hx hb dL_law_260 rfl (lv_at hl 1 rfl) ?_
      refine lv_aload_n hx hb dL_law_261 rfl (lv_at hl 0 rfl) ?_
      refine lv_iload_n hx hb dL_law_262 rfl (lv_at hl 3 rfl) ?_
      refine lv_iconst (v := (1 : Int32)) hx hb dL_law_263 (by decide) ?_
      refine lv_iadd hx hb dL_law_264 ?_
      refine va_sld hx hb hX hbl hbA hS g1 dL_law_265 ?_
      obtain ⟨⟨r1, J1, E1, L1⟩, hc1, hc2⟩ := of_bind_some hc
      cases hc2
      have hPs : va_P (dC, dI) vwCl ([] ++ (wC cI cC G ca nC ck J E Lg ++ wM cI2 cB cJ Q BM I A)) H := hP
      have hDs : va_D (fun q : Nat => s.heap.size ≤ q) ([] ++ (wC cI cC G ca nC ck J E Lg ++ wM cI2 cB cJ Q BM I A)) := hD
      have hF := va_freeMid hDs hS hA
      refine va_calli (va_runV (As := [.int (xs (x3 + 1).toNatClampNeg)]) (rest := []) ⟨hx, hb, hml, hown, hts⟩ (mX8_write l en dC dI cI cC G ca nC ck J E Lg (xs (x3 + 1).toNatClampNeg) H.size _ hc1) (cwV 1 hts gW_X8_write rfl rfl rfl (by decide +kernel) ⟨Nat.le_of_ble_eq_true rfl, Nat.le_of_ble_eq_true rfl⟩) ⟨blindWE, va_recv hK hP.left (ci := 5) (q0 := 0) rfl rfl, fun U hU hW => ⟨rfl, by rw [hU], by rw [hU]; exact hP.left, va_K.moved hW.alike (hK.sub [0, 1] rfl), hD.left.weaken (fun _ _ _ _ => trivial), cE_sub hE hS hW hU hF⟩⟩ rfl rfl hl.1 rfl (lv_room (Nat.le_of_ble_eq_true rfl)) dL_law_266 ⟨(by show _ ≤ 600000; omega), (by show _ ≤ 7302250; omega)⟩) hS (fun q _ h => hF q h) hF (fun r0 u t H locs ht hvm hw hB hz1 hk1 hS => ?_)
      cases hw
      obtain ⟨hP1, hK9, hD1⟩ := hB
      rw [ht] at hP1
      obtain ⟨hP, hD⟩ := va_joinMid hPs hDs hk1 hF hP1 hD1
      have hP : va_P (dC, dI) vwCl (wC cI cC G ca nC ck J2 E2 L2 ++ wM cI2 cB cJ Q BM I A) H := hP
      have hD : va_D (fun q : Nat => s.heap.size ≤ q) (wC cI cC G ca nC ck J2 E2 L2 ++ wM cI2 cB cJ Q BM I A) := hD
      clear hPs hDs hP1 hD1 hk1 hF
      refine lv_aload_n hx hb dL_law_269 rfl (lv_at hl 2 rfl) ?_
      refine lv_aload_n hx hb dL_law_270 rfl (lv_at hl 0 rfl) ?_
      refine lv_iload_n hx hb dL_law_271 rfl (lv_at hl 3 rfl) ?_
      refine lv_iconst (v := (1 : Int32)) hx hb dL_law_272 (by decide) ?_
      refine lv_iadd hx hb dL_law_273 ?_
      refine va_sld hx hb hX hbl hbA hS g1 dL_law_274 ?_
      have hPs : va_P (dC, dI) vwCl (wC cI cC G ca nC ck J2 E2 L2 ++ (wM cI2 cB cJ Q BM I A ++ [])) H := hP
      have hDs : va_D (fun q : Nat => s.heap.size ≤ q) (wC cI cC G ca nC ck J2 E2 L2 ++ (wM cI2 cB cJ Q BM I A ++ [])) := hD
      have hF := va_freeMid hDs hS hA
      refine va_calli (va_runV (As := [.int (xs (x3 + 1).toNatClampNeg)]) (rest := [.int r]) ⟨hx, hb, hml, hown, hts⟩ (mX9_write l dC dI cI2 cB cJ Q BM I A (xs (x3 + 1).toNatClampNeg) H.size _ hm) (cwV 1 hts gW_X9_write rfl rfl rfl (by decide +kernel) ⟨Nat.le_of_ble_eq_true rfl, Nat.le_of_ble_eq_true rfl⟩) ⟨blindW, va_recv hK hPs.mid (ci := 6) (q0 := 0) rfl rfl, fun U hU hW => ⟨rfl, by rw [hU], by rw [hU]; exact hPs.mid, va_K.moved hW.alike (hK.sub [2, 3, 4] rfl), hDs.mid.weaken (fun _ _ _ _ => trivial)⟩⟩ rfl rfl hl.1 rfl (lv_room (Nat.le_of_ble_eq_true rfl)) dL_law_275 ⟨(by show _ ≤ 600000; omega), (by show _ ≤ 7302250; omega)⟩) hS (fun q _ h => hF q h) hF (fun r0 u t H locs ht hvm hw hB hz1 hk1 hS => ?_)
      cases hw
      obtain ⟨hP1, hK9, hD1⟩ := hB
      rw [ht] at hP1
      obtain ⟨hP, hD⟩ := va_joinMid hPs hDs hk1 hF hP1 hD1
      have hP : va_P (dC, dI) vwCl (wC cI cC G ca nC ck J2 E2 L2 ++ wM cI2 cB cJ Q BM I2 A2) H := hP
      have hD : va_D (fun q : Nat => s.heap.size ≤ q) (wC cI cC G ca nC ck J2 E2 L2 ++ wM cI2 cB cJ Q BM I2 A2) := hD
      refine lv_icmp_eq (tgt := 553) hx hb dL_law_278 (by decide) (fun _ => ?_) (fun cx => absurd rfl cx)
      exact fin _ _ _ _ _ _ _ ca _ _ _ _ hRel2 (by omega) (by omega) hP hD hS
    by_cases c25 : op = (5 : Int32)
    · refine lv_tableIn (tgt := 283) hx hb dL_law_32 (by rw [c25]; decide) (by rw [c25]; decide) (by rw [c25]; rfl) (by decide) ?_
      obtain ⟨r, ⟨nC2, ck2, J2, E2, L2⟩, ⟨I2, A2⟩, hc, hm, hRel2⟩ := h5 (nC, ck, J, E, Lg) (I, A) (xs (x3 + 1).toNatClampNeg) hRel
      refine lv_aload_n hx hb dL_law_283 rfl (lv_at hl 1 rfl) ?_
      refine lv_aload_n hx hb dL_law_284 rfl (lv_at hl 0 rfl) ?_
      refine lv_iload_n hx hb dL_law_285 rfl (lv_at hl 3 rfl) ?_
      refine lv_iconst (v := (1 : Int32)) hx hb dL_law_286 (by decide) ?_
      refine lv_iadd hx hb dL_law_287 ?_
      refine va_sld hx hb hX hbl hbA hS g1 dL_law_288 ?_
      obtain ⟨r1, hc1, hc2⟩ := of_bind_some hc
      cases hc2
      refine W.callR (r := r) (W.runV (As := [.int (xs (x3 + 1).toNatClampNeg)]) (rest := []) ⟨hx, hb, hml, hown, hts⟩ (mX8_shown l en dC dI cI cC G ca nC ck J E Lg (xs (x3 + 1).toNatClampNeg) r hc1) (cwV 1 hts gW_X8_shown rfl rfl rfl (by decide +kernel) ⟨Nat.le_of_ble_eq_true rfl, Nat.le_of_ble_eq_true rfl⟩) ⟨blindRE, va_recv hK hP.left (ci := 5) (q0 := 0) rfl rfl, fun U hU hW => ⟨rfl, by rw [hU]; exact hP.left, va_K.moved hW.alike (hK.sub [0, 1] rfl), cE_read hE hS hW hU⟩⟩ rfl rfl hl.1 rfl (lv_room (Nat.le_of_ble_eq_true rfl)) dL_law_289 ⟨(by show _ ≤ 600000; omega), (by show _ ≤ 7302250; omega)⟩) ?_
      refine W.eq (g2 := F0 m 292 ls [.int r]) rfl ?_
      refine lv_aload_n hx hb dL_law_292 rfl (lv_at hl 2 rfl) ?_
      refine lv_aload_n hx hb dL_law_293 rfl (lv_at hl 0 rfl) ?_
      refine lv_iload_n hx hb dL_law_294 rfl (lv_at hl 3 rfl) ?_
      refine lv_iconst (v := (1 : Int32)) hx hb dL_law_295 (by decide) ?_
      refine lv_iadd hx hb dL_law_296 ?_
      refine va_sld hx hb hX hbl hbA hS g1 dL_law_297 ?_
      have hPs : va_P (dC, dI) vwCl (wC cI cC G ca nC ck J E Lg ++ (wM cI2 cB cJ Q BM I A ++ [])) H := hP
      obtain ⟨r2, hm1, hm2⟩ := of_bind_some hm
      cases hm2
      refine W.callR (r := r) (W.runV (As := [.int (xs (x3 + 1).toNatClampNeg)]) (rest := [.int r]) ⟨hx, hb, hml, hown, hts⟩ (mX9_shown l dC dI cI2 cB cJ Q BM I A (xs (x3 + 1).toNatClampNeg) r hm1) (cwV 1 hts gW_X9_shown rfl rfl rfl (by decide +kernel) ⟨Nat.le_of_ble_eq_true rfl, Nat.le_of_ble_eq_true rfl⟩) ⟨blindR, va_recv hK hPs.mid (ci := 6) (q0 := 0) rfl rfl, fun U hU hW => ⟨rfl, by rw [hU]; exact hPs.mid, va_K.moved hW.alike (hK.sub [2, 3, 4] rfl)⟩⟩ rfl rfl hl.1 rfl (lv_room (Nat.le_of_ble_eq_true rfl)) dL_law_298 ⟨(by show _ ≤ 600000; omega), (by show _ ≤ 7302250; omega)⟩) ?_
      refine W.eq (g2 := F0 m 301 ls [.int r, .int r]) rfl ?_
      refine lv_icmp_eq (tgt := 553) hx hb dL_law_301 (by decide) (fun _ => ?_) (fun cx => absurd rfl cx)
      exact fin _ _ _ _ _ _ _ ca _ _ _ _ hRel2 (by omega) (by omega) hP hD hS
    by_cases c26 : op = (6 : Int32)
    · refine lv_tableIn (tgt := 306) hx hb dL_law_32 (by rw [c26]; decide) (by rw [c26]; decide) (by rw [c26]; rfl) (by decide) ?_
      obtain ⟨r, ⟨nC2, ck2, J2, E2, L2⟩, ⟨I2, A2⟩, hc, hm, hRel2⟩ := h6 (nC, ck, J, E, Lg) (I, A) (xs (x3 + 1).toNatClampNeg) (xs (x3 + 2).toNatClampNeg) hRel
      refine lv_aload_n hx hb dL_law_306 rfl (lv_at hl 1 rfl) ?_
      refine lv_aload_n hx hb dL_law_307 rfl (lv_at hl 0 rfl) ?_
      refine lv_iload_n hx hb dL_law_308 rfl (lv_at hl 3 rfl) ?_
      refine lv_iconst (v := (1 : Int32)) hx hb dL_law_309 (by decide) ?_
      refine lv_iadd hx hb dL_law_310 ?_
      refine va_sld hx hb hX hbl hbA hS g1 dL_law_311 ?_
      refine lv_aload_n hx hb dL_law_312 rfl (lv_at hl 0 rfl) ?_
      refine lv_iload_n hx hb dL_law_313 rfl (lv_at hl 3 rfl) ?_
      refine lv_iconst (v := (2 : Int32)) hx hb dL_law_314 (by decide) ?_
      refine lv_iadd hx hb dL_law_315 ?_
      refine va_sld hx hb hX hbl hbA hS g2 dL_law_316 ?_
      obtain ⟨⟨r1, J1, E1, L1⟩, hc1, hc2⟩ := of_bind_some hc
      cases hc2
      have hPs : va_P (dC, dI) vwCl ([] ++ (wC cI cC G ca nC ck J E Lg ++ wM cI2 cB cJ Q BM I A)) H := hP
      have hDs : va_D (fun q : Nat => s.heap.size ≤ q) ([] ++ (wC cI cC G ca nC ck J E Lg ++ wM cI2 cB cJ Q BM I A)) := hD
      have hF := va_freeMid hDs hS hA
      refine va_calli (va_runV (As := [.int (xs (x3 + 1).toNatClampNeg), .int (xs (x3 + 2).toNatClampNeg)]) (rest := []) ⟨hx, hb, hml, hown, hts⟩ (mX8_named l en dC dI cI cC G ca nC ck J E Lg (xs (x3 + 1).toNatClampNeg) (xs (x3 + 2).toNatClampNeg) H.size _ hc1) (cwV 2 hts gW_X8_named rfl rfl rfl (by decide +kernel) ⟨Nat.le_of_ble_eq_true rfl, Nat.le_of_ble_eq_true rfl⟩) ⟨blindWE, va_recv hK hP.left (ci := 5) (q0 := 0) rfl rfl, fun U hU hW => ⟨rfl, by rw [hU], by rw [hU]; exact hP.left, va_K.moved hW.alike (hK.sub [0, 1] rfl), hD.left.weaken (fun _ _ _ _ => trivial), cE_sub hE hS hW hU hF⟩⟩ rfl rfl hl.1 rfl (lv_room (Nat.le_of_ble_eq_true rfl)) dL_law_317 ⟨(by show _ ≤ 600000; omega), (by show _ ≤ 7302250; omega)⟩) hS (fun q _ h => hF q h) hF (fun r0 u t H locs ht hvm hw hB hz1 hk1 hS => ?_)
      cases hw
      obtain ⟨hP1, hK9, hD1⟩ := hB
      rw [ht] at hP1
      obtain ⟨hP, hD⟩ := va_joinMid hPs hDs hk1 hF hP1 hD1
      have hP : va_P (dC, dI) vwCl (wC cI cC G ca nC ck J2 E2 L2 ++ wM cI2 cB cJ Q BM I A) H := hP
      have hD : va_D (fun q : Nat => s.heap.size ≤ q) (wC cI cC G ca nC ck J2 E2 L2 ++ wM cI2 cB cJ Q BM I A) := hD
      clear hPs hDs hP1 hD1 hk1 hF
      refine lv_aload_n hx hb dL_law_320 rfl (lv_at hl 2 rfl) ?_
      refine lv_aload_n hx hb dL_law_321 rfl (lv_at hl 0 rfl) ?_
      refine lv_iload_n hx hb dL_law_322 rfl (lv_at hl 3 rfl) ?_
      refine lv_iconst (v := (1 : Int32)) hx hb dL_law_323 (by decide) ?_
      refine lv_iadd hx hb dL_law_324 ?_
      refine va_sld hx hb hX hbl hbA hS g1 dL_law_325 ?_
      refine lv_aload_n hx hb dL_law_326 rfl (lv_at hl 0 rfl) ?_
      refine lv_iload_n hx hb dL_law_327 rfl (lv_at hl 3 rfl) ?_
      refine lv_iconst (v := (2 : Int32)) hx hb dL_law_328 (by decide) ?_
      refine lv_iadd hx hb dL_law_329 ?_
      refine va_sld hx hb hX hbl hbA hS g2 dL_law_330 ?_
      have hPs : va_P (dC, dI) vwCl (wC cI cC G ca nC ck J2 E2 L2 ++ (wM cI2 cB cJ Q BM I A ++ [])) H := hP
      have hDs : va_D (fun q : Nat => s.heap.size ≤ q) (wC cI cC G ca nC ck J2 E2 L2 ++ (wM cI2 cB cJ Q BM I A ++ [])) := hD
      have hF := va_freeMid hDs hS hA
      refine va_calli (va_runV (As := [.int (xs (x3 + 1).toNatClampNeg), .int (xs (x3 + 2).toNatClampNeg)]) (rest := [.int r]) ⟨hx, hb, hml, hown, hts⟩ (mX9_named l dC dI cI2 cB cJ Q BM I A (xs (x3 + 1).toNatClampNeg) (xs (x3 + 2).toNatClampNeg) H.size _ hm) (cwV 2 hts gW_X9_named rfl rfl rfl (by decide +kernel) ⟨Nat.le_of_ble_eq_true rfl, Nat.le_of_ble_eq_true rfl⟩) ⟨blindW, va_recv hK hPs.mid (ci := 6) (q0 := 0) rfl rfl, fun U hU hW => ⟨rfl, by rw [hU], by rw [hU]; exact hPs.mid, va_K.moved hW.alike (hK.sub [2, 3, 4] rfl), hDs.mid.weaken (fun _ _ _ _ => trivial)⟩⟩ rfl rfl hl.1 rfl (lv_room (Nat.le_of_ble_eq_true rfl)) dL_law_331 ⟨(by show _ ≤ 600000; omega), (by show _ ≤ 7302250; omega)⟩) hS (fun q _ h => hF q h) hF (fun r0 u t H locs ht hvm hw hB hz1 hk1 hS => ?_)
      cases hw
      obtain ⟨hP1, hK9, hD1⟩ := hB
      rw [ht] at hP1
      obtain ⟨hP, hD⟩ := va_joinMid hPs hDs hk1 hF hP1 hD1
      have hP : va_P (dC, dI) vwCl (wC cI cC G ca nC ck J2 E2 L2 ++ wM cI2 cB cJ Q BM I2 A2) H := hP
      have hD : va_D (fun q : Nat => s.heap.size ≤ q) (wC cI cC G ca nC ck J2 E2 L2 ++ wM cI2 cB cJ Q BM I2 A2) := hD
      refine lv_icmp_eq (tgt := 553) hx hb dL_law_334 (by decide) (fun _ => ?_) (fun cx => absurd rfl cx)
      exact fin _ _ _ _ _ _ _ ca _ _ _ _ hRel2 (by omega) (by omega) hP hD hS
    by_cases c27 : op = (7 : Int32)
    · refine lv_tableIn (tgt := 339) hx hb dL_law_32 (by rw [c27]; decide) (by rw [c27]; decide) (by rw [c27]; rfl) (by decide) ?_
      obtain ⟨r, ⟨nC2, ck2, J2, E2, L2⟩, ⟨I2, A2⟩, hc, hm, hRel2⟩ := h7 (nC, ck, J, E, Lg) (I, A) (xs (x3 + 1).toNatClampNeg) hRel
      refine lv_aload_n hx hb dL_law_339 rfl (lv_at hl 1 rfl) ?_
      refine lv_aload_n hx hb dL_law_340 rfl (lv_at hl 0 rfl) ?_
      refine lv_iload_n hx hb dL_law_341 rfl (lv_at hl 3 rfl) ?_
      refine lv_iconst (v := (1 : Int32)) hx hb dL_law_342 (by decide) ?_
      refine lv_iadd hx hb dL_law_343 ?_
      refine va_sld hx hb hX hbl hbA hS g1 dL_law_344 ?_
      obtain ⟨⟨r1, J1, E1, L1⟩, hc1, hc2⟩ := of_bind_some hc
      cases hc2
      have hPs : va_P (dC, dI) vwCl ([] ++ (wC cI cC G ca nC ck J E Lg ++ wM cI2 cB cJ Q BM I A)) H := hP
      have hDs : va_D (fun q : Nat => s.heap.size ≤ q) ([] ++ (wC cI cC G ca nC ck J E Lg ++ wM cI2 cB cJ Q BM I A)) := hD
      have hF := va_freeMid hDs hS hA
      refine va_calli (va_runV (As := [.int (xs (x3 + 1).toNatClampNeg)]) (rest := []) ⟨hx, hb, hml, hown, hts⟩ (mX8_name l en dC dI cI cC G ca nC ck J E Lg (xs (x3 + 1).toNatClampNeg) H.size _ hc1) (cwV 1 hts gW_X8_name rfl rfl rfl (by decide +kernel) ⟨Nat.le_of_ble_eq_true rfl, Nat.le_of_ble_eq_true rfl⟩) ⟨blindWE, va_recv hK hP.left (ci := 5) (q0 := 0) rfl rfl, fun U hU hW => ⟨rfl, by rw [hU], by rw [hU]; exact hP.left, va_K.moved hW.alike (hK.sub [0, 1] rfl), hD.left.weaken (fun _ _ _ _ => trivial), cE_sub hE hS hW hU hF⟩⟩ rfl rfl hl.1 rfl (lv_room (Nat.le_of_ble_eq_true rfl)) dL_law_345 ⟨(by show _ ≤ 600000; omega), (by show _ ≤ 7302250; omega)⟩) hS (fun q _ h => hF q h) hF (fun r0 u t H locs ht hvm hw hB hz1 hk1 hS => ?_)
      cases hw
      obtain ⟨hP1, hK9, hD1⟩ := hB
      rw [ht] at hP1
      obtain ⟨hP, hD⟩ := va_joinMid hPs hDs hk1 hF hP1 hD1
      have hP : va_P (dC, dI) vwCl (wC cI cC G ca nC ck J2 E2 L2 ++ wM cI2 cB cJ Q BM I A) H := hP
      have hD : va_D (fun q : Nat => s.heap.size ≤ q) (wC cI cC G ca nC ck J2 E2 L2 ++ wM cI2 cB cJ Q BM I A) := hD
      clear hPs hDs hP1 hD1 hk1 hF
      refine lv_aload_n hx hb dL_law_348 rfl (lv_at hl 2 rfl) ?_
      refine lv_aload_n hx hb dL_law_349 rfl (lv_at hl 0 rfl) ?_
      refine lv_iload_n hx hb dL_law_350 rfl (lv_at hl 3 rfl) ?_
      refine lv_iconst (v := (1 : Int32)) hx hb dL_law_351 (by decide) ?_
      refine lv_iadd hx hb dL_law_352 ?_
      refine va_sld hx hb hX hbl hbA hS g1 dL_law_353 ?_
      have hPs : va_P (dC, dI) vwCl (wC cI cC G ca nC ck J2 E2 L2 ++ (wM cI2 cB cJ Q BM I A ++ [])) H := hP
      have hDs : va_D (fun q : Nat => s.heap.size ≤ q) (wC cI cC G ca nC ck J2 E2 L2 ++ (wM cI2 cB cJ Q BM I A ++ [])) := hD
      have hF := va_freeMid hDs hS hA
      refine va_calli (va_runV (As := [.int (xs (x3 + 1).toNatClampNeg)]) (rest := [.int r]) ⟨hx, hb, hml, hown, hts⟩ (mX9_name l dC dI cI2 cB cJ Q BM I A (xs (x3 + 1).toNatClampNeg) H.size _ hm) (cwV 1 hts gW_X9_name rfl rfl rfl (by decide +kernel) ⟨Nat.le_of_ble_eq_true rfl, Nat.le_of_ble_eq_true rfl⟩) ⟨blindW, va_recv hK hPs.mid (ci := 6) (q0 := 0) rfl rfl, fun U hU hW => ⟨rfl, by rw [hU], by rw [hU]; exact hPs.mid, va_K.moved hW.alike (hK.sub [2, 3, 4] rfl), hDs.mid.weaken (fun _ _ _ _ => trivial)⟩⟩ rfl rfl hl.1 rfl (lv_room (Nat.le_of_ble_eq_true rfl)) dL_law_354 ⟨(by show _ ≤ 600000; omega), (by show _ ≤ 7302250; omega)⟩) hS (fun q _ h => hF q h) hF (fun r0 u t H locs ht hvm hw hB hz1 hk1 hS => ?_)
      cases hw
      obtain ⟨hP1, hK9, hD1⟩ := hB
      rw [ht] at hP1
      obtain ⟨hP, hD⟩ := va_joinMid hPs hDs hk1 hF hP1 hD1
      have hP : va_P (dC, dI) vwCl (wC cI cC G ca nC ck J2 E2 L2 ++ wM cI2 cB cJ Q BM I2 A2) H := hP
      have hD : va_D (fun q : Nat => s.heap.size ≤ q) (wC cI cC G ca nC ck J2 E2 L2 ++ wM cI2 cB cJ Q BM I2 A2) := hD
      refine lv_icmp_eq (tgt := 553) hx hb dL_law_357 (by decide) (fun _ => ?_) (fun cx => absurd rfl cx)
      exact fin _ _ _ _ _ _ _ ca _ _ _ _ hRel2 (by omega) (by omega) hP hD hS
    by_cases c28 : op = (8 : Int32)
    · refine lv_tableIn (tgt := 362) hx hb dL_law_32 (by rw [c28]; decide) (by rw [c28]; decide) (by rw [c28]; rfl) (by decide) ?_
      obtain ⟨r, ⟨nC2, ck2, J2, E2, L2⟩, ⟨I2, A2⟩, hc, hm, hRel2⟩ := h8 (nC, ck, J, E, Lg) (I, A) (xs (x3 + 1).toNatClampNeg) hRel
      refine lv_aload_n hx hb dL_law_362 rfl (lv_at hl 1 rfl) ?_
      refine lv_aload_n hx hb dL_law_363 rfl (lv_at hl 0 rfl) ?_
      refine lv_iload_n hx hb dL_law_364 rfl (lv_at hl 3 rfl) ?_
      refine lv_iconst (v := (1 : Int32)) hx hb dL_law_365 (by decide) ?_
      refine lv_iadd hx hb dL_law_366 ?_
      refine va_sld hx hb hX hbl hbA hS g1 dL_law_367 ?_
      obtain ⟨r1, hc1, hc2⟩ := of_bind_some hc
      cases hc2
      refine W.callR (r := r) (W.runV (As := [.int (xs (x3 + 1).toNatClampNeg)]) (rest := []) ⟨hx, hb, hml, hown, hts⟩ (mX8_normal l en dC dI cI cC G ca nC ck J E Lg (xs (x3 + 1).toNatClampNeg) r hc1) (cwV 1 hts gW_X8_normal rfl rfl rfl (by decide +kernel) ⟨Nat.le_of_ble_eq_true rfl, Nat.le_of_ble_eq_true rfl⟩) ⟨blindRE, va_recv hK hP.left (ci := 5) (q0 := 0) rfl rfl, fun U hU hW => ⟨rfl, by rw [hU]; exact hP.left, va_K.moved hW.alike (hK.sub [0, 1] rfl), cE_read hE hS hW hU⟩⟩ rfl rfl hl.1 rfl (lv_room (Nat.le_of_ble_eq_true rfl)) dL_law_368 ⟨(by show _ ≤ 600000; omega), (by show _ ≤ 7302250; omega)⟩) ?_
      refine W.eq (g2 := F0 m 371 ls [.int r]) rfl ?_
      refine lv_aload_n hx hb dL_law_371 rfl (lv_at hl 2 rfl) ?_
      refine lv_aload_n hx hb dL_law_372 rfl (lv_at hl 0 rfl) ?_
      refine lv_iload_n hx hb dL_law_373 rfl (lv_at hl 3 rfl) ?_
      refine lv_iconst (v := (1 : Int32)) hx hb dL_law_374 (by decide) ?_
      refine lv_iadd hx hb dL_law_375 ?_
      refine va_sld hx hb hX hbl hbA hS g1 dL_law_376 ?_
      have hPs : va_P (dC, dI) vwCl (wC cI cC G ca nC ck J E Lg ++ (wM cI2 cB cJ Q BM I A ++ [])) H := hP
      have hDs : va_D (fun q : Nat => s.heap.size ≤ q) (wC cI cC G ca nC ck J E Lg ++ (wM cI2 cB cJ Q BM I A ++ [])) := hD
      have hF := va_freeMid hDs hS hA
      refine va_calli (va_runV (As := [.int (xs (x3 + 1).toNatClampNeg)]) (rest := [.int r]) ⟨hx, hb, hml, hown, hts⟩ (mX9_normal l dC dI cI2 cB cJ Q BM I A (xs (x3 + 1).toNatClampNeg) H.size _ hm) (cwV 1 hts gW_X9_normal rfl rfl rfl (by decide +kernel) ⟨Nat.le_of_ble_eq_true rfl, Nat.le_of_ble_eq_true rfl⟩) ⟨blindW, va_recv hK hPs.mid (ci := 6) (q0 := 0) rfl rfl, fun U hU hW => ⟨rfl, by rw [hU], by rw [hU]; exact hPs.mid, va_K.moved hW.alike (hK.sub [2, 3, 4] rfl), hDs.mid.weaken (fun _ _ _ _ => trivial)⟩⟩ rfl rfl hl.1 rfl (lv_room (Nat.le_of_ble_eq_true rfl)) dL_law_377 ⟨(by show _ ≤ 600000; omega), (by show _ ≤ 7302250; omega)⟩) hS (fun q _ h => hF q h) hF (fun r0 u t H locs ht hvm hw hB hz1 hk1 hS => ?_)
      cases hw
      obtain ⟨hP1, hK9, hD1⟩ := hB
      rw [ht] at hP1
      obtain ⟨hP, hD⟩ := va_joinMid hPs hDs hk1 hF hP1 hD1
      have hP : va_P (dC, dI) vwCl (wC cI cC G ca nC ck J E Lg ++ wM cI2 cB cJ Q BM I2 A2) H := hP
      have hD : va_D (fun q : Nat => s.heap.size ≤ q) (wC cI cC G ca nC ck J E Lg ++ wM cI2 cB cJ Q BM I2 A2) := hD
      refine lv_icmp_eq (tgt := 553) hx hb dL_law_380 (by decide) (fun _ => ?_) (fun cx => absurd rfl cx)
      exact fin _ _ _ _ _ _ _ ca _ _ _ _ hRel2 (by omega) (by omega) hP hD hS
    by_cases c29 : op = (9 : Int32)
    · refine lv_tableIn (tgt := 385) hx hb dL_law_32 (by rw [c29]; decide) (by rw [c29]; decide) (by rw [c29]; rfl) (by decide) ?_
      obtain ⟨r, ⟨nC2, ck2, J2, E2, L2⟩, ⟨I2, A2⟩, hc, hm, hRel2⟩ := h9 (nC, ck, J, E, Lg) (I, A) (xs (x3 + 1).toNatClampNeg) (xs (x3 + 2).toNatClampNeg) hRel
      refine lv_aload_n hx hb dL_law_385 rfl (lv_at hl 1 rfl) ?_
      refine lv_aload_n hx hb dL_law_386 rfl (lv_at hl 0 rfl) ?_
      refine lv_iload_n hx hb dL_law_387 rfl (lv_at hl 3 rfl) ?_
      refine lv_iconst (v := (1 : Int32)) hx hb dL_law_388 (by decide) ?_
      refine lv_iadd hx hb dL_law_389 ?_
      refine va_sld hx hb hX hbl hbA hS g1 dL_law_390 ?_
      refine lv_aload_n hx hb dL_law_391 rfl (lv_at hl 0 rfl) ?_
      refine lv_iload_n hx hb dL_law_392 rfl (lv_at hl 3 rfl) ?_
      refine lv_iconst (v := (2 : Int32)) hx hb dL_law_393 (by decide) ?_
      refine lv_iadd hx hb dL_law_394 ?_
      refine va_sld hx hb hX hbl hbA hS g2 dL_law_395 ?_
      have hPs : va_P (dC, dI) vwCl ([] ++ (wC cI cC G ca nC ck J E Lg ++ wM cI2 cB cJ Q BM I A)) H := hP
      have hDs : va_D (fun q : Nat => s.heap.size ≤ q) ([] ++ (wC cI cC G ca nC ck J E Lg ++ wM cI2 cB cJ Q BM I A)) := hD
      have hF := va_freeMid hDs hS hA
      refine va_calli (va_runV (As := [.int (xs (x3 + 1).toNatClampNeg), .int (xs (x3 + 2).toNatClampNeg)]) (rest := []) ⟨hx, hb, hml, hown, hts⟩ (mX8_move l en dC dI cI cC G ca nC ck J E Lg (xs (x3 + 1).toNatClampNeg) (xs (x3 + 2).toNatClampNeg) H.size _ hc) (cwV 2 hts gW_X8_move rfl rfl rfl (by decide +kernel) ⟨Nat.le_of_ble_eq_true rfl, Nat.le_of_ble_eq_true rfl⟩) ⟨blindWE, va_recv hK hP.left (ci := 5) (q0 := 0) rfl rfl, fun U hU hW => ⟨rfl, by rw [hU], by rw [hU]; exact hP.left, va_K.moved hW.alike (hK.sub [0, 1] rfl), hD.left.weaken (fun _ _ _ _ => trivial), cE_sub hE hS hW hU hF⟩⟩ rfl rfl hl.1 rfl (lv_room (Nat.le_of_ble_eq_true rfl)) dL_law_396 ⟨(by show _ ≤ 600000; omega), (by show _ ≤ 7302250; omega)⟩) hS (fun q _ h => hF q h) hF (fun r0 u t H locs ht hvm hw hB hz1 hk1 hS => ?_)
      cases hw
      obtain ⟨ca2, hP1, hK9, hD1⟩ := hB
      rw [ht] at hP1
      obtain ⟨hP, hD⟩ := va_joinMid hPs hDs hk1 hF hP1 hD1
      have hP : va_P (dC, dI) vwCl (wC cI cC G ca2 nC2 ck2 J2 E2 L2 ++ wM cI2 cB cJ Q BM I A) H := hP
      have hD : va_D (fun q : Nat => s.heap.size ≤ q) (wC cI cC G ca2 nC2 ck2 J2 E2 L2 ++ wM cI2 cB cJ Q BM I A) := hD
      clear hPs hDs hP1 hD1 hk1 hF
      refine lv_aload_n hx hb dL_law_399 rfl (lv_at hl 2 rfl) ?_
      refine lv_aload_n hx hb dL_law_400 rfl (lv_at hl 0 rfl) ?_
      refine lv_iload_n hx hb dL_law_401 rfl (lv_at hl 3 rfl) ?_
      refine lv_iconst (v := (1 : Int32)) hx hb dL_law_402 (by decide) ?_
      refine lv_iadd hx hb dL_law_403 ?_
      refine va_sld hx hb hX hbl hbA hS g1 dL_law_404 ?_
      refine lv_aload_n hx hb dL_law_405 rfl (lv_at hl 0 rfl) ?_
      refine lv_iload_n hx hb dL_law_406 rfl (lv_at hl 3 rfl) ?_
      refine lv_iconst (v := (2 : Int32)) hx hb dL_law_407 (by decide) ?_
      refine lv_iadd hx hb dL_law_408 ?_
      refine va_sld hx hb hX hbl hbA hS g2 dL_law_409 ?_
      have hPs : va_P (dC, dI) vwCl (wC cI cC G ca2 nC2 ck2 J2 E2 L2 ++ (wM cI2 cB cJ Q BM I A ++ [])) H := hP
      have hDs : va_D (fun q : Nat => s.heap.size ≤ q) (wC cI cC G ca2 nC2 ck2 J2 E2 L2 ++ (wM cI2 cB cJ Q BM I A ++ [])) := hD
      have hF := va_freeMid hDs hS hA
      refine va_calli (va_runV (As := [.int (xs (x3 + 1).toNatClampNeg), .int (xs (x3 + 2).toNatClampNeg)]) (rest := [.int r]) ⟨hx, hb, hml, hown, hts⟩ (mX9_move l dC dI cI2 cB cJ Q BM I A (xs (x3 + 1).toNatClampNeg) (xs (x3 + 2).toNatClampNeg) H.size _ hm) (cwV 2 hts gW_X9_move rfl rfl rfl (by decide +kernel) ⟨Nat.le_of_ble_eq_true rfl, Nat.le_of_ble_eq_true rfl⟩) ⟨blindW, va_recv hK hPs.mid (ci := 6) (q0 := 0) rfl rfl, fun U hU hW => ⟨rfl, by rw [hU], by rw [hU]; exact hPs.mid, va_K.moved hW.alike (hK.sub [2, 3, 4] rfl), hDs.mid.weaken (fun _ _ _ _ => trivial)⟩⟩ rfl rfl hl.1 rfl (lv_room (Nat.le_of_ble_eq_true rfl)) dL_law_410 ⟨(by show _ ≤ 600000; omega), (by show _ ≤ 7302250; omega)⟩) hS (fun q _ h => hF q h) hF (fun r0 u t H locs ht hvm hw hB hz1 hk1 hS => ?_)
      cases hw
      obtain ⟨hP1, hK9, hD1⟩ := hB
      rw [ht] at hP1
      obtain ⟨hP, hD⟩ := va_joinMid hPs hDs hk1 hF hP1 hD1
      have hP : va_P (dC, dI) vwCl (wC cI cC G ca2 nC2 ck2 J2 E2 L2 ++ wM cI2 cB cJ Q BM I2 A2) H := hP
      have hD : va_D (fun q : Nat => s.heap.size ≤ q) (wC cI cC G ca2 nC2 ck2 J2 E2 L2 ++ wM cI2 cB cJ Q BM I2 A2) := hD
      refine lv_icmp_eq (tgt := 553) hx hb dL_law_413 (by decide) (fun _ => ?_) (fun cx => absurd rfl cx)
      exact fin _ _ _ _ _ _ _ ca2 _ _ _ _ hRel2 (by omega) (by omega) hP hD hS
    by_cases c30 : op = (10 : Int32)
    · refine lv_tableIn (tgt := 418) hx hb dL_law_32 (by rw [c30]; decide) (by rw [c30]; decide) (by rw [c30]; rfl) (by decide) ?_
      obtain ⟨r, ⟨nC2, ck2, J2, E2, L2⟩, ⟨I2, A2⟩, hc, hm, hRel2⟩ := h10 (nC, ck, J, E, Lg) (I, A) (xs (x3 + 1).toNatClampNeg) (xs (x3 + 2).toNatClampNeg) (xs (x3 + 3).toNatClampNeg) hRel
      refine lv_aload_n hx hb dL_law_418 rfl (lv_at hl 1 rfl) ?_
      refine lv_aload_n hx hb dL_law_419 rfl (lv_at hl 0 rfl) ?_
      refine lv_iload_n hx hb dL_law_420 rfl (lv_at hl 3 rfl) ?_
      refine lv_iconst (v := (1 : Int32)) hx hb dL_law_421 (by decide) ?_
      refine lv_iadd hx hb dL_law_422 ?_
      refine va_sld hx hb hX hbl hbA hS g1 dL_law_423 ?_
      refine lv_aload_n hx hb dL_law_424 rfl (lv_at hl 0 rfl) ?_
      refine lv_iload_n hx hb dL_law_425 rfl (lv_at hl 3 rfl) ?_
      refine lv_iconst (v := (2 : Int32)) hx hb dL_law_426 (by decide) ?_
      refine lv_iadd hx hb dL_law_427 ?_
      refine va_sld hx hb hX hbl hbA hS g2 dL_law_428 ?_
      refine lv_aload_n hx hb dL_law_429 rfl (lv_at hl 0 rfl) ?_
      refine lv_iload_n hx hb dL_law_430 rfl (lv_at hl 3 rfl) ?_
      refine lv_iconst (v := (3 : Int32)) hx hb dL_law_431 (by decide) ?_
      refine lv_iadd hx hb dL_law_432 ?_
      refine va_sld hx hb hX hbl hbA hS g3 dL_law_433 ?_
      obtain ⟨⟨r1, J1, E1, L1⟩, hc1, hc2⟩ := of_bind_some hc
      cases hc2
      have hPs : va_P (dC, dI) vwCl ([] ++ (wC cI cC G ca nC ck J E Lg ++ wM cI2 cB cJ Q BM I A)) H := hP
      have hDs : va_D (fun q : Nat => s.heap.size ≤ q) ([] ++ (wC cI cC G ca nC ck J E Lg ++ wM cI2 cB cJ Q BM I A)) := hD
      have hF := va_freeMid hDs hS hA
      refine va_calli (va_runV (As := [.int (xs (x3 + 1).toNatClampNeg), .int (xs (x3 + 2).toNatClampNeg), .int (xs (x3 + 3).toNatClampNeg)]) (rest := []) ⟨hx, hb, hml, hown, hts⟩ (mX8_voice l en dC dI cI cC G ca nC ck J E Lg (xs (x3 + 1).toNatClampNeg) (xs (x3 + 2).toNatClampNeg) (xs (x3 + 3).toNatClampNeg) H.size _ hc1) (cwV 3 hts gW_X8_voice rfl rfl rfl (by decide +kernel) ⟨Nat.le_of_ble_eq_true rfl, Nat.le_of_ble_eq_true rfl⟩) ⟨blindWE, va_recv hK hP.left (ci := 5) (q0 := 0) rfl rfl, fun U hU hW => ⟨rfl, by rw [hU], by rw [hU]; exact hP.left, va_K.moved hW.alike (hK.sub [0, 1] rfl), hD.left.weaken (fun _ _ _ _ => trivial), cE_sub hE hS hW hU hF⟩⟩ rfl rfl hl.1 rfl (lv_room (Nat.le_of_ble_eq_true rfl)) dL_law_434 ⟨(by show _ ≤ 600000; omega), (by show _ ≤ 7302250; omega)⟩) hS (fun q _ h => hF q h) hF (fun r0 u t H locs ht hvm hw hB hz1 hk1 hS => ?_)
      cases hw
      obtain ⟨hP1, hK9, hD1⟩ := hB
      rw [ht] at hP1
      obtain ⟨hP, hD⟩ := va_joinMid hPs hDs hk1 hF hP1 hD1
      have hP : va_P (dC, dI) vwCl (wC cI cC G ca nC ck J2 E2 L2 ++ wM cI2 cB cJ Q BM I A) H := hP
      have hD : va_D (fun q : Nat => s.heap.size ≤ q) (wC cI cC G ca nC ck J2 E2 L2 ++ wM cI2 cB cJ Q BM I A) := hD
      clear hPs hDs hP1 hD1 hk1 hF
      refine lv_aload_n hx hb dL_law_437 rfl (lv_at hl 2 rfl) ?_
      refine lv_aload_n hx hb dL_law_438 rfl (lv_at hl 0 rfl) ?_
      refine lv_iload_n hx hb dL_law_439 rfl (lv_at hl 3 rfl) ?_
      refine lv_iconst (v := (1 : Int32)) hx hb dL_law_440 (by decide) ?_
      refine lv_iadd hx hb dL_law_441 ?_
      refine va_sld hx hb hX hbl hbA hS g1 dL_law_442 ?_
      refine lv_aload_n hx hb dL_law_443 rfl (lv_at hl 0 rfl) ?_
      refine lv_iload_n hx hb dL_law_444 rfl (lv_at hl 3 rfl) ?_
      refine lv_iconst (v := (2 : Int32)) hx hb dL_law_445 (by decide) ?_
      refine lv_iadd hx hb dL_law_446 ?_
      refine va_sld hx hb hX hbl hbA hS g2 dL_law_447 ?_
      refine lv_aload_n hx hb dL_law_448 rfl (lv_at hl 0 rfl) ?_
      refine lv_iload_n hx hb dL_law_449 rfl (lv_at hl 3 rfl) ?_
      refine lv_iconst (v := (3 : Int32)) hx hb dL_law_450 (by decide) ?_
      refine lv_iadd hx hb dL_law_451 ?_
      refine va_sld hx hb hX hbl hbA hS g3 dL_law_452 ?_
      have hPs : va_P (dC, dI) vwCl (wC cI cC G ca nC ck J2 E2 L2 ++ (wM cI2 cB cJ Q BM I A ++ [])) H := hP
      have hDs : va_D (fun q : Nat => s.heap.size ≤ q) (wC cI cC G ca nC ck J2 E2 L2 ++ (wM cI2 cB cJ Q BM I A ++ [])) := hD
      have hF := va_freeMid hDs hS hA
      refine va_calli (va_runV (As := [.int (xs (x3 + 1).toNatClampNeg), .int (xs (x3 + 2).toNatClampNeg), .int (xs (x3 + 3).toNatClampNeg)]) (rest := [.int r]) ⟨hx, hb, hml, hown, hts⟩ (mX9_voice l dC dI cI2 cB cJ Q BM I A (xs (x3 + 1).toNatClampNeg) (xs (x3 + 2).toNatClampNeg) (xs (x3 + 3).toNatClampNeg) H.size _ hm) (cwV 3 hts gW_X9_voice rfl rfl rfl (by decide +kernel) ⟨Nat.le_of_ble_eq_true rfl, Nat.le_of_ble_eq_true rfl⟩) ⟨blindW, va_recv hK hPs.mid (ci := 6) (q0 := 0) rfl rfl, fun U hU hW => ⟨rfl, by rw [hU], by rw [hU]; exact hPs.mid, va_K.moved hW.alike (hK.sub [2, 3, 4] rfl), hDs.mid.weaken (fun _ _ _ _ => trivial)⟩⟩ rfl rfl hl.1 rfl (lv_room (Nat.le_of_ble_eq_true rfl)) dL_law_453 ⟨(by show _ ≤ 600000; omega), (by show _ ≤ 7302250; omega)⟩) hS (fun q _ h => hF q h) hF (fun r0 u t H locs ht hvm hw hB hz1 hk1 hS => ?_)
      cases hw
      obtain ⟨hP1, hK9, hD1⟩ := hB
      rw [ht] at hP1
      obtain ⟨hP, hD⟩ := va_joinMid hPs hDs hk1 hF hP1 hD1
      have hP : va_P (dC, dI) vwCl (wC cI cC G ca nC ck J2 E2 L2 ++ wM cI2 cB cJ Q BM I2 A2) H := hP
      have hD : va_D (fun q : Nat => s.heap.size ≤ q) (wC cI cC G ca nC ck J2 E2 L2 ++ wM cI2 cB cJ Q BM I2 A2) := hD
      refine lv_icmp_eq (tgt := 553) hx hb dL_law_456 (by decide) (fun _ => ?_) (fun cx => absurd rfl cx)
      exact fin _ _ _ _ _ _ _ ca _ _ _ _ hRel2 (by omega) (by omega) hP hD hS
    by_cases c31 : op = (11 : Int32)
    · refine lv_tableIn (tgt := 461) hx hb dL_law_32 (by rw [c31]; decide) (by rw [c31]; decide) (by rw [c31]; rfl) (by decide) ?_
      obtain ⟨r, ⟨nC2, ck2, J2, E2, L2⟩, ⟨I2, A2⟩, hc, hm, hRel2⟩ := h11 (nC, ck, J, E, Lg) (I, A) (xs (x3 + 1).toNatClampNeg) hRel
      refine lv_aload_n hx hb dL_law_461 rfl (lv_at hl 1 rfl) ?_
      refine lv_aload_n hx hb dL_law_462 rfl (lv_at hl 0 rfl) ?_
      refine lv_iload_n hx hb dL_law_463 rfl (lv_at hl 3 rfl) ?_
      refine lv_iconst (v := (1 : Int32)) hx hb dL_law_464 (by decide) ?_
      refine lv_iadd hx hb dL_law_465 ?_
      refine va_sld hx hb hX hbl hbA hS g1 dL_law_466 ?_
      obtain ⟨r1, hc1, hc2⟩ := of_bind_some hc
      cases hc2
      refine W.callR (r := r) (W.runV (As := [.int (xs (x3 + 1).toNatClampNeg)]) (rest := []) ⟨hx, hb, hml, hown, hts⟩ (mX8_key l en dC dI cI cC G ca nC ck J E Lg (xs (x3 + 1).toNatClampNeg) r hc1) (cwV 1 hts gW_X8_key rfl rfl rfl (by decide +kernel) ⟨Nat.le_of_ble_eq_true rfl, Nat.le_of_ble_eq_true rfl⟩) ⟨blindRE, va_recv hK hP.left (ci := 5) (q0 := 0) rfl rfl, fun U hU hW => ⟨rfl, by rw [hU]; exact hP.left, va_K.moved hW.alike (hK.sub [0, 1] rfl), cE_read hE hS hW hU⟩⟩ rfl rfl hl.1 rfl (lv_room (Nat.le_of_ble_eq_true rfl)) dL_law_467 ⟨(by show _ ≤ 600000; omega), (by show _ ≤ 7302250; omega)⟩) ?_
      refine W.eq (g2 := F0 m 470 ls [.int r]) rfl ?_
      refine lv_aload_n hx hb dL_law_470 rfl (lv_at hl 2 rfl) ?_
      refine lv_aload_n hx hb dL_law_471 rfl (lv_at hl 0 rfl) ?_
      refine lv_iload_n hx hb dL_law_472 rfl (lv_at hl 3 rfl) ?_
      refine lv_iconst (v := (1 : Int32)) hx hb dL_law_473 (by decide) ?_
      refine lv_iadd hx hb dL_law_474 ?_
      refine va_sld hx hb hX hbl hbA hS g1 dL_law_475 ?_
      have hPs : va_P (dC, dI) vwCl (wC cI cC G ca nC ck J E Lg ++ (wM cI2 cB cJ Q BM I A ++ [])) H := hP
      obtain ⟨r2, hm1, hm2⟩ := of_bind_some hm
      cases hm2
      refine W.callR (r := r) (W.runV (As := [.int (xs (x3 + 1).toNatClampNeg)]) (rest := [.int r]) ⟨hx, hb, hml, hown, hts⟩ (mX9_key l dC dI cI2 cB cJ Q BM I A (xs (x3 + 1).toNatClampNeg) r hm1) (cwV 1 hts gW_X9_key rfl rfl rfl (by decide +kernel) ⟨Nat.le_of_ble_eq_true rfl, Nat.le_of_ble_eq_true rfl⟩) ⟨blindR, va_recv hK hPs.mid (ci := 6) (q0 := 0) rfl rfl, fun U hU hW => ⟨rfl, by rw [hU]; exact hPs.mid, va_K.moved hW.alike (hK.sub [2, 3, 4] rfl)⟩⟩ rfl rfl hl.1 rfl (lv_room (Nat.le_of_ble_eq_true rfl)) dL_law_476 ⟨(by show _ ≤ 600000; omega), (by show _ ≤ 7302250; omega)⟩) ?_
      refine W.eq (g2 := F0 m 479 ls [.int r, .int r]) rfl ?_
      refine lv_icmp_eq (tgt := 553) hx hb dL_law_479 (by decide) (fun _ => ?_) (fun cx => absurd rfl cx)
      exact fin _ _ _ _ _ _ _ ca _ _ _ _ hRel2 (by omega) (by omega) hP hD hS
    by_cases c32 : op = (12 : Int32)
    · refine lv_tableIn (tgt := 484) hx hb dL_law_32 (by rw [c32]; decide) (by rw [c32]; decide) (by rw [c32]; rfl) (by decide) ?_
      obtain ⟨r, ⟨nC2, ck2, J2, E2, L2⟩, ⟨I2, A2⟩, hc, hm, hRel2⟩ := h12 (nC, ck, J, E, Lg) (I, A)  hRel
      refine lv_aload_n hx hb dL_law_484 rfl (lv_at hl 1 rfl) ?_
      obtain ⟨⟨r1, J1, E1, L1⟩, hc1, hc2⟩ := of_bind_some hc
      cases hc2
      have hPs : va_P (dC, dI) vwCl ([] ++ (wC cI cC G ca nC ck J E Lg ++ wM cI2 cB cJ Q BM I A)) H := hP
      have hDs : va_D (fun q : Nat => s.heap.size ≤ q) ([] ++ (wC cI cC G ca nC ck J E Lg ++ wM cI2 cB cJ Q BM I A)) := hD
      have hF := va_freeMid hDs hS hA
      refine va_calli (va_runV (As := []) (rest := []) ⟨hx, hb, hml, hown, hts⟩ (mX8_rest l en dC dI cI cC G ca nC ck J E Lg  H.size _ hc1) (cwV 0 hts gW_X8_rest rfl rfl rfl (by decide +kernel) ⟨Nat.le_of_ble_eq_true rfl, Nat.le_of_ble_eq_true rfl⟩) ⟨blindWE, va_recv hK hP.left (ci := 5) (q0 := 0) rfl rfl, fun U hU hW => ⟨rfl, by rw [hU], by rw [hU]; exact hP.left, va_K.moved hW.alike (hK.sub [0, 1] rfl), hD.left.weaken (fun _ _ _ _ => trivial), cE_sub hE hS hW hU hF⟩⟩ rfl rfl hl.1 rfl (lv_room (Nat.le_of_ble_eq_true rfl)) dL_law_485 ⟨(by show _ ≤ 600000; omega), (by show _ ≤ 7302250; omega)⟩) hS (fun q _ h => hF q h) hF (fun r0 u t H locs ht hvm hw hB hz1 hk1 hS => ?_)
      cases hw
      obtain ⟨hP1, hK9, hD1⟩ := hB
      rw [ht] at hP1
      obtain ⟨hP, hD⟩ := va_joinMid hPs hDs hk1 hF hP1 hD1
      have hP : va_P (dC, dI) vwCl (wC cI cC G ca nC ck J2 E2 L2 ++ wM cI2 cB cJ Q BM I A) H := hP
      have hD : va_D (fun q : Nat => s.heap.size ≤ q) (wC cI cC G ca nC ck J2 E2 L2 ++ wM cI2 cB cJ Q BM I A) := hD
      clear hPs hDs hP1 hD1 hk1 hF
      refine lv_aload_n hx hb dL_law_488 rfl (lv_at hl 2 rfl) ?_
      have hPs : va_P (dC, dI) vwCl (wC cI cC G ca nC ck J2 E2 L2 ++ (wM cI2 cB cJ Q BM I A ++ [])) H := hP
      have hDs : va_D (fun q : Nat => s.heap.size ≤ q) (wC cI cC G ca nC ck J2 E2 L2 ++ (wM cI2 cB cJ Q BM I A ++ [])) := hD
      have hF := va_freeMid hDs hS hA
      refine va_calli (va_runV (As := []) (rest := [.int r]) ⟨hx, hb, hml, hown, hts⟩ (mX9_rest_ l dC dI cI2 cB cJ Q BM I A  H.size _ hm) (cwV 0 hts gW_X9_rest_ rfl rfl rfl (by decide +kernel) ⟨Nat.le_of_ble_eq_true rfl, Nat.le_of_ble_eq_true rfl⟩) ⟨blindW, va_recv hK hPs.mid (ci := 6) (q0 := 0) rfl rfl, fun U hU hW => ⟨rfl, by rw [hU], by rw [hU]; exact hPs.mid, va_K.moved hW.alike (hK.sub [2, 3, 4] rfl), hDs.mid.weaken (fun _ _ _ _ => trivial)⟩⟩ rfl rfl hl.1 rfl (lv_room (Nat.le_of_ble_eq_true rfl)) dL_law_489 ⟨(by show _ ≤ 600000; omega), (by show _ ≤ 7302250; omega)⟩) hS (fun q _ h => hF q h) hF (fun r0 u t H locs ht hvm hw hB hz1 hk1 hS => ?_)
      cases hw
      obtain ⟨hP1, hK9, hD1⟩ := hB
      rw [ht] at hP1
      obtain ⟨hP, hD⟩ := va_joinMid hPs hDs hk1 hF hP1 hD1
      have hP : va_P (dC, dI) vwCl (wC cI cC G ca nC ck J2 E2 L2 ++ wM cI2 cB cJ Q BM I2 A2) H := hP
      have hD : va_D (fun q : Nat => s.heap.size ≤ q) (wC cI cC G ca nC ck J2 E2 L2 ++ wM cI2 cB cJ Q BM I2 A2) := hD
      refine lv_icmp_eq (tgt := 553) hx hb dL_law_492 (by decide) (fun _ => ?_) (fun cx => absurd rfl cx)
      exact fin _ _ _ _ _ _ _ ca _ _ _ _ hRel2 (by omega) (by omega) hP hD hS
    by_cases c33 : op = (13 : Int32)
    · refine lv_tableIn (tgt := 497) hx hb dL_law_32 (by rw [c33]; decide) (by rw [c33]; decide) (by rw [c33]; rfl) (by decide) ?_
      obtain ⟨r, ⟨nC2, ck2, J2, E2, L2⟩, ⟨I2, A2⟩, hc, hm, hRel2⟩ := h13 (nC, ck, J, E, Lg) (I, A) (xs (x3 + 1).toNatClampNeg) (xs (x3 + 2).toNatClampNeg) hRel
      refine lv_aload_n hx hb dL_law_497 rfl (lv_at hl 1 rfl) ?_
      refine lv_aload_n hx hb dL_law_498 rfl (lv_at hl 0 rfl) ?_
      refine lv_iload_n hx hb dL_law_499 rfl (lv_at hl 3 rfl) ?_
      refine lv_iconst (v := (1 : Int32)) hx hb dL_law_500 (by decide) ?_
      refine lv_iadd hx hb dL_law_501 ?_
      refine va_sld hx hb hX hbl hbA hS g1 dL_law_502 ?_
      refine lv_aload_n hx hb dL_law_503 rfl (lv_at hl 0 rfl) ?_
      refine lv_iload_n hx hb dL_law_504 rfl (lv_at hl 3 rfl) ?_
      refine lv_iconst (v := (2 : Int32)) hx hb dL_law_505 (by decide) ?_
      refine lv_iadd hx hb dL_law_506 ?_
      refine va_sld hx hb hX hbl hbA hS g2 dL_law_507 ?_
      obtain ⟨⟨r1, J1, E1, L1⟩, hc1, hc2⟩ := of_bind_some hc
      cases hc2
      have hPs : va_P (dC, dI) vwCl ([] ++ (wC cI cC G ca nC ck J E Lg ++ wM cI2 cB cJ Q BM I A)) H := hP
      have hDs : va_D (fun q : Nat => s.heap.size ≤ q) ([] ++ (wC cI cC G ca nC ck J E Lg ++ wM cI2 cB cJ Q BM I A)) := hD
      have hF := va_freeMid hDs hS hA
      refine va_calli (va_runV (As := [.int (xs (x3 + 1).toNatClampNeg), .int (xs (x3 + 2).toNatClampNeg)]) (rest := []) ⟨hx, hb, hml, hown, hts⟩ (mX8_figure l en dC dI cI cC G ca nC ck J E Lg (xs (x3 + 1).toNatClampNeg) (xs (x3 + 2).toNatClampNeg) H.size _ hc1) (cwV 2 hts gW_X8_figure rfl rfl rfl (by decide +kernel) ⟨Nat.le_of_ble_eq_true rfl, Nat.le_of_ble_eq_true rfl⟩) ⟨blindWE, va_recv hK hP.left (ci := 5) (q0 := 0) rfl rfl, fun U hU hW => ⟨rfl, by rw [hU], by rw [hU]; exact hP.left, va_K.moved hW.alike (hK.sub [0, 1] rfl), hD.left.weaken (fun _ _ _ _ => trivial), cE_sub hE hS hW hU hF⟩⟩ rfl rfl hl.1 rfl (lv_room (Nat.le_of_ble_eq_true rfl)) dL_law_508 ⟨(by show _ ≤ 600000; omega), (by show _ ≤ 7302250; omega)⟩) hS (fun q _ h => hF q h) hF (fun r0 u t H locs ht hvm hw hB hz1 hk1 hS => ?_)
      cases hw
      obtain ⟨hP1, hK9, hD1⟩ := hB
      rw [ht] at hP1
      obtain ⟨hP, hD⟩ := va_joinMid hPs hDs hk1 hF hP1 hD1
      have hP : va_P (dC, dI) vwCl (wC cI cC G ca nC ck J2 E2 L2 ++ wM cI2 cB cJ Q BM I A) H := hP
      have hD : va_D (fun q : Nat => s.heap.size ≤ q) (wC cI cC G ca nC ck J2 E2 L2 ++ wM cI2 cB cJ Q BM I A) := hD
      clear hPs hDs hP1 hD1 hk1 hF
      refine lv_aload_n hx hb dL_law_511 rfl (lv_at hl 2 rfl) ?_
      refine lv_aload_n hx hb dL_law_512 rfl (lv_at hl 0 rfl) ?_
      refine lv_iload_n hx hb dL_law_513 rfl (lv_at hl 3 rfl) ?_
      refine lv_iconst (v := (1 : Int32)) hx hb dL_law_514 (by decide) ?_
      refine lv_iadd hx hb dL_law_515 ?_
      refine va_sld hx hb hX hbl hbA hS g1 dL_law_516 ?_
      refine lv_aload_n hx hb dL_law_517 rfl (lv_at hl 0 rfl) ?_
      refine lv_iload_n hx hb dL_law_518 rfl (lv_at hl 3 rfl) ?_
      refine lv_iconst (v := (2 : Int32)) hx hb dL_law_519 (by decide) ?_
      refine lv_iadd hx hb dL_law_520 ?_
      refine va_sld hx hb hX hbl hbA hS g2 dL_law_521 ?_
      have hPs : va_P (dC, dI) vwCl (wC cI cC G ca nC ck J2 E2 L2 ++ (wM cI2 cB cJ Q BM I A ++ [])) H := hP
      have hDs : va_D (fun q : Nat => s.heap.size ≤ q) (wC cI cC G ca nC ck J2 E2 L2 ++ (wM cI2 cB cJ Q BM I A ++ [])) := hD
      have hF := va_freeMid hDs hS hA
      refine va_calli (va_runV (As := [.int (xs (x3 + 1).toNatClampNeg), .int (xs (x3 + 2).toNatClampNeg)]) (rest := [.int r]) ⟨hx, hb, hml, hown, hts⟩ (mX9_figure l dC dI cI2 cB cJ Q BM I A (xs (x3 + 1).toNatClampNeg) (xs (x3 + 2).toNatClampNeg) H.size _ hm) (cwV 2 hts gW_X9_figure rfl rfl rfl (by decide +kernel) ⟨Nat.le_of_ble_eq_true rfl, Nat.le_of_ble_eq_true rfl⟩) ⟨blindW, va_recv hK hPs.mid (ci := 6) (q0 := 0) rfl rfl, fun U hU hW => ⟨rfl, by rw [hU], by rw [hU]; exact hPs.mid, va_K.moved hW.alike (hK.sub [2, 3, 4] rfl), hDs.mid.weaken (fun _ _ _ _ => trivial)⟩⟩ rfl rfl hl.1 rfl (lv_room (Nat.le_of_ble_eq_true rfl)) dL_law_522 ⟨(by show _ ≤ 600000; omega), (by show _ ≤ 7302250; omega)⟩) hS (fun q _ h => hF q h) hF (fun r0 u t H locs ht hvm hw hB hz1 hk1 hS => ?_)
      cases hw
      obtain ⟨hP1, hK9, hD1⟩ := hB
      rw [ht] at hP1
      obtain ⟨hP, hD⟩ := va_joinMid hPs hDs hk1 hF hP1 hD1
      have hP : va_P (dC, dI) vwCl (wC cI cC G ca nC ck J2 E2 L2 ++ wM cI2 cB cJ Q BM I2 A2) H := hP
      have hD : va_D (fun q : Nat => s.heap.size ≤ q) (wC cI cC G ca nC ck J2 E2 L2 ++ wM cI2 cB cJ Q BM I2 A2) := hD
      refine lv_icmp_eq (tgt := 553) hx hb dL_law_525 (by decide) (fun _ => ?_) (fun cx => absurd rfl cx)
      exact fin _ _ _ _ _ _ _ ca _ _ _ _ hRel2 (by omega) (by omega) hP hD hS
    by_cases c34 : op = (14 : Int32)
    · refine lv_tableIn (tgt := 530) hx hb dL_law_32 (by rw [c34]; decide) (by rw [c34]; decide) (by rw [c34]; rfl) (by decide) ?_
      obtain ⟨r, ⟨nC2, ck2, J2, E2, L2⟩, ⟨I2, A2⟩, hc, hm, hRel2⟩ := h14 (nC, ck, J, E, Lg) (I, A) (xs (x3 + 1).toNatClampNeg) hRel
      refine lv_aload_n hx hb dL_law_530 rfl (lv_at hl 1 rfl) ?_
      refine lv_aload_n hx hb dL_law_531 rfl (lv_at hl 0 rfl) ?_
      refine lv_iload_n hx hb dL_law_532 rfl (lv_at hl 3 rfl) ?_
      refine lv_iconst (v := (1 : Int32)) hx hb dL_law_533 (by decide) ?_
      refine lv_iadd hx hb dL_law_534 ?_
      refine va_sld hx hb hX hbl hbA hS g1 dL_law_535 ?_
      obtain ⟨r1, hc1, hc2⟩ := of_bind_some hc
      cases hc2
      refine W.callR (r := r) (W.runV (As := [.int (xs (x3 + 1).toNatClampNeg)]) (rest := []) ⟨hx, hb, hml, hown, hts⟩ (mX8_count l en dC dI cI cC G ca nC ck J E Lg (xs (x3 + 1).toNatClampNeg) r hc1) (cwV 1 hts gW_X8_count rfl rfl rfl (by decide +kernel) ⟨Nat.le_of_ble_eq_true rfl, Nat.le_of_ble_eq_true rfl⟩) ⟨blindRE, va_recv hK hP.left (ci := 5) (q0 := 0) rfl rfl, fun U hU hW => ⟨rfl, by rw [hU]; exact hP.left, va_K.moved hW.alike (hK.sub [0, 1] rfl), cE_read hE hS hW hU⟩⟩ rfl rfl hl.1 rfl (lv_room (Nat.le_of_ble_eq_true rfl)) dL_law_536 ⟨(by show _ ≤ 600000; omega), (by show _ ≤ 7302250; omega)⟩) ?_
      refine W.eq (g2 := F0 m 539 ls [.int r]) rfl ?_
      refine lv_aload_n hx hb dL_law_539 rfl (lv_at hl 2 rfl) ?_
      refine lv_aload_n hx hb dL_law_540 rfl (lv_at hl 0 rfl) ?_
      refine lv_iload_n hx hb dL_law_541 rfl (lv_at hl 3 rfl) ?_
      refine lv_iconst (v := (1 : Int32)) hx hb dL_law_542 (by decide) ?_
      refine lv_iadd hx hb dL_law_543 ?_
      refine va_sld hx hb hX hbl hbA hS g1 dL_law_544 ?_
      have hPs : va_P (dC, dI) vwCl (wC cI cC G ca nC ck J E Lg ++ (wM cI2 cB cJ Q BM I A ++ [])) H := hP
      obtain ⟨r2, hm1, hm2⟩ := of_bind_some hm
      cases hm2
      refine W.callR (r := r) (W.runV (As := [.int (xs (x3 + 1).toNatClampNeg)]) (rest := [.int r]) ⟨hx, hb, hml, hown, hts⟩ (mX9_count l dC dI cI2 cB cJ Q BM I A (xs (x3 + 1).toNatClampNeg) r hm1) (cwV 1 hts gW_X9_count rfl rfl rfl (by decide +kernel) ⟨Nat.le_of_ble_eq_true rfl, Nat.le_of_ble_eq_true rfl⟩) ⟨blindR, va_recv hK hPs.mid (ci := 6) (q0 := 0) rfl rfl, fun U hU hW => ⟨rfl, by rw [hU]; exact hPs.mid, va_K.moved hW.alike (hK.sub [2, 3, 4] rfl)⟩⟩ rfl rfl hl.1 rfl (lv_room (Nat.le_of_ble_eq_true rfl)) dL_law_545 ⟨(by show _ ≤ 600000; omega), (by show _ ≤ 7302250; omega)⟩) ?_
      refine W.eq (g2 := F0 m 548 ls [.int r, .int r]) rfl ?_
      refine lv_icmp_eq (tgt := 553) hx hb dL_law_548 (by decide) (fun _ => ?_) (fun cx => absurd rfl cx)
      exact fin _ _ _ _ _ _ _ ca _ _ _ _ hRel2 (by omega) (by omega) hP hD hS
    refine lv_tableOut (tgt := 553) hx hb dL_law_32 (by have := sw_ne (n := 0) (by decide) c20; have := sw_ne (n := 1) (by decide) c21; have := sw_ne (n := 2) (by decide) c22; have := sw_ne (n := 3) (by decide) c23; have := sw_ne (n := 4) (by decide) c24; have := sw_ne (n := 5) (by decide) c25; have := sw_ne (n := 6) (by decide) c26; have := sw_ne (n := 7) (by decide) c27; have := sw_ne (n := 8) (by decide) c28; have := sw_ne (n := 9) (by decide) c29; have := sw_ne (n := 10) (by decide) c30; have := sw_ne (n := 11) (by decide) c31; have := sw_ne (n := 12) (by decide) c32; have := sw_ne (n := 13) (by decide) c33; have := sw_ne (n := 14) (by decide) c34; omega) (by decide) ?_
    exact fin _ _ _ _ _ _ _ ca _ _ _ _ hRel (by omega) (by omega) hP hD hS
