def pzSk (N : Nat → Nat) (l0 L d k : Nat) : Bool := k == L || (l0.testBit (k % 12) && pzKc N L d (k % 12) == k)
def pzMl (N : Nat → Nat) (l0 L d k : Nat) : List Nat := (List.range' L (k - L)).filter (pzSk N l0 L d)
set_option maxRecDepth 10000 in
theorem pzMl_succ {N : Nat → Nat} {l0 L d k : Nat} (h : L ≤ k) : pzMl N l0 L d (k + 1) = if pzSk N l0 L d k then pzMl N l0 L d k ++ [k] else pzMl N l0 L d k := by
  unfold pzMl
  rw [show k + 1 - L = (k - L) + 1 by omega, List.range'_1_concat, List.filter_append, show L + (k - L) = k by omega]
  by_cases hs : pzSk N l0 L d k = true
  · rw [if_pos hs, List.filter_cons_of_pos hs, List.filter_nil]
  · rw [if_neg hs, List.filter_cons_of_neg hs, List.filter_nil, List.append_nil]
set_option maxRecDepth 10000 in
theorem pzMl_mem {N : Nat → Nat} {l0 L d k x : Nat} (h : x ∈ pzMl N l0 L d k) : L ≤ x ∧ x < k ∧ pzSk N l0 L d x = true := by
  unfold pzMl at h
  rw [List.mem_filter, List.mem_range'_1] at h
  exact ⟨h.1.1, by omega, h.2⟩
set_option maxRecDepth 10000 in
theorem pzMl_head {N : Nat → Nat} {l0 L d k : Nat} (h : L < k) : ∃ r, pzMl N l0 L d k = L :: r := by
  unfold pzMl
  obtain ⟨m, hm⟩ : ∃ m, k - L = m + 1 := ⟨k - L - 1, by omega⟩
  rw [hm, List.range'_succ, List.filter_cons_of_pos (by unfold pzSk; simp)]
  exact ⟨_, rfl⟩
set_option maxRecDepth 10000 in
theorem pzSq_getD_app (f : Nat → Nat) (l : List Nat) (x : Nat) : pzSq (fun j => f ((l ++ [x]).getD j 0)) (l.length + 1) = pzSq (fun j => f (l.getD j 0)) l.length + f x := by
  show pzSq (fun j => f ((l ++ [x]).getD j 0)) l.length + f ((l ++ [x]).getD l.length 0) = _
  rw [pz_getD_app, if_neg (by omega), if_pos rfl]
  congr 1
  apply pzSq_congr
  intro p hp
  rw [pz_getD_app, if_pos hp]
/-- taking a pitch off a set -/
def pzOff (left p : Nat) : Nat := left &&& ((1 <<< p) ^^^ 4294967295)
set_option maxRecDepth 10000 in
theorem pz_off {left p : Nat} (hl : left < 4096) (hp : p < 12) : pzN left &&& ((1 <<< (pzN p &&& 31)) ^^^ (-1)) = pzN (pzOff left p) ∧ pzOff left p < 4096 ∧ ∀ q, q < 12 → ((pzOff left p).testBit q = true ↔ left.testBit q = true ∧ q ≠ p) := by
  refine ⟨?_, Nat.lt_of_le_of_lt Nat.and_le_left hl, fun q hq => ?_⟩
  · rw [show (1 : Int32) = pzN 1 from rfl, pzN_shl 1 (by omega), show (-(pzN 1) : Int32) = pzN 4294967295 from rfl, pzN_xor, pzN_and]
    rfl
  · unfold pzOff
    have h32 : ∀ i, i < 12 → (4294967295 : Nat).testBit i = true := by decide +kernel
    rw [Nat.testBit_and, Nat.testBit_xor, h32 q hq, Nat.one_shiftLeft, Nat.testBit_two_pow, Bool.and_eq_true]
    by_cases e : p = q
    · subst e; simp
    · simp [e, Ne.symm e]
def pzEc (l0 left p : Nat) : Nat := if l0.testBit p = true ∧ ¬ left.testBit p = true then 1 else 0
/-- the reference while it makes the keys: k is looked at next -/
def pzIv (N : Nat → Nat) (l0 L d : Nat) (I : Nat → Int32) (A : Nat → Nat → Int32) (left k : Nat) : Prop :=
  I 35 = pzN (pzMl N l0 L d k).length ∧ (∀ j, j < (pzMl N l0 L d k).length → A 34 j = pzN ((pzMl N l0 L d k).getD j 0)) ∧ (∀ j, j < 128 → A 33 j = pzN (N j) ∧ N j ≤ 127) ∧ left < 4096 ∧ (∀ p, p < 12 → (left.testBit p = true ↔ l0.testBit p = true ∧ k ≤ pzKc N L d p)) ∧
  pzSq (fun j => N ((pzMl N l0 L d k).getD j 0)) (pzMl N l0 L d k).length = N L + pzSq (pzEx N l0 L d left) 12 ∧ (pzMl N l0 L d k).length = 1 + pzSq (pzEc l0 left) 12
def pzFv (I : Nat → Int32) (A : Nat → Nat → Int32) (I' : Nat → Int32) (A' : Nat → Nat → Int32) : Prop := (∀ j, j ≠ 35 → I' j = I j) ∧ ∀ j, j ≠ 34 → A' j = A j
set_option maxRecDepth 10000 in
theorem pzFv_trans {I A I' A' I'' A''} (h : pzFv I A I' A') (g : pzFv I' A' I'' A'') : pzFv I A I'' A'' := ⟨fun j hj => (g.1 j hj).trans (h.1 j hj), fun j hj => (g.2 j hj).trans (h.2 j hj)⟩
def pzFk (N : Nat → Nat) (l0 low high L d : Nat) : List Nat := (List.range' low (high + 1 - low)).filter (pzSk N l0 L d)
set_option maxRecDepth 10000 in
theorem pzFk_end {N : Nat → Nat} {l0 bass low high L d k : Nat} (hB : pzBest N l0 bass low high L d) (hk : L < k) (hkh : k ≤ high + 1) (hno : ∀ p, p < 12 → l0.testBit p = true → pzKc N L d p < k) : pzMl N l0 L d k = pzFk N l0 low high L d := by
  obtain ⟨b1, b2, b3, b4, b5⟩ := hB
  unfold pzFk pzMl
  have e1 : List.range' low (high + 1 - low) = List.range' low (L - low) ++ (List.range' L (k - L) ++ List.range' k (high + 1 - k)) := by
    have h2 : List.range' L (k - L) ++ List.range' (L + (k - L)) (high + 1 - k) = List.range' L ((k - L) + (high + 1 - k)) := List.range'_append_1
    have h1 : List.range' low (L - low) ++ List.range' (low + (L - low)) (high + 1 - L) = List.range' low ((L - low) + (high + 1 - L)) := List.range'_append_1
    rw [show L + (k - L) = k by omega] at h2
    rw [show low + (L - low) = L by omega] at h1
    rw [h2, show (k - L) + (high + 1 - k) = high + 1 - L by omega, h1]
    congr 1
    omega
  have f1 : (List.range' low (L - low)).filter (pzSk N l0 L d) = [] := by
    rw [List.filter_eq_nil_iff]
    intro x hx
    rw [List.mem_range'_1] at hx
    unfold pzSk
    rw [Bool.or_eq_true, Bool.and_eq_true]
    rintro (q | ⟨q1, q2⟩)
    · have : x = L := by simpa using q
      omega
    · have q2 : pzKc N L d (x % 12) = x := by simpa using q2
      have := (pzKc_spec b4 (Nat.mod_lt x (by omega)) q1).2.1
      omega
  have f3 : (List.range' k (high + 1 - k)).filter (pzSk N l0 L d) = [] := by
    rw [List.filter_eq_nil_iff]
    intro x hx
    rw [List.mem_range'_1] at hx
    unfold pzSk
    rw [Bool.or_eq_true, Bool.and_eq_true]
    rintro (q | ⟨q1, q2⟩)
    · have : x = L := by simpa using q
      omega
    · have q2 : pzKc N L d (x % 12) = x := by simpa using q2
      have := hno _ (Nat.mod_lt x (by omega)) q1
      omega
  rw [e1, List.filter_append, List.filter_append, f1, f3, List.nil_append, List.append_nil]
set_option maxRecDepth 10000 in
theorem pz_left0 {left : Nat} (h : left < 4096) (hz : ∀ p, p < 12 → ¬ left.testBit p = true) : left = 0 := by
  apply Nat.eq_of_testBit_eq
  intro j
  rw [Nat.zero_testBit]
  by_cases hj : j < 12
  · simpa using hz j hj
  · have hp : 2 ^ 12 ≤ 2 ^ j := Nat.pow_le_pow_right (by omega) (by omega)
    exact Nat.testBit_lt_two_pow (Nat.lt_of_lt_of_le h hp)
set_option maxRecDepth 10000 in
/-- the next key is no one's -/
theorem pzIv_skip {N : Nat → Nat} {l0 bass low high L d : Nat} {I : Nat → Int32} {A : Nat → Nat → Int32} {left k : Nat} (hB : pzBest N l0 bass low high L d) (h : pzIv N l0 L d I A left k) (hL : L < k) (hs : pzSk N l0 L d k = false) : pzIv N l0 L d I A left (k + 1) := by
  obtain ⟨h1, h2, h3, h4, h5, h6, h7⟩ := h
  have e : pzMl N l0 L d (k + 1) = pzMl N l0 L d k := by rw [pzMl_succ (by omega), hs]; rfl
  unfold pzIv
  rw [e]
  refine ⟨h1, h2, h3, h4, fun p hp => ?_, h6, h7⟩
  rw [h5 p hp]
  constructor
  · rintro ⟨q1, q2⟩
    refine ⟨q1, ?_⟩
    have hne : pzKc N L d p ≠ k := by
      intro q
      have hm := (pzKc_spec hB.2.2.2.1 hp q1).2.2.2.1
      unfold pzSk at hs
      rw [Bool.or_eq_false_iff] at hs
      have : k % 12 = p := by rw [← q]; exact hm
      rw [this, q1, q] at hs
      simp at hs
    omega
  · rintro ⟨q1, q2⟩
    exact ⟨q1, by omega⟩
set_option maxRecDepth 10000 in
theorem pz_make {N : Nat → Nat} {l0 bass low high L d : Nat} (hB : pzBest N l0 bass low high L d) (hbass : l0.testBit bass = false) (hb12 : bass < 12) (hl0 : l0 < 4096) (hh : high < 128) :
    ∀ e k f g (I : Nat → Int32) (A : Nat → Nat → Int32) left, L + d + 1 - k = e → e + 1 < f → e < g → L < k → pzIv N l0 L d I A left k → left ≠ 0 →
    ∃ I' A', fX9_voice_223 BM (fX9_voice_200 BM g) f I A (pzN high) (pzN left) (pzN (pzCo N l0 L d)) (pzN k) 0 = fX9_voice_353 BM FU (upd I' 12 (pzN (pzFk N l0 low high L d).length)) A' 0 ∧ I' 35 = pzN (pzFk N l0 low high L d).length ∧ (∀ j, j < (pzFk N l0 low high L d).length → A' 34 j = pzN ((pzFk N l0 low high L d).getD j 0)) ∧ pzFv I A I' A' := by
  intro e
  induction e with
  | zero =>
    intro k f g I A left he hf hg hL hI hne
    exfalso
    apply hne
    apply pz_left0 hI.2.2.2.1
    intro p hp hb
    obtain ⟨q1, q2⟩ := (hI.2.2.2.2.1 p hp).mp hb
    have := (pzKc_spec hB.2.2.2.1 hp q1).2.2.1
    omega
  | succ e ih =>
    intro k f g I A left he hf hg hL hI hne
    obtain ⟨h1, h2, h3, h4, h5, h6, h7⟩ := id hI
    obtain ⟨b1, b2, b3, b4, b5⟩ := id hB
    have hkh : k ≤ L + d := by omega
    have hp12 : k % 12 < 12 := Nat.mod_lt _ (by omega)
    have hcb : pzCo N l0 L d ≤ 2000 := by
      have := pz_vaB (fun j hj => (h3 j hj).2) (left := l0) (a := L) (d := d) (by omega)
      have := (h3 L (by omega)).2
      unfold pzCo; omega
    cases f with
    | zero => omega
    | succ f =>
      show ∃ I' A', fX9_voice_223B BM (fX9_voice_200 BM g) (fX9_voice_223 BM (fX9_voice_200 BM g) f) I A (pzN high) (pzN left) (pzN (pzCo N l0 L d)) (pzN k) 0 = _ ∧ _
      unfold fX9_voice_223B
      rw [if_pos rfl, show (12 : Int32) = pzN 12 from rfl, pzN_jrem (by omega) (by omega), pz_bit (by omega) (by omega), pzN_suc]
      by_cases hb : left.testBit (k % 12) = true
      · rw [if_pos hb, if_pos rfl, h1]
        obtain ⟨q1, q2⟩ := (h5 _ hp12).mp hb
        obtain ⟨o1, o2, o3⟩ := pz_off h4 hp12
        -- there is room
        have room : (pzMl N l0 L d k).length < 12 := by
          have hne2 : k % 12 ≠ bass := fun q => by rw [q, hbass] at q1; cases q1
          have hpt : ∀ p, p < 12 → (pzEc l0 left p + (if p = bass then 1 else 0)) + (if p = k % 12 then 1 else 0) ≤ 1 := by
            intro p hp
            unfold pzEc
            by_cases x1 : p = bass
            · subst x1
              rw [if_neg (fun q => by rw [hbass] at q; cases q.1), if_pos rfl, if_neg (fun q => hne2 q.symm)]; omega
            · by_cases x2 : p = k % 12
              · rw [if_neg (fun q => q.2 (by rw [x2]; exact hb)), if_neg x1, if_pos x2]; omega
              · rw [if_neg x1, if_neg x2]
                split <;> omega
          have hs := pzSq_bound 12 hpt
          rw [pzSq_add (fun p => pzEc l0 left p + (if p = bass then 1 else 0)) (fun p => if p = k % 12 then 1 else 0) 12, pzSq_add (pzEc l0 left) (fun p => if p = bass then 1 else 0) 12, pzSq_single, pzSq_single, if_pos hb12, if_pos hp12] at hs
          omega
        rw [pz_gd2 (by omega) (by omega), pzN_clamp (by omega), pzN_suc, o1]
        generalize hA1 : va_up A 34 (upd (A 34) (pzMl N l0 L d k).length (pzN k)) = A1
        generalize hI1 : upd I 35 (pzN ((pzMl N l0 L d k).length + 1)) = I1
        have a33 : A1 33 = A 33 := by rw [← hA1, pz_va_ne _ _ (by decide)]
        have i35 : I1 35 = pzN ((pzMl N l0 L d k).length + 1) := by rw [← hI1, pz_upd_eq]
        have a34 : ∀ j, j < (pzMl N l0 L d k).length + 1 → A1 34 j = pzN ((pzMl N l0 L d k ++ [k]).getD j 0) := by
          intro j hj
          rw [← hA1, pz_va_eq, pz_getD_app]
          by_cases ej : j = (pzMl N l0 L d k).length
          · rw [ej, pz_upd_eq, if_neg (by omega), if_pos rfl]
          · rw [pz_upd_ne _ _ ej, if_pos (by omega), h2 j (by omega)]
        have hmem : ∀ j, j < (pzMl N l0 L d k).length + 1 → (pzMl N l0 L d k ++ [k]).getD j 0 < 128 := by
          intro j hj
          rw [pz_getD_app]
          by_cases ej : j < (pzMl N l0 L d k).length
          · rw [if_pos ej]
            have := pzMl_mem (pz_mem.mpr ⟨j, ej, rfl⟩)
            omega
          · rw [if_neg ej, if_pos (by omega)]; omega
        obtain ⟨rr, hrr⟩ := pzMl_head (N := N) (l0 := l0) (d := d) hL
        have len1 : 1 ≤ (pzMl N l0 L d k).length := by rw [hrr]; simp
        have md0 : (pzMl N l0 L d k ++ [k]).getD 0 0 = L := by rw [hrr]; rfl
        have mdl : (pzMl N l0 L d k ++ [k]).getD ((pzMl N l0 L d k).length + 1 - 1) 0 = k := by
          rw [pz_getD_app, if_neg (by omega), if_pos (by omega)]
        have hrest := pz_rest (I := I1) (A := A1) (N := N) (by rw [a33]; exact h3) (md := fun j => (pzMl N l0 L d k ++ [k]).getD j 0) (cnt := (pzMl N l0 L d k).length + 1) (by omega) (by omega) i35 (fun j hj => ⟨a34 j hj, hmem j hj⟩) (left := pzOff left (k % 12)) (high := high) o2 hh (by show (pzMl N l0 L d k ++ [k]).getD 0 0 ≤ _; rw [md0, mdl]; omega)
        rw [md0, mdl, pzSq_getD_app N (pzMl N l0 L d k) k] at hrest
        rw [hrest, Option.bind_some]
        obtain ⟨y1, y2⟩ := pz_yes hB hL h5 hb o3 h6 (by omega)
        have FI1 : pzFv I A I1 A1 := ⟨fun j hj => by rw [← hI1, pz_upd_ne _ _ hj], fun j hj => by rw [← hA1, pz_va_ne _ _ hj]⟩
        unfold fX9_voice_291 fX9_voice_308
        by_cases hck : pzKc N L d (k % 12) = k
        · rw [y1 hck, if_pos (show pzO3 (some (pzCo N l0 L d)) = pzN (pzCo N l0 L d) from rfl), if_neg (show ¬ (1 : Int32) = 0 by decide), if_neg (show ¬ (1 : Int32) = 0 by decide), o1, pzN_suc, i35]
          have hsk : pzSk N l0 L d k = true := by
            unfold pzSk
            rw [q1, hck]; simp
          have hml : pzMl N l0 L d (k + 1) = pzMl N l0 L d k ++ [k] := by rw [pzMl_succ (by omega), if_pos hsk]
          have i0 : pzN ((pzMl N l0 L d k).length + 1) - 0 = pzN ((pzMl N l0 L d k).length + 1) := by
            have := pzN_sub (a := (pzMl N l0 L d k).length + 1) (b := 0) (by omega)
            exact this
          rw [i0]
          have hI35 : upd I1 35 (pzN ((pzMl N l0 L d k).length + 1)) = I1 := by
            funext j
            by_cases ej : j = 35
            · subst ej; rw [pz_upd_eq, i35]
            · rw [pz_upd_ne _ _ ej]
          rw [hI35]
          have hIv2 : pzIv N l0 L d I1 A1 (pzOff left (k % 12)) (k + 1) := by
            unfold pzIv
            rw [hml]
            have hadd : ∀ (f : Nat → Nat), pzSq (fun p => if l0.testBit p = true ∧ ¬ (pzOff left (k % 12)).testBit p = true then f p else 0) 12 = pzSq (fun p => if l0.testBit p = true ∧ ¬ left.testBit p = true then f p else 0) 12 + f (k % 12) := by
              intro f
              have e3 : pzSq (fun p => if p = k % 12 then f (k % 12) else 0) 12 = f (k % 12) := by rw [pzSq_single, if_pos hp12]
              rw [← e3, ← pzSq_add]
              apply pzSq_congr
              intro p hp
              by_cases x2 : p = k % 12
              · rw [if_pos ⟨by rw [x2]; exact q1, fun q => ((o3 p hp).mp q).2 x2⟩, if_neg (fun q => q.2 (by rw [x2]; exact hb)), if_pos x2, x2]; omega
              · rw [if_neg x2]
                by_cases x3 : l0.testBit p = true ∧ ¬ left.testBit p = true
                · rw [if_pos x3, if_pos ⟨x3.1, fun q => x3.2 ((o3 p hp).mp q).1⟩]; omega
                · rw [if_neg x3, if_neg (fun q => x3 ⟨q.1, fun z => q.2 ((o3 p hp).mpr ⟨z, x2⟩)⟩)]
            refine ⟨by rw [i35, List.length_append]; rfl, fun j hj => a34 j (by rw [List.length_append] at hj; exact hj), by rw [a33]; exact h3, o2, fun p hp => ?_, ?_, ?_⟩
            · rw [o3 p hp, h5 p hp]
              constructor
              · rintro ⟨⟨z1, z2⟩, z3⟩
                refine ⟨z1, ?_⟩
                have hm := (pzKc_spec b4 hp z1).2.2.2.1
                have : pzKc N L d p ≠ k := fun z => z3 (by rw [← hm, z])
                omega
              · rintro ⟨z1, z2⟩
                refine ⟨⟨z1, by omega⟩, fun z => ?_⟩
                rw [z, hck] at z2
                omega
            · rw [List.length_append, List.length_cons, List.length_nil, pzSq_getD_app N (pzMl N l0 L d k) k, h6]
              have := hadd (fun p => N (pzKc N L d p))
              rw [hck] at this
              show _ = N L + pzSq (fun p => if l0.testBit p = true ∧ ¬ (pzOff left (k % 12)).testBit p = true then N (pzKc N L d p) else 0) 12
              rw [this]
              show N L + pzSq (pzEx N l0 L d left) 12 + N k = N L + (pzSq (pzEx N l0 L d left) 12 + N k)
              omega
            · rw [List.length_append, List.length_cons, List.length_nil, h7]
              have := hadd (fun _ => 1)
              show _ = 1 + pzSq (fun p => if l0.testBit p = true ∧ ¬ (pzOff left (k % 12)).testBit p = true then 1 else 0) 12
              rw [this]
              show 1 + pzSq (pzEc l0 left) 12 + (0 + 1) = 1 + (pzSq (pzEc l0 left) 12 + 1)
              omega
          cases f with
          | zero => omega
          | succ f =>
            cases g with
            | zero => omega
            | succ g =>
              have s1 : fX9_voice_223 BM (fX9_voice_200 BM (g + 1)) (f + 1) I1 A1 (pzN high) (pzN (pzOff left (k % 12))) (pzN (pzCo N l0 L d)) (pzN (k + 1)) 1 = fX9_voice_200 BM (g + 1) I1 A1 (pzN high) (pzN (pzOff left (k % 12))) (pzN (pzCo N l0 L d)) := by
                show fX9_voice_223B BM (fX9_voice_200 BM (g + 1)) (fX9_voice_223 BM (fX9_voice_200 BM (g + 1)) f) I1 A1 (pzN high) (pzN (pzOff left (k % 12))) (pzN (pzCo N l0 L d)) (pzN (k + 1)) 1 = _
                unfold fX9_voice_223B
                rw [if_neg (show ¬ (1 : Int32) = 0 by decide)]
              rw [s1]
              show ∃ I' A', fX9_voice_200B BM (fX9_voice_200 BM g) I1 A1 (pzN high) (pzN (pzOff left (k % 12))) (pzN (pzCo N l0 L d)) = _ ∧ _
              unfold fX9_voice_200B
              by_cases hz : pzOff left (k % 12) = 0
              · rw [if_pos (by rw [hz]; rfl), i35]
                have hend : pzMl N l0 L d (k + 1) = pzFk N l0 low high L d := by
                  apply pzFk_end hB (by omega) (by omega)
                  intro p hp hbp
                  have hn : ¬ (pzOff left (k % 12)).testBit p = true := by rw [hz, Nat.zero_testBit]; decide
                  have : ¬ k + 1 ≤ pzKc N L d p := fun q => hn ((hIv2.2.2.2.2.1 p hp).mpr ⟨hbp, q⟩)
                  omega
                rw [hml] at hend
                have hlen : (pzFk N l0 low high L d).length = (pzMl N l0 L d k).length + 1 := by rw [← hend, List.length_append]; rfl
                refine ⟨I1, A1, by rw [hlen], by rw [hlen]; exact i35, fun j hj => ?_, FI1⟩
                rw [← hend]
                rw [hlen] at hj
                exact a34 j hj
              · have es : pzN ((pzMl N l0 L d k).length + 1) - 1 = pzN (pzMl N l0 L d k).length := pzN_sub (a := (pzMl N l0 L d k).length + 1) (b := 1) (by omega)
                rw [if_neg (by rw [show (0 : Int32) = pzN 0 from rfl, pzN_inj (by omega) (by omega)]; exact hz), i35, es, pz_gd2 (by omega) (by omega), pzN_clamp (by omega), a34 _ (by omega), pz_getD_app, if_neg (by omega), if_pos rfl, pzN_suc]
                obtain ⟨I', A', w1, w2, w3, w4⟩ := ih (k + 1) FU g I1 A1 (pzOff left (k % 12)) (by omega) (by unfold FU; omega) (by omega) (by omega) hIv2 hz
                exact ⟨I', A', w1, w2, w3, pzFv_trans FI1 w4⟩
        · have hne2 := y2 hck
          have hno : ¬ pzO3 (pzRs N (pzOff left (k % 12)) L (pzSq (fun j => N ((pzMl N l0 L d k).getD j 0)) (pzMl N l0 L d k).length + N k) k (high + 1 - k)) = pzN (pzCo N l0 L d) := by
            intro q
            cases hr : pzRs N (pzOff left (k % 12)) L (pzSq (fun j => N ((pzMl N l0 L d k).getD j 0)) (pzMl N l0 L d k).length + N k) k (high + 1 - k) with
            | none => rw [hr] at q; exact pzN_ne2 (n := pzCo N l0 L d) (by omega) q.symm
            | some v =>
              have hv : v ≤ 20000 := by
                have sp := pzRs_spec N (pzOff left (k % 12)) L (pzSq (fun j => N ((pzMl N l0 L d k).getD j 0)) (pzMl N l0 L d k).length + N k) k (high + 1 - k)
                rw [hr] at sp
                obtain ⟨⟨e2, e3, e4, e5⟩, _⟩ := sp
                have := pz_vaB (fun j hj => (h3 j hj).2) (left := pzOff left (k % 12)) (a := k) (d := e2) (by omega)
                have hq1 : pzSq (fun j => N ((pzMl N l0 L d k).getD j 0)) (pzMl N l0 L d k).length ≤ (pzMl N l0 L d k).length * 127 := pzSq_bound _ (fun j hj => (h3 _ (by have := pzMl_mem (pz_mem.mpr ⟨j, hj, rfl⟩); omega)).2)
                have hq2 : (pzMl N l0 L d k).length * 127 ≤ 12 * 127 := Nat.mul_le_mul_right _ (by omega)
                have := (h3 k (by omega)).2
                omega
              rw [hr] at q hne2
              have : v = pzCo N l0 L d := (pzN_inj (by omega) (by omega)).mp q
              exact hne2 (by rw [this])
          rw [if_neg hno, if_pos rfl, if_pos rfl, pzN_suc, i35]
          have es : pzN ((pzMl N l0 L d k).length + 1) - 1 = pzN (pzMl N l0 L d k).length := pzN_sub (a := (pzMl N l0 L d k).length + 1) (b := 1) (by omega)
          rw [es]
          have hsk : pzSk N l0 L d k = false := by
            unfold pzSk
            rw [Bool.or_eq_false_iff]
            refine ⟨by simp; omega, ?_⟩
            have : (pzKc N L d (k % 12) == k) = false := beq_eq_false_iff_ne.mpr hck
            rw [this, Bool.and_false]
          have hIv1 : pzIv N l0 L d (upd I1 35 (pzN (pzMl N l0 L d k).length)) A1 left k := by
            refine ⟨pz_upd_eq _ _ _, fun j hj => ?_, by rw [a33]; exact h3, h4, h5, h6, h7⟩
            have := a34 j (by omega)
            rw [pz_getD_app, if_pos hj] at this
            exact this
          obtain ⟨I', A', w1, w2, w3, w4⟩ := ih (k + 1) f g _ A1 left (by omega) (by omega) (by omega) (by omega) (pzIv_skip hB hIv1 hL hsk) hne
          exact ⟨I', A', w1, w2, w3, pzFv_trans FI1 (pzFv_trans ⟨fun j hj => pz_upd_ne _ _ hj, fun _ _ => rfl⟩ w4)⟩
      · rw [if_neg hb, if_neg (show ¬ (0 : Int32) = 1 by decide)]
        have hsk : pzSk N l0 L d k = false := by
          unfold pzSk
          rw [Bool.or_eq_false_iff]
          refine ⟨by simp; omega, ?_⟩
          by_cases q1 : l0.testBit (k % 12) = true
          · have : pzKc N L d (k % 12) ≠ k := fun q => hb ((h5 _ hp12).mpr ⟨q1, by omega⟩)
            rw [beq_eq_false_iff_ne.mpr this, Bool.and_false]
          · simp only [Bool.not_eq_true] at q1
            rw [q1, Bool.false_and]
        exact ih (k + 1) f g I A left (by omega) (by omega) (by omega) (by omega) (pzIv_skip hB hI hL hsk) hne
set_option maxRecDepth 10000 in
theorem pz_rest1 {I : Nat → Int32} {A : Nat → Nat → Int32} {N : Nat → Nat} (hN : ∀ k, k < 128 → A 33 k = pzN (N k) ∧ N k ≤ 127) {k l0 high : Nat} (hI : I 35 = pzN 1) (hA : A 34 0 = pzN k) (hk : k < 128) (hl0 : l0 < 4096) (hh : high < 128) :
    fX9_rest BM I A (pzN l0) (pzN high) = some (pzO3 (pzRs N l0 k (N k) k (high + 1 - k))) := by
  have hmd : ∀ j, j < 1 → A 34 j = pzN ((fun _ => k) j) ∧ (fun _ => k) j < 128 := by
    intro j hj
    have : j = 0 := by omega
    subst this
    exact ⟨hA, hk⟩
  have := pz_rest (I := I) (A := A) hN (md := fun _ => k) (cnt := 1) (by omega) (by omega) hI hmd hl0 hh (Nat.le_refl _)
  rw [show pzSq (fun j => N ((fun _ => k) j)) 1 = N k by simp [pzSq]] at this
  exact this
set_option maxRecDepth 10000 in
theorem pz_rk {N : Nat → Nat} (hN : ∀ k, k < 128 → N k ≤ 127) {l0 k high w : Nat} (hh : high < 128) (h : pzRs N l0 k (N k) k (high + 1 - k) = some w) : (∃ d, k + d ≤ high ∧ pzAl N l0 k d 12 = true ∧ w = pzCo N l0 k d) ∧ w ≤ 20000 ∧ ∀ d, k + d ≤ high → pzAl N l0 k d 12 = true → w ≤ pzCo N l0 k d := by
  have sp := pzRs_spec N l0 k (N k) k (high + 1 - k)
  rw [h] at sp
  dsimp only at sp
  obtain ⟨⟨d, d1, d2, d3⟩, s2⟩ := sp
  have hv := pz_vaB hN (left := l0) (a := k) (d := d) (by omega)
  have hk := hN k (by omega)
  have e : ∀ d, N k + (k + d - k) + pzSq (pzVa N l0 k d) 12 = pzCo N l0 k d := by
    intro d; unfold pzCo; rw [show k + d - k = d by omega]
  refine ⟨⟨d, by omega, d2, by rw [d3, e]⟩, by omega, fun d' h1 h2 => ?_⟩
  have := s2 d' (by omega) h2
  rw [e] at this
  exact this
set_option maxRecDepth 10000 in
theorem pz_v109 {I : Nat → Int32} {N : Nat → Nat} {l0 bass low high L d : Nat} (hB : pzBest N l0 bass low high L d) (hl0 : l0 < 4096) (hh : high < 128) (hb12 : bass < 12) (hI : I 35 = pzN 1) :
    ∀ e k f (A : Nat → Nat → Int32) (v7 v8 : Int32), low ≤ k → k + e = high + 1 → e < f → (∀ k, k < 128 → A 33 k = pzN (N k) ∧ N k ≤ 127) → (k ≤ L → v7 = -2 ∨ ∃ w, v7 = pzN w ∧ pzCo N l0 L d < w ∧ w ≤ 20000) → (L < k → v7 = pzN (pzCo N l0 L d) ∧ v8 = pzN L) →
    ∃ A', fX9_voice_109 BM f I A (pzN high) (pzN bass) (pzN l0) v7 v8 (pzN k) = fX9_voice_200 BM FU I A' (pzN high) (pzN l0) (pzN (pzCo N l0 L d)) ∧ A' 34 0 = pzN L ∧ ∀ j, j ≠ 34 → A' j = A j
  | e, k, 0, A, v7, v8, _, _, hf, _, _, _ => by omega
  | 0, k, f + 1, A, v7, v8, hlow, hk, hf, hN, hs1, hs2 => by
    obtain ⟨b1, b2, b3, b4, b5⟩ := id hB
    obtain ⟨s1, s2⟩ := hs2 (by omega)
    have hcb : pzCo N l0 L d ≤ 2000 := by
      have := pz_vaB (fun j hj => (hN j hj).2) (left := l0) (a := L) (d := d) (by omega)
      have := (hN L (by omega)).2
      unfold pzCo; omega
    show ∃ A', fX9_voice_109B BM (fX9_voice_109 BM f) I A (pzN high) (pzN bass) (pzN l0) v7 v8 (pzN k) = _ ∧ _
    unfold fX9_voice_109B
    rw [if_pos (by rw [pzN_lt (by omega) (by omega)]; omega), s1, s2, if_neg (pzN_ne2 (by omega)), if_pos (by decide)]
    exact ⟨_, rfl, by rw [pz_va_eq, show (0 : Int32).toNatClampNeg = 0 from rfl, pz_upd_eq], fun j hj => pz_va_ne _ _ hj⟩
  | e + 1, k, f + 1, A, v7, v8, hlow, hk, hf, hN, hs1, hs2 => by
    obtain ⟨b1, b2, b3, b4, b5⟩ := id hB
    have hcb : pzCo N l0 L d ≤ 2000 := by
      have := pz_vaB (fun j hj => (hN j hj).2) (left := l0) (a := L) (d := d) (by omega)
      have := (hN L (by omega)).2
      unfold pzCo; omega
    show ∃ A', fX9_voice_109B BM (fX9_voice_109 BM f) I A (pzN high) (pzN bass) (pzN l0) v7 v8 (pzN k) = _ ∧ _
    unfold fX9_voice_109B
    rw [if_neg (by rw [pzN_lt (by omega) (by omega)]; omega), if_pos (by decide), show (0 : Int32).toNatClampNeg = 0 from rfl, show (12 : Int32) = pzN 12 from rfl, pzN_jrem (by omega) (by omega)]
    generalize hA1 : va_up A 34 (upd (A 34) 0 (pzN k)) = A1
    have a33 : ∀ k, k < 128 → A1 33 k = pzN (N k) ∧ N k ≤ 127 := by rw [← hA1, pz_va_ne _ _ (by decide)]; exact hN
    have a34 : A1 34 0 = pzN k := by rw [← hA1, pz_va_eq, pz_upd_eq]
    have fr : ∀ j, j ≠ 34 → A1 j = A j := fun j hj => by rw [← hA1, pz_va_ne _ _ hj]
    have ih := fun v7 v8 h1 h2 => pz_v109 (I := I) hB hl0 hh hb12 hI e (k + 1) f A1 v7 v8 (by omega) (by omega) (by omega) a33 h1 h2
    have fin : ∀ v7 v8, (k + 1 ≤ L → v7 = -2 ∨ ∃ w, v7 = pzN w ∧ pzCo N l0 L d < w ∧ w ≤ 20000) → (L < k + 1 → v7 = pzN (pzCo N l0 L d) ∧ v8 = pzN L) → ∃ A', fX9_voice_109 BM f I A1 (pzN high) (pzN bass) (pzN l0) v7 v8 (pzN (k + 1)) = fX9_voice_200 BM FU I A' (pzN high) (pzN l0) (pzN (pzCo N l0 L d)) ∧ A' 34 0 = pzN L ∧ ∀ j, j ≠ 34 → A' j = A j := by
      intro v7 v8 h1 h2
      obtain ⟨A', q1, q2, q3⟩ := ih v7 v8 h1 h2
      exact ⟨A', q1, q2, fun j hj => (q3 j hj).trans (fr j hj)⟩
    unfold fX9_voice_145 fX9_voice_168
    rw [pzN_suc]
    by_cases hm : k % 12 = bass
    · rw [if_pos (by rw [hm]), pz_rest1 a33 hI a34 (by omega) hl0 hh, Option.bind_some]
      cases hr : pzRs N l0 k (N k) k (high + 1 - k) with
      | none =>
        have hkL : k ≠ L := by
          intro q
          subst q
          have sp := pzRs_spec N l0 k (N k) k (high + 1 - k)
          rw [hr] at sp
          have := sp d (by omega)
          rw [b4] at this; cases this
        rw [if_pos (show pzO3 none = -2 from rfl)]
        exact fin v7 v8 (fun q => hs1 (by omega)) (fun q => hs2 (by omega))
      | some w =>
        obtain ⟨⟨d', w1, w2, w3⟩, w4, w5⟩ := pz_rk (fun j hj => (hN j hj).2) hh hr
        have hbb := b5 k d' hm hlow w1 w2
        rw [if_neg (show ¬ pzO3 (some w) = -2 from pzN_ne2 (by omega)), show pzO3 (some w) = pzN w from rfl]
        by_cases hkL : k = L
        · subst hkL
          have hw : w = pzCo N l0 k d := by
            have := w5 d b3 b4
            omega
          rcases hs1 (Nat.le_refl _) with q | ⟨x, x1, x2, x3⟩
          · rw [if_pos q]
            exact fin _ _ (fun q => by omega) (fun _ => ⟨by rw [hw], rfl⟩)
          · rw [x1, if_neg (pzN_ne2 (by omega)), if_neg (by rw [pzN_le (by omega) (by omega)]; omega)]
            exact fin _ _ (fun q => by omega) (fun _ => ⟨by rw [hw], rfl⟩)
        · by_cases hlt : k < L
          · have hgt : pzCo N l0 L d < w := by
              have h1 := hbb.1
              by_cases e : pzCo N l0 L d = pzCo N l0 k d'
              · have := (hbb.2 e).1; omega
              · omega
            rcases hs1 (by omega) with q | ⟨x, x1, x2, x3⟩
            · rw [if_pos q]
              exact fin _ _ (fun _ => Or.inr ⟨w, rfl, hgt, w4⟩) (fun q => by omega)
            · rw [x1, if_neg (pzN_ne2 (by omega))]
              by_cases hc : x ≤ w
              · rw [if_pos (by rw [pzN_le (by omega) (by omega)]; exact hc)]
                exact fin _ _ (fun _ => Or.inr ⟨x, rfl, x2, x3⟩) (fun q => by omega)
              · rw [if_neg (by rw [pzN_le (by omega) (by omega)]; exact hc)]
                exact fin _ _ (fun _ => Or.inr ⟨w, rfl, hgt, w4⟩) (fun q => by omega)
          · obtain ⟨s1, s2⟩ := hs2 (by omega)
            rw [s1, if_neg (pzN_ne2 (by omega)), if_pos (by rw [pzN_le (by omega) (by omega)]; have := hbb.1; omega)]
            exact fin _ _ (fun q => by omega) (fun _ => ⟨rfl, s2⟩)
    · rw [if_neg (by rw [pzN_inj (by omega) (by omega)]; exact hm), if_pos rfl]
      have hkL : k ≠ L := fun q => hm (by rw [q]; exact b1)
      exact fin v7 v8 (fun q => hs1 (by omega)) (fun q => hs2 (by omega))
set_option maxRecDepth 10000 in
theorem pz_v109n {I : Nat → Int32} {N : Nat → Nat} {l0 bass low high : Nat} (hno : ∀ L d, L % 12 = bass → low ≤ L → L + d ≤ high → pzAl N l0 L d 12 = false) (hl0 : l0 < 4096) (hh : high < 128) (hb12 : bass < 12) (hI : I 35 = pzN 1) :
    ∀ e k f (A : Nat → Nat → Int32), low ≤ k → k + e = high + 1 → e < f → (∀ k, k < 128 → A 33 k = pzN (N k) ∧ N k ≤ 127) →
    ∃ A', fX9_voice_109 BM f I A (pzN high) (pzN bass) (pzN l0) (-2) (-2) (pzN k) = some (-2, I, A') ∧ ∀ j, j ≠ 34 → A' j = A j
  | e, k, 0, A, _, _, hf, _ => by omega
  | 0, k, f + 1, A, hlow, hk, hf, hN => by
    show ∃ A', fX9_voice_109B BM (fX9_voice_109 BM f) I A (pzN high) (pzN bass) (pzN l0) (-2) (-2) (pzN k) = _ ∧ _
    unfold fX9_voice_109B
    rw [if_pos (by rw [pzN_lt (by omega) (by omega)]; omega), if_pos rfl]
    exact ⟨A, rfl, fun _ _ => rfl⟩
  | e + 1, k, f + 1, A, hlow, hk, hf, hN => by
    show ∃ A', fX9_voice_109B BM (fX9_voice_109 BM f) I A (pzN high) (pzN bass) (pzN l0) (-2) (-2) (pzN k) = _ ∧ _
    unfold fX9_voice_109B
    rw [if_neg (by rw [pzN_lt (by omega) (by omega)]; omega), if_pos (by decide), show (0 : Int32).toNatClampNeg = 0 from rfl, show (12 : Int32) = pzN 12 from rfl, pzN_jrem (by omega) (by omega)]
    generalize hA1 : va_up A 34 (upd (A 34) 0 (pzN k)) = A1
    have a33 : ∀ k, k < 128 → A1 33 k = pzN (N k) ∧ N k ≤ 127 := by rw [← hA1, pz_va_ne _ _ (by decide)]; exact hN
    have a34 : A1 34 0 = pzN k := by rw [← hA1, pz_va_eq, pz_upd_eq]
    have fr : ∀ j, j ≠ 34 → A1 j = A j := fun j hj => by rw [← hA1, pz_va_ne _ _ hj]
    obtain ⟨A', q1, q2⟩ := pz_v109n (I := I) hno hl0 hh hb12 hI e (k + 1) f A1 (by omega) (by omega) (by omega) a33
    unfold fX9_voice_145
    rw [pzN_suc]
    by_cases hm : k % 12 = bass
    · rw [if_pos (by rw [hm]), pz_rest1 a33 hI a34 (by omega) hl0 hh, Option.bind_some]
      cases hr : pzRs N l0 k (N k) k (high + 1 - k) with
      | none =>
        rw [if_pos (show pzO3 none = -2 from rfl)]
        exact ⟨A', q1, fun j hj => (q2 j hj).trans (fr j hj)⟩
      | some w =>
        obtain ⟨⟨d', w1, w2, w3⟩, _⟩ := pz_rk (fun j hj => (hN j hj).2) hh hr
        have := hno k d' hm hlow w1
        rw [w2] at this; cases this
    · rw [if_neg (by rw [pzN_inj (by omega) (by omega)]; exact hm), if_pos rfl]
      exact ⟨A', q1, fun j hj => (q2 j hj).trans (fr j hj)⟩
set_option maxRecDepth 10000 in
theorem pz_cp353 {I : Nat → Int32} {F : List Nat} (h12 : F.length ≤ 12) (h35 : I 35 = pzN F.length) (hI12 : I 12 = pzN F.length) : ∀ e j f (A : Nat → Nat → Int32), j + e = F.length → e < f → (∀ i, i < F.length → A 34 i = pzN (F.getD i 0)) → (∀ i, i < j → A 11 i = pzN (F.getD i 0)) →
    ∃ A', fX9_voice_353 BM f I A (pzN j) = some (pzN F.length, I, A') ∧ (∀ i, i < F.length → A' 11 i = pzN (F.getD i 0)) ∧ ∀ i, i ≠ 11 → A' i = A i
  | e, j, 0, A, _, hf, _, _ => by omega
  | 0, j, f + 1, A, he, hf, h34, h11 => by
    have : j = F.length := by omega
    subst this
    show ∃ A', fX9_voice_353B BM (fX9_voice_353 BM f) I A (pzN F.length) = _ ∧ _
    unfold fX9_voice_353B
    rw [h35, if_pos ((pzN_le (by omega) (by omega)).mpr (Nat.le_refl _)), hI12]
    exact ⟨A, rfl, h11, fun _ _ => rfl⟩
  | e + 1, j, f + 1, A, he, hf, h34, h11 => by
    show ∃ A', fX9_voice_353B BM (fX9_voice_353 BM f) I A (pzN j) = _ ∧ _
    unfold fX9_voice_353B
    rw [h35, if_neg (by rw [pzN_le (by omega) (by omega)]; omega), pz_gd2 (by omega) (by omega), pz_gd2 (by omega) (by omega), pzN_clamp (by omega), h34 j (by omega), pzN_suc]
    obtain ⟨A', q1, q2, q3⟩ := pz_cp353 h12 h35 hI12 e (j + 1) f (va_up A 11 (upd (A 11) j (pzN (F.getD j 0)))) (by omega) (by omega) (by rw [pz_va_ne _ _ (by decide)]; exact h34) (by
      intro i hi
      rw [pz_va_eq]
      by_cases ei : i = j
      · subst ei; rw [pz_upd_eq]
      · rw [pz_upd_ne _ _ ei, h11 i (by omega)])
    exact ⟨A', q1, q2, fun i hi => (q3 i hi).trans (pz_va_ne _ _ hi)⟩
set_option maxRecDepth 10000 in
theorem pz_nearFill {I : Nat → Int32} {ky : Nat → Nat} {kn : Nat} (h12 : kn ≤ 12) (hI : I 12 = pzN kn) (v2 v3 v5 v6 : Int32) : ∀ e j f (A : Nat → Nat → Int32), j + e = 128 → e < f → (∀ i, i < kn → A 11 i = pzN (ky i) ∧ ky i < 128) → (∀ i, i < j → A 33 i = pzN (pzNr ky kn i)) →
    ∃ A', fX9_voice_66 BM f I A v2 v3 v5 v6 (pzN j) = fX9_voice_109 BM FU (upd I 35 1) A' v3 v5 v6 (-2) (-2) v2 ∧ (∀ i, i < 128 → A' 33 i = pzN (pzNr ky kn i)) ∧ ∀ i, i ≠ 33 → A' i = A i
  | e, j, 0, A, _, hf, _, _ => by omega
  | 0, j, f + 1, A, he, hf, h11, h33 => by
    have : j = 128 := by omega
    subst this
    show ∃ A', fX9_voice_66B BM (fX9_voice_66 BM f) I A v2 v3 v5 v6 (pzN 128) = _ ∧ _
    unfold fX9_voice_66B
    rw [if_pos (by decide)]
    exact ⟨A, rfl, h33, fun _ _ => rfl⟩
  | e + 1, j, f + 1, A, he, hf, h11, h33 => by
    show ∃ A', fX9_voice_66B BM (fX9_voice_66 BM f) I A v2 v3 v5 v6 (pzN j) = _ ∧ _
    unfold fX9_voice_66B
    rw [if_neg (by rw [show (128 : Int32) = pzN 128 from rfl, pzN_le (by omega) (by omega)]; omega), pz_mnear h12 hI h11 (by omega), Option.bind_some, pz_gd2 (by omega) (by omega), pzN_clamp (by omega), pzN_suc]
    obtain ⟨A', q1, q2, q3⟩ := pz_nearFill h12 hI v2 v3 v5 v6 e (j + 1) f (va_up A 33 (upd (A 33) j (pzN (pzNr ky kn j)))) (by omega) (by omega) (by rw [pz_va_ne _ _ (by decide)]; exact h11) (by
      intro i hi
      rw [pz_va_eq]
      by_cases ei : i = j
      · subst ei; rw [pz_upd_eq]
      · rw [pz_upd_ne _ _ ei, h33 i (by omega)])
    exact ⟨A', q1, q2, fun i hi => (q3 i hi).trans (pz_va_ne _ _ hi)⟩
set_option maxRecDepth 10000 in
theorem pzFk_len {N : Nat → Nat} {l0 bass low high L d : Nat} (hB : pzBest N l0 bass low high L d) (hb12 : bass < 12) (hbass : l0.testBit bass = false) : (pzFk N l0 low high L d).length ≤ 12 := by
  obtain ⟨b1, b2, b3, b4, b5⟩ := hB
  have hnd : (pzFk N l0 low high L d).Nodup := by
    unfold pzFk
    exact List.Pairwise.filter _ List.nodup_range'
  -- each key has its own pitch
  have hmap : ((pzFk N l0 low high L d).map (fun x => x % 12)).Nodup := by
    unfold List.Nodup
    rw [List.pairwise_map]
    refine List.Pairwise.imp_of_mem ?_ hnd
    intro x y hx hy hne hq
    apply hne
    have key : ∀ z, z ∈ pzFk N l0 low high L d → z = L ∨ (l0.testBit (z % 12) = true ∧ pzKc N L d (z % 12) = z) := by
      intro z hz
      unfold pzFk at hz
      rw [List.mem_filter] at hz
      have := hz.2
      unfold pzSk at this
      rw [Bool.or_eq_true, Bool.and_eq_true] at this
      rcases this with q | ⟨q1, q2⟩
      · left; simpa using q
      · right; exact ⟨q1, by simpa using q2⟩
    rcases key x hx with x1 | ⟨x1, x2⟩ <;> rcases key y hy with y1 | ⟨y1, y2⟩
    · rw [x1, y1]
    · rw [← hq, x1, b1, hbass] at y1; cases y1
    · rw [hq, y1, b1, hbass] at x1; cases x1
    · rw [← x2, ← y2, hq]
  have := pz_pigeon _ (List.range 12) hmap (fun z hz => by
    rw [List.mem_map] at hz
    obtain ⟨w, _, rfl⟩ := hz
    exact List.mem_range.mpr (Nat.mod_lt _ (by omega)))
  rw [List.length_map, List.length_range] at this
  exact this
set_option maxRecDepth 10000 in
/-- what the reference's voice does -/
theorem pz_mvoice {I : Nat → Int32} {A : Nat → Nat → Int32} {ky : Nat → Nat} {kn l0 bass low high : Nat} (h12 : kn ≤ 12) (hI : I 12 = pzN kn) (hk : ∀ i, i < kn → A 11 i = pzN (ky i) ∧ ky i < 128) (hl0 : l0 < 4096) (hb12 : bass < 12) (hbass : l0.testBit bass = false) (hlh : low ≤ high) (hh : high < 128) :
    (∀ L d, pzBest (pzNr ky kn) l0 bass low high L d → ∃ I' A', fX9_voice_66 BM FU I A (pzN low) (pzN high) (pzN bass) (pzN l0) 0 = some (pzN (pzFk (pzNr ky kn) l0 low high L d).length, I', A') ∧ I' 12 = pzN (pzFk (pzNr ky kn) l0 low high L d).length ∧ (∀ i, i < (pzFk (pzNr ky kn) l0 low high L d).length → A' 11 i = pzN ((pzFk (pzNr ky kn) l0 low high L d).getD i 0)) ∧ (∀ j, j ≠ 12 → j ≠ 35 → I' j = I j) ∧ ∀ j, j ≠ 11 → j ≠ 33 → j ≠ 34 → A' j = A j) ∧
    ((∀ L d, L % 12 = bass → low ≤ L → L + d ≤ high → pzAl (pzNr ky kn) l0 L d 12 = false) → ∃ I' A', fX9_voice_66 BM FU I A (pzN low) (pzN high) (pzN bass) (pzN l0) 0 = some (-2, I', A') ∧ (∀ j, j ≠ 35 → I' j = I j) ∧ ∀ j, j ≠ 33 → j ≠ 34 → A' j = A j) := by
  obtain ⟨A1, g1, g2, g3⟩ := pz_nearFill (I := I) (ky := ky) h12 hI (pzN low) (pzN high) (pzN bass) (pzN l0) 128 0 FU A (by omega) (by unfold FU; omega) hk (fun i hi => by omega)
  have hN : ∀ k, k < 128 → A1 33 k = pzN (pzNr ky kn k) ∧ pzNr ky kn k ≤ 127 := fun k hk => ⟨g2 k hk, pzNr_le ky kn k⟩
  have i35 : (upd I 35 1) 35 = pzN 1 := pz_upd_eq _ _ _
  constructor
  · intro L d hB
    obtain ⟨b1, b2, b3, b4, b5⟩ := id hB
    obtain ⟨A2, q1, q2, q3⟩ := pz_v109 (I := upd I 35 1) hB hl0 hh hb12 i35 (high + 1 - low) low FU A1 (-2) (-2) (Nat.le_refl _) (by omega) (by unfold FU; omega) hN (fun _ => Or.inl rfl) (fun q => by omega)
    have hml : pzMl (pzNr ky kn) l0 L d (L + 1) = [L] := by
      unfold pzMl
      rw [show L + 1 - L = 0 + 1 by omega, List.range'_succ, List.filter_cons_of_pos (by unfold pzSk; simp)]
      rfl
    have hcb : pzCo (pzNr ky kn) l0 L d ≤ 2000 := by
      have := pz_vaB (fun j hj => (hN j hj).2) (left := l0) (a := L) (d := d) (by omega)
      have := (hN L (by omega)).2
      unfold pzCo; omega
    -- the keys are made
    have made : ∃ I3 A3, fX9_voice_200 BM FU (upd I 35 1) A2 (pzN high) (pzN l0) (pzN (pzCo (pzNr ky kn) l0 L d)) = fX9_voice_353 BM FU (upd I3 12 (pzN (pzFk (pzNr ky kn) l0 low high L d).length)) A3 0 ∧ I3 35 = pzN (pzFk (pzNr ky kn) l0 low high L d).length ∧ (∀ j, j < (pzFk (pzNr ky kn) l0 low high L d).length → A3 34 j = pzN ((pzFk (pzNr ky kn) l0 low high L d).getD j 0)) ∧ pzFv (upd I 35 1) A2 I3 A3 := by
      show ∃ I3 A3, fX9_voice_200B BM (fX9_voice_200 BM 3999) (upd I 35 1) A2 (pzN high) (pzN l0) (pzN (pzCo (pzNr ky kn) l0 L d)) = _ ∧ _
      unfold fX9_voice_200B
      rw [i35]
      by_cases hz : l0 = 0
      · rw [if_pos (by rw [hz]; rfl)]
        have hend : pzMl (pzNr ky kn) l0 L d (L + 1) = pzFk (pzNr ky kn) l0 low high L d := by
          apply pzFk_end hB (by omega) (by omega)
          intro p hp hbp
          rw [hz, Nat.zero_testBit] at hbp; cases hbp
        rw [hml] at hend
        rw [← hend]
        refine ⟨upd I 35 1, A2, rfl, i35, fun j hj => ?_, fun _ _ => rfl, fun _ _ => rfl⟩
        have : j = 0 := by simp at hj; omega
        subst this
        exact q2
      · rw [if_neg (by rw [show (0 : Int32) = pzN 0 from rfl, pzN_inj (by omega) (by omega)]; exact hz), show pzN 1 - 1 = pzN 0 from rfl, pz_gd2 (by omega) (by omega), pzN_clamp (by omega), q2, pzN_suc]
        apply pz_make hB hbass hb12 hl0 hh (L + d + 1 - (L + 1)) (L + 1) FU 3999 (upd I 35 1) A2 l0 rfl (by unfold FU; omega) (by omega) (by omega) _ hz
        unfold pzIv
        rw [hml]
        refine ⟨i35, fun j hj => ?_, fun j hj => ?_, hl0, fun p hp => ?_, ?_, ?_⟩
        · have : j = 0 := by simp at hj; omega
          subst this
          exact q2
        · rw [q3 33 (by decide)]; exact hN j hj
        · constructor
          · intro q
            have := (pzKc_spec b4 hp q).2.1
            exact ⟨q, by omega⟩
          · exact fun q => q.1
        · have : pzSq (pzEx (pzNr ky kn) l0 L d l0) 12 = 0 := by
            have h0 : pzSq (pzEx (pzNr ky kn) l0 L d l0) 12 ≤ 12 * 0 := pzSq_bound 12 (fun p hp => by unfold pzEx; rw [if_neg (fun q => q.2 q.1)]; exact Nat.le_refl 0)
            omega
          rw [this]
          show 0 + pzNr ky kn (([L] : List Nat).getD 0 0) = _
          show 0 + pzNr ky kn L = _
          omega
        · have : pzSq (pzEc l0 l0) 12 = 0 := by
            have h0 : pzSq (pzEc l0 l0) 12 ≤ 12 * 0 := pzSq_bound 12 (fun p hp => by unfold pzEc; rw [if_neg (fun q => q.2 q.1)]; exact Nat.le_refl 0)
            omega
          rw [this]; rfl
    obtain ⟨I3, A3, w1, w2, w3, w4⟩ := made
    have hF12 := pzFk_len hB hb12 hbass
    obtain ⟨A4, x1, x2, x3⟩ := pz_cp353 (I := upd I3 12 (pzN (pzFk (pzNr ky kn) l0 low high L d).length)) hF12 (by rw [pz_upd_ne _ _ (by decide)]; exact w2) (pz_upd_eq _ _ _) (pzFk (pzNr ky kn) l0 low high L d).length 0 FU A3 (by omega) (by unfold FU; omega) w3 (fun i hi => by omega)
    refine ⟨_, A4, g1.trans (q1.trans (w1.trans x1)), pz_upd_eq _ _ _, x2, fun j j1 j2 => ?_, fun j j1 j2 j3 => ?_⟩
    · rw [pz_upd_ne _ _ j1, w4.1 j j2, pz_upd_ne _ _ j2]
    · rw [x3 j j1, w4.2 j j3, q3 j j3, g3 j j2]
  · intro hno
    obtain ⟨A2, q1, q2⟩ := pz_v109n (I := upd I 35 1) hno hl0 hh hb12 i35 (high + 1 - low) low FU A1 (Nat.le_refl _) (by omega) (by unfold FU; omega) hN
    exact ⟨_, A2, g1.trans q1, fun j hj => pz_upd_ne _ _ hj, fun j j1 j2 => (q2 j j2).trans (g3 j j1)⟩
