def pzSp (p b : Nat) : Nat := ((fX3_spelt (pzN p) (pzN (pzM b))).getD 0).toNatClampNeg
def pzName (a : Nat → Int32) (k b p : Nat) : Prop :=
  a (5 * k) = pzN (pzSp ((b + p / 20) % 12) (p % 20) / 5) ∧ a (5 * k + 1) = pzSg (pzSp ((b + p / 20) % 12) (p % 20)) ∧ a (5 * k + 2) = pzN (p % 20) ∧ a (5 * k + 3) = (if p < 20 then -2 else pzN (pzSp b 0 / 5)) ∧ a (5 * k + 4) = pzSg (pzSp b 0)
def pzR0 (nC : Nat) (ck : Nat → Nat → Int32) (j5 i6 : Int32) (A : Nat → Nat → Int32) : Prop := nC ≤ 100 ∧ j5 = pzN nC ∧ i6 = pzN nC ∧ ∀ i, i < nC → ∃ t s b z, pzK (ck i) t s b z ∧ pzC A i t s b z
def pzR1 (j1 i1 : Int32) (e a : Nat → Int32) : Prop := ∃ n, n ≤ 40 ∧ j1 = pzN n ∧ i1 = pzN n ∧ ∀ k, k < n → ∃ v, v < 256 ∧ e k = pzN v ∧ a k = (pzN v).toInt8.toInt32
def pzR2 (j2 j3 i10 : Int32) (e a : Nat → Int32) : Prop := ∃ n, n ≤ 240 ∧ j2 = pzN n ∧ i10 = pzN n ∧ (n = 0 ∨ ∃ b, b < 12 ∧ j3 = pzN b ∧ ∀ k, k < n → ∃ p, p < 240 ∧ e k = pzN p ∧ pzName a k b p)
def pzR3 (m : Nat) (j1 i1 : Int32) (e a : Nat → Int32) : Prop := ∃ n, n ≤ m ∧ j1 = pzN n ∧ i1 = pzN n ∧ ∀ k, k < n → a k = e k ∧ ∃ v, v < 128 ∧ a k = pzN v
def pzBs (e : Nat → Int32) : Prop := ∀ b, b < 20 → e b = pzN (pzSet 0 (pzM b) 0)
def pzRel (c : CS) (u : MSt) : Prop :=
  pzR0 c.1 c.2.1 (c.2.2.1 0 5) (u.1 6) u.2 ∧ pzR1 (c.2.2.1 1 1) (u.1 1) (c.2.2.2.1 1 0) (u.2 0) ∧ pzR2 (c.2.2.1 2 2) (c.2.2.1 2 3) (u.1 10) (c.2.2.2.1 2 1) (u.2 9) ∧
  pzR3 12 (c.2.2.1 3 1) (u.1 12) (c.2.2.2.1 3 0) (u.2 11) ∧ pzR3 12 (c.2.2.1 4 1) (u.1 8) (c.2.2.2.1 4 0) (u.2 7) ∧ pzB u.2 ∧ pzBs (c.2.2.2.1 2 0)
set_option maxRecDepth 10000 in
theorem pzC_congr {A A' : Nat → Nat → Int32} {c t s b z : Nat} (h : pzC A c t s b z) (h2 : A' 2 = A 2) (h3 : A' 3 = A 3) (h4 : A' 4 = A 4) (h5 : A' 5 = A 5) : pzC A' c t s b z := by
  unfold pzC pzRow at *
  rw [h2, h3, h4, h5]
  exact h
set_option maxRecDepth 10000 in
theorem pzR0_congr {nC : Nat} {ck : Nat → Nat → Int32} {j5 i6 : Int32} {A A' : Nat → Nat → Int32} (h : pzR0 nC ck j5 i6 A) (h2 : A' 2 = A 2) (h3 : A' 3 = A 3) (h4 : A' 4 = A 4) (h5 : A' 5 = A 5) : pzR0 nC ck j5 i6 A' := by
  obtain ⟨a, b, c, d⟩ := h
  refine ⟨a, b, c, fun i hi => ?_⟩
  obtain ⟨t, s, b, z, hk, hc⟩ := d i hi
  exact ⟨t, s, b, z, hk, pzC_congr hc h2 h3 h4 h5⟩
set_option maxRecDepth 10000 in
theorem pzB_congr {A A' : Nat → Nat → Int32} (h : pzB A) (h3 : A' 13 = A 13) (h4 : A' 14 = A 14) (h5 : A' 15 = A 15) : pzB A' := by
  unfold pzB pzRow at *
  rw [h3, h4, h5]
  exact h
set_option maxRecDepth 10000 in
/-- an index within a count -/
theorem pz_isInM (x : Int32) {n : Nat} (hn : n ≤ 2400) : (∃ i, i < n ∧ x = pzN i ∧ fX9_isIn (pzN i) 0 (pzN n - 1) = 1 ∧ ¬ pzN i < 0 ∧ ¬ pzN n ≤ pzN i) ∨ (fX9_isIn x 0 (pzN n - 1) = 0 ∧ (x < 0 ∨ (¬ x < 0 ∧ pzN n ≤ x))) := by
  by_cases h : x < 0
  · right
    refine ⟨?_, Or.inl h⟩
    unfold fX9_isIn
    rw [if_pos h]
  · have h0 := pz_not_neg h
    obtain ⟨e, hl⟩ := pzN_of h0
    generalize x.toNatClampNeg = i at *
    subst e
    by_cases hx : i < n
    · left
      refine ⟨i, hx, rfl, ?_, h, ?_⟩
      · unfold fX9_isIn
        rw [if_neg h, show (1 : Int32) = pzN 1 from rfl, pzN_sub (by omega), if_neg]
        rw [pzN_lt (by omega) (by omega)]
        omega
      · rw [pzN_le (by omega) (by omega)]; omega
    · right
      refine ⟨?_, Or.inr ⟨h, by rw [pzN_le (by omega) (by omega)]; omega⟩⟩
      unfold fX9_isIn
      rw [if_neg h]
      rw [if_pos]
      by_cases n0 : n = 0
      · subst n0
        have : (pzN 0 - 1 : Int32) < 0 := by decide
        rw [Int32.lt_iff_toInt_lt] at *
        rw [Int32.le_iff_toInt_le] at h0
        omega
      · rw [show (1 : Int32) = pzN 1 from rfl, pzN_sub (by omega), pzN_lt (by omega) (by omega)]
        omega
set_option maxRecDepth 10000 in
theorem pz_hS14 : hS14 pzRel := by
  intro c u x h
  obtain ⟨⟨h0, h1, h2, _⟩, ⟨n1, _, t1, t2, _⟩, ⟨n2, _, f1, f2, _⟩, ⟨n3, _, v1, v2, _⟩, ⟨n4, _, s1, s2, _⟩, _⟩ := id h
  unfold cS14 mS14 fX8_count fX9_count
  rw [h1, h2, t1, t2, f1, f2, v1, v2, s1, s2]
  by_cases a0 : x = 0
  · exact ⟨_, _, _, by rw [if_pos a0]; rfl, by rw [if_pos a0]; rfl, h⟩
  by_cases a1 : x = 1
  · exact ⟨_, _, _, by rw [if_neg a0, if_pos a1]; rfl, by rw [if_neg a0, if_pos a1]; rfl, h⟩
  by_cases a2 : x = 2
  · exact ⟨_, _, _, by rw [if_neg a0, if_neg a1, if_pos a2]; rfl, by rw [if_neg a0, if_neg a1, if_pos a2]; rfl, h⟩
  by_cases a3 : x = 3
  · exact ⟨_, _, _, by rw [if_neg a0, if_neg a1, if_neg a2, if_pos a3]; rfl, by rw [if_neg a0, if_neg a1, if_neg a2, if_pos a3]; rfl, h⟩
  by_cases a4 : x = 4
  · exact ⟨_, _, _, by rw [if_neg a0, if_neg a1, if_neg a2, if_neg a3, if_pos a4]; rfl, by rw [if_neg a0, if_neg a1, if_neg a2, if_neg a3, if_pos a4]; rfl, h⟩
  · exact ⟨_, _, _, by rw [if_neg a0, if_neg a1, if_neg a2, if_neg a3, if_neg a4]; rfl, by rw [if_neg a0, if_neg a1, if_neg a2, if_neg a3, if_neg a4]; rfl, h⟩
set_option maxRecDepth 10000 in
theorem pz_hS5 : hS5 pzRel := by
  intro c u x h
  obtain ⟨_, _, _, _, ⟨n, hn, s1, s2, hs⟩, _⟩ := id h
  unfold cS5 mS5 fX8_shown fX9_shown fX6_byteAt
  rw [s1, s2]
  rcases pz_isInM x (n := n) (by omega) with ⟨i, b, rfl, d, f, g⟩ | ⟨a, b⟩
  · have e12 : ¬ (12 : Int32) ≤ pzN i := by rw [show (12 : Int32) = pzN 12 from rfl, pzN_le (by omega) (by omega)]; omega
    rw [d, if_neg f, if_neg g, if_neg e12, pz_gd2 (by omega) (by omega), pz_gd2 (by omega) (by omega), pzN_clamp (by omega), (hs _ b).1]
    exact ⟨_, _, _, rfl, rfl, h⟩
  · rw [a, if_pos rfl]
    rcases b with b | ⟨b, b2⟩
    · rw [if_pos b]
      exact ⟨_, _, _, rfl, rfl, h⟩
    · rw [if_neg b, if_pos b2]
      exact ⟨_, _, _, rfl, rfl, h⟩
set_option maxRecDepth 10000 in
theorem pz_hS11 : hS11 pzRel := by
  intro c u x h
  obtain ⟨_, _, _, ⟨n, hn, s1, s2, hs⟩, _⟩ := id h
  unfold cS11 mS11 fX8_key fX9_key fX7_keyAt
  rw [s1, s2]
  rcases pz_isInM x (n := n) (by omega) with ⟨i, b, rfl, d, f, g⟩ | ⟨a, b⟩
  · have e12 : ¬ (12 : Int32) ≤ pzN i := by rw [show (12 : Int32) = pzN 12 from rfl, pzN_le (by omega) (by omega)]; omega
    rw [d, if_neg f, if_neg g, if_neg e12, pz_gd2 (by omega) (by omega), pz_gd2 (by omega) (by omega), pzN_clamp (by omega), (hs _ b).1]
    exact ⟨_, _, _, rfl, rfl, h⟩
  · rw [a, if_pos rfl]
    rcases b with b | ⟨b, b2⟩
    · rw [if_pos b]
      exact ⟨_, _, _, rfl, rfl, h⟩
    · rw [if_neg b, if_pos b2]
      exact ⟨_, _, _, rfl, rfl, h⟩
set_option maxRecDepth 10000 in
theorem pz_hS12 : hS12 pzRel := by
  intro c u h
  obtain ⟨r0, r1, r2, ⟨n, hn, s1, s2, hs⟩, r4, r5, r6⟩ := id h
  unfold cS12 mS12 fX8_rest fX9_rest_ fX7_drop
  refine ⟨_, _, _, rfl, by rw [s1, s2], ?_⟩
  exact ⟨r0, r1, r2, ⟨0, by omega, rfl, rfl, fun k hk => by omega⟩, r4, r5, r6⟩
set_option maxRecDepth 10000 in
theorem pz_isIn3 (x : Int32) {a b : Nat} (ha : a < 2147483648) (hb : b < 2147483648) : fX9_isIn x (pzN a) (pzN b) = if x < pzN a then 0 else if pzN b < x then 0 else 1 := rfl
set_option maxRecDepth 10000 in
/-- a chord's number, or none -/
theorem pz_at {c : CS} {u : MSt} (B : Nat → Nat → Int64) (h : pzRel c u) (x : Int32) :
    (∃ i t s b z, i < c.1 ∧ i < 100 ∧ x = pzN i ∧ pzK (c.2.1 i) t s b z ∧ pzC u.2 i t s b z ∧ fX9_isChord B u.1 u.2 x = some 1 ∧ ∀ (α : Type) (p q : Option α), ckAt c.1 c.2.2.1 x p q = p) ∨
    (fX9_isChord B u.1 u.2 x = some 0 ∧ ∀ (α : Type) (p q : Option α), ckAt c.1 c.2.2.1 x p q = q) := by
  obtain ⟨⟨h0, h1, h2, h3⟩, _⟩ := h
  unfold fX9_isChord ckAt
  rw [h1, h2]
  rcases pz_isInM x (n := c.1) (by omega) with ⟨i, b, rfl, d, f, g⟩ | ⟨a, b⟩
  · left
    obtain ⟨t, s, b', z, hk, hc⟩ := h3 _ b
    refine ⟨i, t, s, b', z, b, by omega, rfl, hk, hc, by rw [d, if_pos (by decide)], fun α p q => ?_⟩
    rw [if_neg f, if_neg g, pz_gd2 (by omega) (by omega), pzN_clamp (by omega), if_pos b]
  · right
    refine ⟨by rw [a, if_pos (by decide)], fun α p q => ?_⟩
    rcases b with b | ⟨b, b2⟩
    · rw [if_pos b]
    · rw [if_neg b, if_pos b2]
set_option maxRecDepth 10000 in
theorem pz_wt_lt (t : Nat) (ht : t < 35) (s : Nat) : pzWt t s 0 ≤ 200 := by
  have h : ∀ (l : List Nat) (a : Nat), (∀ i, i ∈ l → i < 19) → l.foldl (fun a i => a + pzW t i) a ≤ a + 6 * l.length := by
    intro l
    induction l with
    | nil => intro a _; simp
    | cons x l ih =>
      intro a hl
      rw [List.foldl_cons, List.length_cons]
      have h1 := (pz_signs t ht x (hl x (by simp))).2.2.2
      have h2 := ih (a + pzW t x) (fun i hi => hl i (by simp [hi]))
      omega
  have h1 := h (pzP s) 0 (fun i => pzP_lt)
  have h2 := pzP_len s
  unfold pzWt
  omega
set_option maxRecDepth 10000 in
theorem pz_out (x : Int32) (h0 : ¬ x = 0) (h1 : ¬ x = 1) (h2 : ¬ x = 2) (h3 : ¬ x = 3) (h4 : ¬ x = 4) (h5 : ¬ x = 5) (h6 : ¬ x = 6) : fX9_isIn x 0 6 = 0 := by
  unfold fX9_isIn
  by_cases h : x < 0
  · rw [if_pos h]
  · obtain ⟨e, hl⟩ := pzN_of (pz_not_neg h)
    rw [if_neg h, if_pos]
    generalize x.toNatClampNeg = i at *
    subst e
    rw [show (6 : Int32) = pzN 6 from rfl, pzN_lt (by omega) (by omega)]
    have : ∀ j, j < 7 → pzN i ≠ pzN j → i ≠ j := fun j _ h e => h (by rw [e])
    have g0 := this 0 (by omega) h0
    have g1 := this 1 (by omega) h1
    have g2 := this 2 (by omega) h2
    have g3 := this 3 (by omega) h3
    have g4 := this 4 (by omega) h4
    have g5 := this 5 (by omega) h5
    have g6 := this 6 (by omega) h6
    omega
set_option maxRecDepth 10000 in
theorem pz_hS2 : hS2 pzRel := by
  intro c u x y h
  have hB : pzB u.2 := h.2.2.2.2.2.1
  unfold cS2 mS2 fX8_of fX9_of
  rcases pz_at BM h x with ⟨i, t, s, b, z, hi, h100, rfl, hk, hc, e1, e2⟩ | ⟨e1, e2⟩
  · have hr := pz_root BM u.1 h100 hc
    have hba := pz_bass BM u.1 h100 hc
    have hse := pz_set BM u.1 h100 hc
    have hbo := pz_bodyOf BM u.1 h100 hc hB
    obtain ⟨ht, hb, hs, hz, a0, a1, a2, a3, a4, a5, ar⟩ := id hc
    have hwe := pz_weight BM u.1 h100 hc ht
    have hcp := pz_cpitches ht hb hs.1 hk
    obtain ⟨k0, k1, k2, k3⟩ := id hk
    have hcw := pz_cweight ht hb hs.1
    have hcl := pzN_clamp (n := i) (by omega)
    rw [e1, e2, Option.bind_some, if_neg (show ¬ (1 : Int32) = 0 by decide)]
    simp only [hcl]
    by_cases y0 : y = 0
    · subst y0
      refine ⟨pzN (pzPi t), c, u, ?_, ?_, h⟩
      · rw [if_pos rfl, k0, pz_pitch t ht]; rfl
      · rw [if_neg (by decide), if_pos rfl, hr]; rfl
    by_cases y1 : y = 1
    · subst y1
      refine ⟨pzN (pzPi b), c, u, ?_, ?_, h⟩
      · rw [if_neg y0, if_pos rfl, k2, pz_pitch b hb]; rfl
      · rw [if_neg (by decide), if_neg y0, if_pos rfl, hba]; rfl
    by_cases y2 : y = 2
    · subst y2
      refine ⟨pzN (pzP s).length, c, u, ?_, ?_, h⟩
      · rw [if_neg y0, if_neg y1, if_pos rfl, k1, pz_bitCount hs.1]; rfl
      · rw [if_neg (by decide), if_neg y0, if_neg y1, if_pos rfl, pz_gd2 (by omega) (by omega), a5]; rfl
    by_cases y3 : y = 3
    · subst y3
      refine ⟨pzN (pzSet (pzPi t) s (1 <<< pzPi b)), c, u, ?_, ?_, h⟩
      · rw [if_neg y0, if_neg y1, if_neg y2, if_pos rfl, hcp]; rfl
      · rw [if_neg (by decide), if_neg y0, if_neg y1, if_neg y2, if_pos rfl, hse]; rfl
    by_cases y4 : y = 4
    · subst y4
      refine ⟨pzN (pzWt t s (pzSz b)), c, u, ?_, ?_, h⟩
      · rw [if_neg y0, if_neg y1, if_neg y2, if_neg y3, if_pos rfl, k0, k1, k2, hcw]; rfl
      · rw [if_neg (by decide), if_neg y0, if_neg y1, if_neg y2, if_neg y3, if_pos rfl]
        simp only [show (5 : Int32) = pzN 5 from rfl, show (1 : Int32) = pzN 1 from rfl, show (3 : Int32) = pzN 3 from rfl, pzN_mul, pzN_add]
        rw [pz_gd2 (by omega) (by omega), pz_gd2 (by omega) (by omega), pzN_clamp (by omega), pzN_clamp (by omega), a0, a1, hwe, Option.bind_some, pz_gd2 (by omega) (by omega), pzN_clamp (by omega), a3, (pz_sz b hb).1, pzN_add, pzWt_add _ _ (pzSz b)]
        rfl
    by_cases y5 : y = 5
    · subst y5
      refine ⟨if pzBn s < 20 then pzN (pzBn s) else -2, c, u, ?_, ?_, h⟩
      rotate_left
      · rw [if_neg (by decide), if_neg y0, if_neg y1, if_neg y2, if_neg y3, if_neg y4, if_pos rfl, hbo]; rfl
      · rw [if_neg y0, if_neg y1, if_neg y2, if_neg y3, if_neg y4, if_pos rfl]
        unfold fX1_body
        rw [k1, pz_withSteps hs.1, Option.bind_some, Option.bind_some, Option.bind_some]
        have := pzBn_le s
        by_cases hlt : pzBn s < 20
        · rw [if_neg (by rw [show (20 : Int32) = pzN 20 from rfl, pzN_inj (by omega) (by omega)]; omega), if_pos hlt]; rfl
        · rw [if_pos (by rw [show (20 : Int32) = pzN 20 from rfl, pzN_inj (by omega) (by omega)]; omega), if_neg hlt]; rfl
    by_cases y6 : y = 6
    · subst y6
      refine ⟨pzN z, c, u, ?_, ?_, h⟩
      rotate_left
      · rw [if_neg (by decide), if_neg y0, if_neg y1, if_neg y2, if_neg y3, if_neg y4, if_neg y5]
        simp only [show (5 : Int32) = pzN 5 from rfl, show (4 : Int32) = pzN 4 from rfl, pzN_mul, pzN_add]
        rw [pz_gd2 (by omega) (by omega), pzN_clamp (by omega), a4]
        rfl
      · rw [if_neg y0, if_neg y1, if_neg y2, if_neg y3, if_neg y4, if_neg y5, if_pos rfl, k3]
        by_cases z0 : z = 0
        · subst z0; rfl
        · have : z = 1 := by omega
          subst this; rfl
    refine ⟨-1, c, u, ?_, ?_, h⟩
    rotate_left
    · rw [if_pos (pz_out y y0 y1 y2 y3 y4 y5 y6)]; rfl
    · rw [if_neg y0, if_neg y1, if_neg y2, if_neg y3, if_neg y4, if_neg y5, if_neg y6]; rfl
  · rw [e1, e2]
    exact ⟨-1, c, u, rfl, rfl, h⟩
/-! the n-th step -/
set_option maxRecDepth 10000 in
theorem pz_nthIn {s : Nat} (hs : s < 524288) {q : Nat} (hq : q < 2147483648) : ∀ d k m f, k + d = 19 → d < f → m ≤ q → m ≤ k → fX4_nth_4 f (pzN s) (pzN q) (pzN m) (pzN k) = some (if q - m < ((List.range' k d).filter (fun i => s.testBit i)).length then pzN (((List.range' k d).filter (fun i => s.testBit i)).getD (q - m) 0) else -1)
  | d, k, m, 0, _, hf, _, _ => by omega
  | 0, k, m, f + 1, e, hf, hm, hmk => by
    show fX4_nth_4B (fX4_nth_4 f) (pzN s) (pzN q) (pzN m) (pzN k) = _
    unfold fX4_nth_4B
    rw [if_pos (by rw [show (19 : Int32) = pzN 19 from rfl, pzN_le (by omega) (by omega)]; omega), if_neg (by simp)]
  | d + 1, k, m, f + 1, e, hf, hm, hmk => by
    show fX4_nth_4B (fX4_nth_4 f) (pzN s) (pzN q) (pzN m) (pzN k) = _
    unfold fX4_nth_4B
    rw [if_neg (by rw [show (19 : Int32) = pzN 19 from rfl, pzN_le (by omega) (by omega)]; omega), pz_isIn (by omega) (by omega), pzN_suc, pzN_suc, List.range'_succ]
    by_cases hb : s.testBit k = true
    · rw [List.filter_cons_of_pos (by simpa using hb), if_pos hb, if_neg (by decide)]
      by_cases hqm : m = q
      · subst hqm
        rw [if_pos rfl, if_pos (by simp), Nat.sub_self]
        rfl
      · rw [if_neg (by rw [pzN_inj (by omega) (by omega)]; exact hqm), pz_nthIn hs hq d (k + 1) (m + 1) f (by omega) (by omega) (by omega) (by omega)]
        have e1 : q - m = (q - (m + 1)) + 1 := by omega
        rw [e1, List.length_cons, List.getD_cons_succ]
        by_cases hl : q - (m + 1) < ((List.range' (k + 1) d).filter (fun i => s.testBit i)).length
        · rw [if_pos hl, if_pos (by omega)]
        · rw [if_neg hl, if_neg (by omega)]
    · rw [List.filter_cons_of_neg (by simpa using hb), if_neg hb, if_pos (by rfl), pz_nthIn hs hq d (k + 1) m f (by omega) (by omega) (by omega) (by omega)]
set_option maxRecDepth 10000 in
theorem pz_nthNeg {s : Nat} (hs : s < 524288) {q : Int32} (hq : q < 0) : ∀ d k m f, k + d = 19 → d < f → m ≤ k → fX4_nth_4 f (pzN s) q (pzN m) (pzN k) = some (-1)
  | d, k, m, 0, _, hf, _ => by omega
  | 0, k, m, f + 1, e, hf, hmk => by
    show fX4_nth_4B (fX4_nth_4 f) (pzN s) q (pzN m) (pzN k) = _
    unfold fX4_nth_4B
    rw [if_pos (by rw [show (19 : Int32) = pzN 19 from rfl, pzN_le (by omega) (by omega)]; omega)]
  | d + 1, k, m, f + 1, e, hf, hmk => by
    show fX4_nth_4B (fX4_nth_4 f) (pzN s) q (pzN m) (pzN k) = _
    unfold fX4_nth_4B
    rw [if_neg (by rw [show (19 : Int32) = pzN 19 from rfl, pzN_le (by omega) (by omega)]; omega), pz_isIn (by omega) (by omega), pzN_suc, pzN_suc]
    by_cases hb : s.testBit k = true
    · rw [if_pos hb, if_neg (by decide), if_neg, pz_nthNeg hs hq d (k + 1) (m + 1) f (by omega) (by omega) (by omega)]
      intro e; rw [← e] at hq
      exact (pzN_not_neg (a := m) (by omega)).mp hq
    · rw [if_neg hb, if_pos (by rfl), pz_nthNeg hs hq d (k + 1) m f (by omega) (by omega) (by omega)]
set_option maxRecDepth 10000 in
theorem pz_nth {s : Nat} (hs : s < 524288) {q : Nat} (hq : q < 2147483648) : fX4_nth (pzN s) (pzN q) = some (if q < (pzP s).length then pzN ((pzP s).getD q 0) else -1) := by
  unfold fX4_nth
  refine (pz_nthIn hs hq 19 0 0 FU (by omega) (by unfold FU; omega) (by omega) (by omega)).trans ?_
  rw [Nat.sub_zero, ← List.range_eq_range']
  rfl
set_option maxRecDepth 10000 in
theorem pz_out5 (x : Int32) (lo : Nat) (hlo : lo ≤ 2) (h0 : ¬ x = 0 ∨ 0 < lo) (h1 : ¬ x = 1 ∨ 1 < lo) (h2 : ¬ x = 2) (h3 : ¬ x = 3) (h4 : ¬ x = 4) : fX9_isIn x (pzN lo) 4 = 0 := by
  unfold fX9_isIn
  by_cases h : x < 0
  · rw [if_pos]
    rw [Int32.lt_iff_toInt_lt] at *
    rw [pzN_toInt (by omega)]
    have : (0 : Int32).toInt = 0 := rfl
    omega
  · obtain ⟨e, hl⟩ := pzN_of (pz_not_neg h)
    generalize x.toNatClampNeg = i at *
    subst e
    have this : ∀ j, j < 7 → pzN i ≠ pzN j → i ≠ j := fun j _ h e => h (by rw [e])
    have g2 := this 2 (by omega) h2
    have g3 := this 3 (by omega) h3
    have g4 := this 4 (by omega) h4
    by_cases hi : i < lo
    · rw [if_pos (by rw [pzN_lt (by omega) (by omega)]; exact hi)]
    · rw [if_neg (by rw [pzN_lt (by omega) (by omega)]; exact hi), if_pos]
      have g0 : i ≠ 0 := by
        rcases h0 with h0 | h0
        · exact this 0 (by omega) h0
        · omega
      have g1 : i ≠ 1 := by
        rcases h1 with h1 | h1
        · exact this 1 (by omega) h1
        · omega
      rw [show (4 : Int32) = pzN 4 from rfl, pzN_lt (by omega) (by omega)]
      omega
set_option maxRecDepth 10000 in
theorem pz_isInS (x : Int32) {n : Nat} (hn : n ≤ 2400) : (x = -1 ∧ fX9_isIn x (-1) (pzN n - 1) = 1) ∨ (∃ q, q < n ∧ x = pzN q ∧ fX9_isIn x (-1) (pzN n - 1) = 1) ∨ (fX9_isIn x (-1) (pzN n - 1) = 0 ∧ ¬ x = -1 ∧ (x < 0 ∨ ∃ q, n ≤ q ∧ q < 2147483648 ∧ x = pzN q)) := by
  have hn1 : (pzN n - 1).toInt = (n : Int) - 1 := by
    by_cases h : n = 0
    · subst h; rfl
    · rw [show (1 : Int32) = pzN 1 from rfl, pzN_sub (by omega), pzN_toInt (by omega)]
      omega
  have m1 : (-1 : Int32).toInt = -1 := rfl
  have m0 : (0 : Int32).toInt = 0 := rfl
  unfold fX9_isIn
  by_cases h1 : x = -1
  · left
    refine ⟨h1, ?_⟩
    subst h1
    rw [if_neg (by decide), if_neg]
    rw [Int32.lt_iff_toInt_lt, hn1, m1]
    omega
  · right
    by_cases h : x < 0
    · right
      refine ⟨?_, h1, Or.inl h⟩
      rw [if_pos]
      have : x.toInt ≠ -1 := fun e => h1 (Int32.toInt_inj.mp (e.trans m1.symm))
      rw [Int32.lt_iff_toInt_lt] at *
      omega
    · obtain ⟨e, hl⟩ := pzN_of (pz_not_neg h)
      generalize x.toNatClampNeg = q at *
      subst e
      have hq : ¬ pzN q < -1 := by
        rw [Int32.lt_iff_toInt_lt, m1, pzN_toInt hl]; omega
      by_cases hx : q < n
      · left
        refine ⟨q, hx, rfl, ?_⟩
        rw [if_neg hq, if_neg]
        rw [Int32.lt_iff_toInt_lt, hn1, pzN_toInt hl]; omega
      · right
        refine ⟨?_, h1, Or.inr ⟨q, by omega, hl, rfl⟩⟩
        rw [if_neg hq, if_pos]
        rw [Int32.lt_iff_toInt_lt, hn1, pzN_toInt hl]; omega
set_option maxRecDepth 10000 in
theorem pz_hS3 : hS3 pzRel := by
  intro c u x y w h
  unfold cS3 mS3 fX8_step fX9_step fX9_step_34
  rcases pz_at BM h x with ⟨i, t, s, b, z, hi, h100, rfl, hk, hc, e1, e2⟩ | ⟨e1, e2⟩
  · have hr := pz_root BM u.1 h100 hc
    have hba := pz_bass BM u.1 h100 hc
    obtain ⟨ht, hb, hs, hz, a0, a1, a2, a3, a4, a5, ar⟩ := id hc
    obtain ⟨k0, k1, k2, k3⟩ := id hk
    have hl := pz_len16 hs
    have hcl := pzN_clamp (n := i) (by omega)
    rw [e1, e2, Option.bind_some, if_neg (show ¬ (1 : Int32) = 0 by decide), pz_gd2 (by omega) (by omega)]
    simp only [hcl, a5]
    rcases pz_isInS y (n := (pzP s).length) (by omega) with ⟨rfl, d⟩ | ⟨q, hq, rfl, d⟩ | ⟨d, y1, hy⟩
    · rw [d, if_neg (show ¬ (1 : Int32) = 0 by decide), if_neg (show ¬ (0 : Int32) ≤ -1 by decide), if_pos rfl, k2]
      unfold fX8_bassPart
      by_cases w2 : w = 2
      · subst w2
        refine ⟨pzN (b / 5), c, u, ?_, ?_, h⟩
        · rw [if_pos rfl, (pz_nt b hb).1]; rfl
        · rw [if_neg (by decide), if_neg (by decide), if_pos rfl]
          simp only [show (5 : Int32) = pzN 5 from rfl, show (2 : Int32) = pzN 2 from rfl, pzN_mul, pzN_add]
          rw [pz_gd2 (by omega) (by omega), pzN_clamp (by omega), a2]; rfl
      by_cases w3 : w = 3
      · subst w3
        refine ⟨pzSg b, c, u, ?_, ?_, h⟩
        · rw [if_neg w2, if_pos rfl, (pz_nt b hb).2]; rfl
        · rw [if_neg (by decide), if_neg (by decide), if_neg w2, if_pos rfl]
          simp only [show (5 : Int32) = pzN 5 from rfl, show (3 : Int32) = pzN 3 from rfl, pzN_mul, pzN_add]
          rw [pz_gd2 (by omega) (by omega), pzN_clamp (by omega), a3]; rfl
      by_cases w4 : w = 4
      · subst w4
        refine ⟨pzN (pzPi b), c, u, ?_, ?_, h⟩
        · rw [if_neg w2, if_neg w3, if_pos rfl, pz_pitch b hb]; rfl
        · rw [if_neg (by decide), if_neg (by decide), if_neg w2, if_neg w3, hba]; rfl
      refine ⟨-1, c, u, ?_, ?_, h⟩
      · rw [if_neg w2, if_neg w3, if_neg w4]; rfl
      · have hh : fX9_isIn w 2 4 = 0 := pz_out5 w 2 (by omega) (Or.inr (by omega)) (Or.inr (by omega)) w2 w3 w4
        rw [if_pos hh]; rfl
    · have hy1 : ¬ pzN q = -1 := by
        intro e
        have : pzN q < 0 := by rw [e]; decide
        exact (pzN_not_neg (by omega)).mp this
      have hy0 : (0 : Int32) ≤ pzN q := pz_not_neg (fun e => (pzN_not_neg (by omega)).mp e)
      have hp := pzP_lt (pzP_getD hq)
      obtain ⟨s1, s2, s3⟩ := pz_step t ht _ hp
      obtain ⟨d1, d2, d3, d4, d5⟩ := pz_HD _ hp
      have hne : ¬ pzN ((pzP s).getD q 0) = -1 := by
        intro e
        have : pzN ((pzP s).getD q 0) < 0 := by rw [e]; decide
        exact (pzN_not_neg (by omega)).mp this
      rw [d, if_neg (show ¬ (1 : Int32) = 0 by decide), if_neg hy1, if_pos hy0, if_pos hy0, k0, k1, pz_nth hs.1 (by omega), Option.bind_some, if_pos hq, if_neg hne]
      have g1 : ∀ (α : Type) (p r : Option α), (if gd (16 * pzN i + pzN q) 1600 then p else r) = p := by
        intro α p r
        rw [show (16 : Int32) = pzN 16 from rfl, pzN_mul, pzN_add, pz_gd2 (by omega) (by omega)]
      have g2 : (16 * pzN i + pzN q).toNatClampNeg = 16 * i + q := by
        rw [show (16 : Int32) = pzN 16 from rfl, pzN_mul, pzN_add, pzN_clamp (by omega)]
      have g3 : ∀ (α : Type) (p r : Option α), (if gd (5 * pzN i) 500 then p else r) = p := by
        intro α p r
        rw [show (5 : Int32) = pzN 5 from rfl, pzN_mul, pz_gd2 (by omega) (by omega)]
      have g4 : (5 * pzN i).toNatClampNeg = 5 * i := by
        rw [show (5 : Int32) = pzN 5 from rfl, pzN_mul, pzN_clamp (by omega)]
      have g5 : ∀ (α : Type) (p r : Option α), (if gd (5 * pzN i + 1) 500 then p else r) = p := by
        intro α p r
        rw [show (5 : Int32) = pzN 5 from rfl, show (1 : Int32) = pzN 1 from rfl, pzN_mul, pzN_add, pz_gd2 (by omega) (by omega)]
      have g6 : (5 * pzN i + 1).toNatClampNeg = 5 * i + 1 := by
        rw [show (5 : Int32) = pzN 5 from rfl, show (1 : Int32) = pzN 1 from rfl, pzN_mul, pzN_add, pzN_clamp (by omega)]
      rw [g1, g1, g2, (ar q hq).1, (ar q hq).2]
      unfold fX8_stepPart
      generalize (pzP s).getD q 0 = j at *
      by_cases w0 : w = 0
      · subst w0
        refine ⟨pzN (pzH j), c, u, ?_, ?_, h⟩
        · rw [if_pos rfl, d1]; rfl
        · rw [if_neg (by decide), if_pos rfl]; rfl
      by_cases w1 : w = 1
      · subst w1
        refine ⟨pzN (pzD j), c, u, ?_, ?_, h⟩
        · rw [if_neg w0, if_pos rfl, d2]; rfl
        · rw [if_neg (by decide), if_neg w0, if_pos rfl]; rfl
      by_cases w2 : w = 2
      · subst w2
        refine ⟨jrem ((pzN (t / 5) + pzN (pzD j)) - 1) 7, c, u, ?_, ?_, h⟩
        · rw [if_neg w0, if_neg w1, if_pos rfl, s1]; rfl
        · rw [if_neg (by decide), if_neg w0, if_neg w1, if_pos rfl, g3, g4, a0]; rfl
      by_cases w3 : w = 3
      · subst w3
        refine ⟨pzS t j, c, u, ?_, ?_, h⟩
        · rw [if_neg w0, if_neg w1, if_neg w2, if_pos rfl, s3]; rfl
        · rw [if_neg (by decide), if_neg w0, if_neg w1, if_neg w2, if_pos rfl, g3, g4, a0, g5, g6, a1]; rfl
      by_cases w4 : w = 4
      · subst w4
        refine ⟨jrem (pzN (pzPi t) + pzN (pzH j)) 12, c, u, ?_, ?_, h⟩
        · rw [if_neg w0, if_neg w1, if_neg w2, if_neg w3, if_pos rfl, s2]; rfl
        · rw [if_neg (by decide), if_neg w0, if_neg w1, if_neg w2, if_neg w3, hr]; rfl
      refine ⟨-1, c, u, ?_, ?_, h⟩
      · rw [if_neg w0, if_neg w1, if_neg w2, if_neg w3, if_neg w4]; rfl
      · have hh : fX9_isIn w 0 4 = 0 := pz_out5 w 0 (by omega) (Or.inl w0) (Or.inl w1) w2 w3 w4
        rw [if_pos hh]; rfl
    · rw [d, if_pos rfl, if_neg y1, k1]
      rcases hy with hy | ⟨q, hq1, hq2, rfl⟩
      · unfold fX4_nth
        have := pz_nthNeg hs.1 hy 19 0 0 FU (by omega) (by unfold FU; omega) (by omega)
        rw [show pzN 0 = (0 : Int32) from rfl] at this
        rw [this]
        exact ⟨-1, c, u, rfl, rfl, h⟩
      · rw [pz_nth hs.1 hq2, if_neg (by omega)]
        exact ⟨-1, c, u, rfl, rfl, h⟩
  · rw [e1, e2]
    exact ⟨-1, c, u, rfl, rfl, h⟩
/-! texts -/
def pzT (I : Nat → Int32) (A : Nat → Nat → Int32) (l : List Nat) : Prop := I 1 = pzN l.length ∧ ∀ k, k < l.length → A 0 k = pzN (l.getD k 0)
def pzU (I : Nat → Int32) (A : Nat → Nat → Int32) (l : List Nat) : Prop := I 8 = pzN l.length ∧ ∀ k, k < l.length → A 7 k = pzN (l.getD k 0)
def pzFr (I : Nat → Int32) (A : Nat → Nat → Int32) (I' : Nat → Int32) (A' : Nat → Nat → Int32) : Prop := (∀ j, j ≠ 8 → I' j = I j) ∧ ∀ j, j ≠ 7 → A' j = A j
set_option maxRecDepth 10000 in
theorem pzFr_refl (I : Nat → Int32) (A : Nat → Nat → Int32) : pzFr I A I A := ⟨fun _ _ => rfl, fun _ _ => rfl⟩
set_option maxRecDepth 10000 in
theorem pzFr_trans {I A I' A' I'' A''} (h : pzFr I A I' A') (g : pzFr I' A' I'' A'') : pzFr I A I'' A'' := ⟨fun j hj => (g.1 j hj).trans (h.1 j hj), fun j hj => (g.2 j hj).trans (h.2 j hj)⟩
set_option maxRecDepth 10000 in
theorem pz_getD_app (l : List Nat) (x k : Nat) : (l ++ [x]).getD k 0 = if k < l.length then l.getD k 0 else if k = l.length then x else 0 := by
  rw [List.getD_eq_getElem?_getD, List.getD_eq_getElem?_getD]
  by_cases h : k < l.length
  · rw [if_pos h, List.getElem?_append_left h]
  · rw [if_neg h, List.getElem?_append_right (by omega)]
    by_cases e : k = l.length
    · subst e; simp
    · rw [if_neg e]
      have : k - l.length ≠ 0 := by omega
      cases hh : k - l.length with
      | zero => omega
      | succ n => simp
set_option maxRecDepth 10000 in
theorem pz_add {I : Nat → Int32} {A : Nat → Nat → Int32} {l : List Nat} (h : pzT I A l) (hl : l.length < 12) (x : Nat) : ∃ I' A', fX6_add I A (pzN x) = some (I', A') ∧ pzT I' A' (l ++ [x]) := by
  obtain ⟨h1, h2⟩ := h
  unfold fX6_add
  rw [h1, if_neg (by rw [show (12 : Int32) = pzN 12 from rfl, pzN_le (by omega) (by omega)]; omega), pz_gd2 (by omega) (by omega)]
  refine ⟨_, _, rfl, ?_, ?_⟩
  · rw [pz_upd_eq, pzN_suc, List.length_append]; rfl
  · intro k hk
    rw [pz_va_eq, pzN_clamp (by omega), pz_getD_app]
    rw [List.length_append] at hk
    by_cases e : k = l.length
    · subst e; rw [pz_upd_eq, if_neg (by omega), if_pos rfl]
    · have hk2 : k < l.length := by simp at hk; omega
      rw [pz_upd_ne _ _ e, if_pos hk2, h2 k hk2]
set_option maxRecDepth 10000 in
theorem pz_nar : ∀ x, x < 128 → vp_nar .byte ((pzN x).toInt8.toInt32) = pzN x ∧ vp_nar .byte (pzN x) = pzN x := by decide +kernel
set_option maxRecDepth 10000 in
theorem pz_shows {I : Nat → Int32} {A : Nat → Nat → Int32} {l : List Nat} (B : Nat → Nat → Int64) (h : pzU I A l) (hl : l.length < 64) {x : Nat} (hx : x < 128) : ∃ I' A', fX9_shows B I A (pzN x) = some (I', A') ∧ pzU I' A' (l ++ [x]) ∧ pzFr I A I' A' := by
  obtain ⟨h1, h2⟩ := h
  unfold fX9_shows
  rw [h1, pz_gd2 (by omega) (by omega), (pz_nar x hx).1]
  refine ⟨_, _, rfl, ⟨?_, ?_⟩, ?_, ?_⟩
  · rw [pz_upd_eq, pzN_suc, List.length_append]; rfl
  · intro k hk
    rw [pz_va_eq, pzN_clamp (by omega), pz_getD_app]
    rw [List.length_append] at hk
    by_cases e : k = l.length
    · subst e; rw [pz_upd_eq, if_neg (by omega), if_pos rfl]
    · have hk2 : k < l.length := by simp at hk; omega
      rw [pz_upd_ne _ _ e, if_pos hk2, h2 k hk2]
  · intro j hj; exact pz_upd_ne _ _ hj
  · intro j hj; exact pz_va_ne _ _ hj
def pzSm : Bool → Int32
  | true => 1
  | false => 0
def pzStr (i : Nat) : List Nat := (jTb i).map Int32.toNatClampNeg
def pzSel (sm : Bool) (n : Nat) : List Nat → Nat → List Nat
  | [], _ => []
  | c :: cs, w => if c = 32 then pzSel sm n cs (w + 1) else if w = n then (if sm = true ∧ c ≠ 98 then c + 32 else c) :: pzSel sm n cs w else pzSel sm n cs w
set_option maxRecDepth 10000 in
theorem pz_chr : ∀ i, i < 10 → jN i = (pzStr i).length ∧ jN i < 100 ∧ ∀ k, k < jN i → jC i k = pzN ((pzStr i).getD k 0) ∧ (pzStr i).getD k 0 < 128 := by decide +kernel
set_option maxRecDepth 10000 in
theorem pz_up : ∀ c, c < 128 → ((((pzN c - 65) + 97).toUInt32 % 65536).toInt32) = pzN (c + 32) := by decide +kernel
set_option maxRecDepth 10000 in
theorem pz_addWordIn {i : Nat} (hi : i < 10) {n : Nat} (hn : n < 1000) (sm : Bool) : ∀ d k w f (I : Nat → Int32) (A : Nat → Nat → Int32) (l : List Nat), k + d = jN i → d < f → w ≤ k → pzT I A l → l.length + (pzSel sm n ((pzStr i).drop k) w).length ≤ 12 →
    ∃ I' A', fX6_addWord_6 i f I A (pzN n) (pzSm sm) (pzN w) (pzN k) = some (I', A') ∧ pzT I' A' (l ++ pzSel sm n ((pzStr i).drop k) w)
  | d, k, w, 0, I, A, l, _, hf, _, _, _ => by omega
  | 0, k, w, f + 1, I, A, l, e, hf, hw, hT, hl => by
    obtain ⟨c1, c2, c3⟩ := pz_chr i hi
    show ∃ I' A', fX6_addWord_6B i (fX6_addWord_6 i f) I A (pzN n) (pzSm sm) (pzN w) (pzN k) = some (I', A') ∧ _
    unfold fX6_addWord_6B
    rw [show Int32.ofNat (jN i) = pzN (jN i) from rfl, if_pos (by rw [pzN_le (by omega) (by omega)]; omega)]
    refine ⟨I, A, rfl, ?_⟩
    rw [List.drop_eq_nil_of_le (by omega)]
    simpa [pzSel] using hT
  | d + 1, k, w, f + 1, I, A, l, e, hf, hw, hT, hl => by
    obtain ⟨c1, c2, c3⟩ := pz_chr i hi
    obtain ⟨c4, c5⟩ := c3 k (by omega)
    have hk : k < (pzStr i).length := by omega
    have hd : (pzStr i).drop k = (pzStr i).getD k 0 :: (pzStr i).drop (k + 1) := by rw [List.drop_eq_getElem_cons hk, pz_getD_get hk]
    rw [hd] at hl ⊢
    have ih := fun w I A l => pz_addWordIn hi hn sm d (k + 1) w f I A l (by omega) (by omega)
    show ∃ I' A', fX6_addWord_6B i (fX6_addWord_6 i f) I A (pzN n) (pzSm sm) (pzN w) (pzN k) = some (I', A') ∧ _
    unfold fX6_addWord_6B
    rw [show Int32.ofNat (jN i) = pzN (jN i) from rfl, if_neg (by rw [pzN_le (by omega) (by omega)]; omega), pz_gd2 (by omega) (by omega), pzN_clamp (by omega), c4]
    generalize (pzStr i).getD k 0 = c at *
    simp only [pzSel] at hl ⊢
    simp only [pzN_suc]
    by_cases h32 : c = 32
    · subst h32
      rw [if_pos rfl] at hl
      rw [if_pos (by rfl), if_pos rfl]
      exact ih (w + 1) I A l (by omega) hT hl
    · rw [if_neg h32] at hl
      rw [if_neg (by rw [show (32 : Int32) = pzN 32 from rfl, pzN_inj (by omega) (by omega)]; exact h32), if_neg h32]
      by_cases hwn : w = n
      · subst hwn
        rw [if_pos rfl, List.length_cons] at hl
        rw [if_pos rfl, if_pos rfl]
        cases sm with
        | false =>
          obtain ⟨I1, A1, e1, T1⟩ := pz_add hT (by omega) c
          obtain ⟨I2, A2, e2, T2⟩ := ih w I1 A1 _ (by omega) T1 (by rw [List.length_append, List.length_cons, List.length_nil]; omega)
          rw [if_pos (show pzSm false = 0 from rfl), if_neg (show ¬ (false = true ∧ c ≠ 98) from fun x => Bool.noConfusion x.1), e1]
          exact ⟨I2, A2, e2, by simpa using T2⟩
        | true =>
          by_cases h98 : c = 98
          · subst h98
            obtain ⟨I1, A1, e1, T1⟩ := pz_add hT (by omega) 98
            obtain ⟨I2, A2, e2, T2⟩ := ih w I1 A1 _ (by omega) T1 (by rw [List.length_append, List.length_cons, List.length_nil]; omega)
            rw [if_neg (show ¬ pzSm true = 0 by decide), if_pos (by rfl), e1, if_neg (show ¬ (true = true ∧ 98 ≠ 98) from fun x => x.2 rfl)]
            exact ⟨I2, A2, e2, by simpa using T2⟩
          · obtain ⟨I1, A1, e1, T1⟩ := pz_add hT (by omega) (c + 32)
            obtain ⟨I2, A2, e2, T2⟩ := ih w I1 A1 _ (by omega) T1 (by rw [List.length_append, List.length_cons, List.length_nil]; omega)
            rw [if_neg (show ¬ pzSm true = 0 by decide), if_neg (by rw [show (98 : Int32) = pzN 98 from rfl, pzN_inj (by omega) (by omega)]; exact h98), pz_up c c5, e1, if_pos ⟨rfl, h98⟩]
            exact ⟨I2, A2, e2, by simpa using T2⟩
      · rw [if_neg hwn] at hl
        rw [if_neg (by rw [pzN_inj (by omega) (by omega)]; exact hwn), if_neg hwn]
        exact ih w I A l (by omega) hT hl
set_option maxRecDepth 10000 in
theorem pz_addWord {i : Nat} (hi : i < 10) {n : Nat} (hn : n < 1000) (sm : Bool) {I : Nat → Int32} {A : Nat → Nat → Int32} {l : List Nat} (h : pzT I A l) (hl : l.length + (pzSel sm n (pzStr i) 0).length ≤ 12) :
    ∃ I' A', fX6_addWord I A i (pzN n) (pzSm sm) = some (I', A') ∧ pzT I' A' (l ++ pzSel sm n (pzStr i) 0) :=
  pz_addWordIn hi hn sm (jN i) 0 0 FU I A l (by omega) (by have := (pz_chr i hi).2.1; unfold FU; omega) (by omega) h hl
/-- a NOTE's text -/
def pzNo (t : Nat) : List Nat := pzSel false (t / 5) (pzStr 8) 0 ++ pzSel false (t % 5) (pzStr 9) 0
set_option maxRecDepth 10000 in
theorem pz_addNote {t : Nat} (ht : t < 35) {I : Nat → Int32} {A : Nat → Nat → Int32} {l : List Nat} (h : pzT I A l) (hl : l.length + (pzNo t).length ≤ 12) :
    ∃ I' A', fX6_addNote I A (pzN t) = some (I', A') ∧ pzT I' A' (l ++ pzNo t) := by
  unfold pzNo at hl ⊢
  rw [List.length_append] at hl
  unfold fX6_addNote
  have hs : pzSg t + 2 = pzN (t % 5) := by unfold pzSg; rw [Int32.sub_add_cancel]
  rw [(pz_nt t ht).1, (pz_nt t ht).2, hs]
  obtain ⟨I1, A1, e1, T1⟩ := pz_addWord (i := 8) (by omega) (n := t / 5) (by omega) false h (by omega)
  obtain ⟨I2, A2, e2, T2⟩ := pz_addWord (i := 9) (by omega) (n := t % 5) (by omega) false T1 (by rw [List.length_append]; omega)
  refine ⟨I2, A2, ?_, by rw [List.append_assoc] at T2; exact T2⟩
  rw [show pzSm false = 0 from rfl] at e1 e2
  rw [e1]
  show (fX6_addWord I1 A1 9 (pzN (t % 5)) 0).bind _ = _
  rw [e2]
  rfl
/-! the reference's -/
set_option maxRecDepth 10000 in
theorem pz_showsList {I : Nat → Int32} {A : Nat → Nat → Int32} {l : List Nat} (B : Nat → Nat → Int64) {wd : Int64} {bs : List Nat} (hb : ∀ k, k < bs.length → fX9_byteOf wd (pzN k) = some (pzN (bs.getD k 0)) ∧ bs.getD k 0 < 128) :
    ∀ d k f I A l, k + d = bs.length → d < f → pzU I A l → l.length + d ≤ 64 → bs.length ≤ 64 → ∃ I' A', fX9_showsWord_8 B f I A wd (pzN bs.length) (pzN k) = some (I', A') ∧ pzU I' A' (l ++ bs.drop k) ∧ pzFr I A I' A'
  | d, k, 0, I, A, l, _, hf, _, _, _ => by omega
  | 0, k, f + 1, I, A, l, e, hf, hU, hl, h64 => by
    show ∃ I' A', fX9_showsWord_8B B (fX9_showsWord_8 B f) I A wd (pzN bs.length) (pzN k) = some (I', A') ∧ _
    unfold fX9_showsWord_8B
    rw [if_pos (by rw [pzN_le (by omega) (by omega)]; omega)]
    refine ⟨I, A, rfl, ?_, pzFr_refl I A⟩
    rw [List.drop_eq_nil_of_le (by omega), List.append_nil]
    exact hU
  | d + 1, k, f + 1, I, A, l, e, hf, hU, hl, h64 => by
    have hk : k < bs.length := by omega
    show ∃ I' A', fX9_showsWord_8B B (fX9_showsWord_8 B f) I A wd (pzN bs.length) (pzN k) = some (I', A') ∧ _
    unfold fX9_showsWord_8B
    obtain ⟨I1, A1, e1, U1, F1⟩ := pz_shows B hU (by omega) (hb k hk).2
    obtain ⟨I2, A2, e2, U2, F2⟩ := pz_showsList B hb d (k + 1) f I1 A1 _ (by omega) (by omega) U1 (by rw [List.length_append]; simp; omega) h64 (I := I) (A := A) (l := l)
    rw [if_neg (by rw [pzN_le (by omega) (by omega)]; omega), (hb k hk).1, Option.bind_some, e1, pzN_suc]
    refine ⟨I2, A2, e2, ?_, pzFr_trans F1 F2⟩
    rw [List.drop_eq_getElem_cons hk, ← pz_getD_get hk]
    simpa using U2
set_option maxRecDepth 10000 in
theorem pz_showsWord {I : Nat → Int32} {A : Nat → Nat → Int32} {l : List Nat} (B : Nat → Nat → Int64) {wd : Int64} {bs : List Nat} (hn : fX9_lengthOf wd = some (pzN bs.length)) (hb : ∀ k, k < bs.length → fX9_byteOf wd (pzN k) = some (pzN (bs.getD k 0)) ∧ bs.getD k 0 < 128) (h : pzU I A l) (h64 : bs.length ≤ 20) (hl : l.length ≤ 20) :
    ∃ I' A', fX9_showsWord B I A wd = some (I', A') ∧ pzU I' A' (l ++ bs) ∧ pzFr I A I' A' := by
  unfold fX9_showsWord
  rw [hn, Option.bind_some]
  exact pz_showsList B hb bs.length 0 FU I A l (by omega) (by unfold FU; omega) h (by omega) (by omega) (I := I) (A := A) (l := l)
set_option maxRecDepth 10000 in
theorem pz_signsIn {I : Nat → Int32} {A : Nat → Nat → Int32} {l : List Nat} (B : Nat → Nat → Int64) {t : Nat} (ht : t < 35) :
    ∀ d k f I A l, k + d = pzSz t → d < f → pzU I A l → l.length + d ≤ 64 → ∃ I' A', fX9_showsNote_24 B f I A (pzSg t) (pzN k) = some (I', A') ∧ pzU I' A' (l ++ List.replicate d (if 2 ≤ t % 5 then 35 else 98)) ∧ pzFr I A I' A'
  | d, k, 0, I, A, l, _, hf, _, _ => by omega
  | 0, k, f + 1, I, A, l, e, hf, hU, hl => by
    have hz := pz_sz t ht
    show ∃ I' A', fX9_showsNote_24B B (fX9_showsNote_24 B f) I A (pzSg t) (pzN k) = some (I', A') ∧ _
    unfold fX9_showsNote_24B
    rw [hz.1, if_pos (by rw [pzN_le (by omega) (by omega)]; omega)]
    exact ⟨I, A, rfl, by simpa using hU, pzFr_refl I A⟩
  | d + 1, k, f + 1, I, A, l, e, hf, hU, hl => by
    have hz := pz_sz t ht
    have hp : ∀ t, t < 35 → ((0 : Int32) ≤ pzSg t ↔ 2 ≤ t % 5) := by decide +kernel
    have hp := hp t ht
    show ∃ I' A', fX9_showsNote_24B B (fX9_showsNote_24 B f) I A (pzSg t) (pzN k) = some (I', A') ∧ _
    unfold fX9_showsNote_24B
    rw [hz.1, if_neg (by rw [pzN_le (by omega) (by omega)]; omega), pzN_suc]
    by_cases h2 : 2 ≤ t % 5
    · obtain ⟨I1, A1, e1, U1, F1⟩ := pz_shows B hU (by omega) (x := 35) (by omega)
      obtain ⟨I2, A2, e2, U2, F2⟩ := pz_signsIn B ht d (k + 1) f I1 A1 _ (by omega) (by omega) U1 (by rw [List.length_append]; simp; omega) (I := I) (A := A) (l := l)
      rw [if_pos (hp.mpr h2), if_pos h2, show (35 : Int32) = pzN 35 from rfl, e1]
      refine ⟨I2, A2, e2, ?_, pzFr_trans F1 F2⟩
      rw [if_pos h2] at U2
      rw [List.replicate_succ]
      simpa using U2
    · obtain ⟨I1, A1, e1, U1, F1⟩ := pz_shows B hU (by omega) (x := 98) (by omega)
      obtain ⟨I2, A2, e2, U2, F2⟩ := pz_signsIn B ht d (k + 1) f I1 A1 _ (by omega) (by omega) U1 (by rw [List.length_append]; simp; omega) (I := I) (A := A) (l := l)
      rw [if_neg (fun x => h2 (hp.mp x)), if_neg h2, show (98 : Int32) = pzN 98 from rfl, e1]
      refine ⟨I2, A2, e2, ?_, pzFr_trans F1 F2⟩
      rw [if_neg h2] at U2
      rw [List.replicate_succ]
      simpa using U2
set_option maxRecDepth 10000 in
theorem pz_noM : ∀ t, t < 35 → pzNo t = (if 5 ≤ t / 5 then 65 + t / 5 - 5 else 67 + t / 5) :: List.replicate (pzSz t) (if 2 ≤ t % 5 then 35 else 98) ∧ (pzNo t).length ≤ 3 := by decide +kernel
set_option maxRecDepth 10000 in
theorem pz_showsNote {I : Nat → Int32} {A : Nat → Nat → Int32} {l : List Nat} (B : Nat → Nat → Int64) {t : Nat} (ht : t < 35) (h : pzU I A l) (hl : l.length ≤ 20) :
    ∃ I' A', fX9_showsNote B I A (pzN (t / 5)) (pzSg t) = some (I', A') ∧ pzU I' A' (l ++ pzNo t) ∧ pzFr I A I' A' := by
  have hz := pz_sz t ht
  rw [(pz_noM t ht).1]
  unfold fX9_showsNote
  by_cases h5 : 5 ≤ t / 5
  · obtain ⟨I1, A1, e1, U1, F1⟩ := pz_shows B h (by omega) (x := 65 + t / 5 - 5) (by omega)
    obtain ⟨I2, A2, e2, U2, F2⟩ := pz_signsIn B ht (pzSz t) 0 FU I1 A1 _ (by omega) (by unfold FU; omega) U1 (by rw [List.length_append]; simp; omega) (I := I) (A := A) (l := l)
    rw [if_pos (by rw [show (5 : Int32) = pzN 5 from rfl, pzN_le (by omega) (by omega)]; omega), show (65 : Int32) = pzN 65 from rfl, show (5 : Int32) = pzN 5 from rfl, pzN_add, pzN_sub (by omega), e1, if_pos h5]
    exact ⟨I2, A2, e2, by simpa using U2, pzFr_trans F1 F2⟩
  · obtain ⟨I1, A1, e1, U1, F1⟩ := pz_shows B h (by omega) (x := 67 + t / 5) (by omega)
    obtain ⟨I2, A2, e2, U2, F2⟩ := pz_signsIn B ht (pzSz t) 0 FU I1 A1 _ (by omega) (by unfold FU; omega) U1 (by rw [List.length_append]; simp; omega) (I := I) (A := A) (l := l)
    rw [if_neg (by rw [show (5 : Int32) = pzN 5 from rfl, pzN_le (by omega) (by omega)]; omega), show (67 : Int32) = pzN 67 from rfl, pzN_add, e1, if_neg h5]
    exact ⟨I2, A2, e2, by simpa using U2, pzFr_trans F1 F2⟩
def pzBw (n : Nat) : List Nat := pzSel false n (pzStr 0) 0
def pzBwd (n : Nat) : Int64 := if n = 20 then 63 else BM 19 n
set_option maxRecDepth 10000 in
theorem pz_bw : ∀ n, n < 21 → fX9_lengthOf (pzBwd n) = some (pzN (pzBw n).length) ∧ (pzBw n).length ≤ 5 ∧ ∀ k, k < (pzBw n).length → fX9_byteOf (pzBwd n) (pzN k) = some (pzN ((pzBw n).getD k 0)) ∧ (pzBw n).getD k 0 < 128 := by decide +kernel
def pzShow (t n b : Nat) : List Nat := pzNo t ++ pzBw n ++ (if pzPi b = pzPi t then [] else 47 :: pzNo b)
set_option maxRecDepth 10000 in
theorem pz_no128 : ∀ t, t < 35 → ∀ x, x ∈ pzNo t → x < 128 := by
  have h : ∀ t, t < 35 → (pzNo t).all (fun x => x < 128) = true := by decide +kernel
  intro t ht x hx
  have := List.all_eq_true.mp (h t ht) x hx
  simpa using this
set_option maxRecDepth 10000 in
theorem pz_bw128 : ∀ n, n < 21 → ∀ x, x ∈ pzBw n → x < 128 := by
  have h : ∀ t, t < 21 → (pzBw t).all (fun x => x < 128) = true := by decide +kernel
  intro t ht x hx
  have := List.all_eq_true.mp (h t ht) x hx
  simpa using this
set_option maxRecDepth 10000 in
theorem pz_show_ok {t n b : Nat} (ht : t < 35) (hn : n < 21) (hb : b < 35) : (pzShow t n b).length ≤ 12 ∧ ∀ x, x ∈ pzShow t n b → x < 128 := by
  have h1 := (pz_noM t ht).2
  have h2 := (pz_noM b hb).2
  have h3 := (pz_bw n hn).2.1
  unfold pzShow
  constructor
  · rw [List.length_append, List.length_append]
    split
    · simp; omega
    · rw [List.length_cons]; omega
  · intro x hx
    rw [List.mem_append, List.mem_append] at hx
    rcases hx with (hx | hx) | hx
    · exact pz_no128 t ht x hx
    · exact pz_bw128 n hn x hx
    · split at hx
      · simp at hx
      · rw [List.mem_cons] at hx
        rcases hx with hx | hx
        · omega
        · exact pz_no128 b hb x hx
set_option maxRecDepth 10000 in
theorem pz_cshow {t n b : Nat} (ht : t < 35) (hn : n < 21) (hb : b < 35) (nC : Nat) (ck J : Nat → Nat → Int32) (E : Nat → Nat → Nat → Int32) (L : Nat → Int64) :
    ∃ I A, fX8_show nC ck J E L (pzN t) (pzN n) (pzN b) = some (pzN (pzShow t n b).length, va_up J 4 I, va_up E 4 A, L) ∧ pzT I A (pzShow t n b) := by
  have h1 := (pz_noM t ht).2
  have h2 := (pz_noM b hb).2
  have h3 := (pz_bw n hn).2.1
  unfold fX8_show fX6_clear
  have T0 : pzT (upd (J 4) 1 0) (E 4) [] := ⟨by rw [pz_upd_eq]; rfl, fun k hk => by simp at hk⟩
  obtain ⟨I1, A1, e1, T1⟩ := pz_addNote ht T0 (by simp; omega)
  obtain ⟨I2, A2, e2, T2⟩ := pz_addWord (i := 0) (by omega) (n := n) (by omega) false T1 (by rw [List.length_append, List.length_nil]; unfold pzBw at h3; omega)
  rw [show pzSm false = 0 from rfl] at e2
  rw [Option.bind_some]
  simp only [e1, Option.bind_some, e2, pz_pitch b hb, pz_pitch t ht]
  rw [List.nil_append] at T2
  have p1 := pzPi_lt b
  have p2 := pzPi_lt t
  unfold pzShow
  by_cases hp : pzPi b = pzPi t
  · rw [if_pos (by rw [hp]), if_pos hp, List.append_nil]
    exact ⟨I2, A2, by rw [T2.1]; rfl, T2⟩
  · have hl : (pzNo t ++ pzBw n).length < 12 := by rw [List.length_append]; omega
    obtain ⟨I3, A3, e3, T3⟩ := pz_add T2 hl 47
    obtain ⟨I4, A4, e4, T4⟩ := pz_addNote hb T3 (by rw [List.length_append, List.length_append, List.length_cons, List.length_nil]; unfold pzBw at h3; omega)
    rw [if_neg (by rw [pzN_inj (by omega) (by omega)]; exact hp), if_neg hp, show (47 : Int32) = pzN 47 from rfl]
    simp only [e3, Option.bind_some, e4]
    have e : pzNo t ++ pzSel false n (pzStr 0) 0 ++ [47] ++ pzNo b = pzNo t ++ pzBw n ++ 47 :: pzNo b := by unfold pzBw; simp
    rw [e] at T4
    exact ⟨I4, A4, by rw [T4.1], T4⟩
set_option maxRecDepth 10000 in
theorem pz_writes {A : Nat → Nat → Int32} {I : Nat → Int32} {c t s b z : Nat} (hc : c < 100) (h : pzC A c t s b z) (hB : pzB A) :
    ∃ I' A', fX9_writes BM I A (pzN c) = some (I', A') ∧ pzU I' A' (pzShow t (pzBn s) b) ∧ pzFr I A I' A' := by
  have hbo := pz_bodyOf BM I hc h hB
  obtain ⟨ht, hb, hs, hz, a0, a1, a2, a3, a4, a5, ar⟩ := id h
  have hn := pzBn_le s
  have h1 := (pz_noM t ht).2
  have h2 := (pz_noM b hb).2
  have h3 := (pz_bw (pzBn s) (by omega)).2.1
  unfold fX9_writes
  simp only [show (5 : Int32) = pzN 5 from rfl, show (1 : Int32) = pzN 1 from rfl, pzN_mul, pzN_add]
  rw [hbo, Option.bind_some, pz_gd2 (by omega) (by omega), pz_gd2 (by omega) (by omega), pzN_clamp (by omega), pzN_clamp (by omega), a0, a1]
  have U0 : pzU (upd I 8 0) A [] := ⟨by rw [pz_upd_eq]; rfl, fun k hk => by simp at hk⟩
  have F0 : pzFr I A (upd I 8 0) A := ⟨fun j hj => pz_upd_ne _ _ hj, fun _ _ => rfl⟩
  obtain ⟨I1, A1, e1, U1, F1⟩ := pz_showsNote BM ht U0 (by simp)
  obtain ⟨I2, A2, e2, U2, F2⟩ := pz_showsWord BM (wd := pzBwd (pzBn s)) (pz_bw (pzBn s) (by omega)).1 (pz_bw (pzBn s) (by omega)).2.2 U1 (by omega) (by simp; omega)
  have F3 := pzFr_trans F0 (pzFr_trans F1 F2)
  have hC2 := pzC_congr h (F3.2 2 (by decide)) (F3.2 3 (by decide)) (F3.2 4 (by decide)) (F3.2 5 (by decide))
  rw [List.nil_append] at U2
  have key : ∃ I' A', fX9_writes_52 BM I1 A1 (pzN c) (pzN (5 * c)) (pzBwd (pzBn s)) = some (I', A') ∧ pzU I' A' (pzShow t (pzBn s) b) ∧ pzFr I A I' A' := by
    unfold fX9_writes_52
    simp only [e2, Option.bind_some, pz_root BM I2 hc hC2, pz_bass BM I2 hc hC2]
    have p1 := pzPi_lt b
    have p2 := pzPi_lt t
    unfold pzShow
    by_cases hp : pzPi b = pzPi t
    · rw [if_pos (by rw [hp]), if_pos hp, List.append_nil]
      exact ⟨I2, A2, rfl, U2, F3⟩
    · rw [if_neg (by rw [pzN_inj (by omega) (by omega)]; exact hp), if_neg hp, show (47 : Int32) = pzN 47 from rfl]
      obtain ⟨I4, A4, e4, U4, F4⟩ := pz_shows BM U2 (by rw [List.length_append]; omega) (x := 47) (by omega)
      obtain ⟨I5, A5, e5, U5, F5⟩ := pz_showsNote BM hb U4 (by rw [List.length_append, List.length_append, List.length_cons, List.length_nil]; omega)
      have q2 : A4 2 = A 2 := (F4.2 2 (by decide)).trans (F3.2 2 (by decide))
      simp only [e4, Option.bind_some]
      simp only [show (2 : Int32) = pzN 2 from rfl, show (3 : Int32) = pzN 3 from rfl, pzN_add]
      rw [pz_gd2 (by omega) (by omega), pz_gd2 (by omega) (by omega), pzN_clamp (by omega), pzN_clamp (by omega), q2, a2, a3, e5]
      refine ⟨I5, A5, rfl, ?_, pzFr_trans F3 (pzFr_trans F4 F5)⟩
      simpa using U5
  simp only [e1, Option.bind_some]
  by_cases hlt : pzBn s < 20
  · have hne : ¬ pzN (pzBn s) = -2 := by
      intro e
      have : pzN (pzBn s) < 0 := by rw [e]; decide
      exact (pzN_not_neg (by omega)).mp this
    rw [if_pos hlt, if_neg hne, pz_gd2 (by omega) (by omega), pzN_clamp (by omega)]
    have : pzBwd (pzBn s) = BM 19 (pzBn s) := by unfold pzBwd; rw [if_neg (by omega)]
    rw [this] at key
    exact key
  · rw [if_neg hlt, if_pos rfl]
    have : pzBwd (pzBn s) = 63 := by unfold pzBwd; rw [if_pos (by omega)]
    rw [this] at key
    exact key
set_option maxRecDepth 10000 in
theorem pz_text {c : CS} {u : MSt} (h : pzRel c u) {I : Nat → Int32} {A : Nat → Nat → Int32} {I' : Nat → Int32} {A' : Nat → Nat → Int32} {l : List Nat} (hT : pzT I A l) (hU : pzU I' A' l) (hF : pzFr u.1 u.2 I' A') (hl : l.length ≤ 12) (h128 : ∀ x, x ∈ l → x < 128) (L : Nat → Int64) :
    pzRel (c.1, c.2.1, va_up c.2.2.1 4 I, va_up c.2.2.2.1 4 A, L) (I', A') := by
  obtain ⟨r0, r1, r2, r3, r4, r5, r6⟩ := h
  unfold pzRel
  dsimp only
  rw [pz_va_ne _ _ (show 0 ≠ 4 by decide), pz_va_ne _ _ (show 1 ≠ 4 by decide), pz_va_ne _ _ (show 2 ≠ 4 by decide), pz_va_ne _ _ (show 3 ≠ 4 by decide), pz_va_eq, pz_va_ne _ _ (show 1 ≠ 4 by decide), pz_va_ne _ _ (show 2 ≠ 4 by decide), pz_va_ne _ _ (show 3 ≠ 4 by decide), pz_va_eq]
  rw [hF.1 6 (by decide), hF.1 1 (by decide), hF.1 10 (by decide), hF.1 12 (by decide), hF.2 0 (by decide), hF.2 9 (by decide), hF.2 11 (by decide)]
  refine ⟨pzR0_congr r0 (hF.2 2 (by decide)) (hF.2 3 (by decide)) (hF.2 4 (by decide)) (hF.2 5 (by decide)), r1, r2, r3, ?_, pzB_congr r5 (hF.2 13 (by decide)) (hF.2 14 (by decide)) (hF.2 15 (by decide)), r6⟩
  refine ⟨l.length, hl, hT.1, hU.1, fun k hk => ⟨by rw [hT.2 k hk, hU.2 k hk], l.getD k 0, h128 _ ?_, hU.2 k hk⟩⟩
  rw [pz_getD_get hk]
  exact List.getElem_mem hk
set_option maxRecDepth 10000 in
theorem pz_hS4 : hS4 pzRel := by
  intro c u x h
  have hB : pzB u.2 := h.2.2.2.2.2.1
  unfold cS4 mS4 fX8_write fX9_write
  rcases pz_at BM h x with ⟨i, t, s, b, z, hi, h100, rfl, hk, hc, e1, e2⟩ | ⟨e1, e2⟩
  · obtain ⟨ht, hb, hs, hz, a0, a1, a2, a3, a4, a5, ar⟩ := id hc
    obtain ⟨k0, k1, k2, k3⟩ := id hk
    have hn := pzBn_le s
    obtain ⟨I1, A1, g1, T1⟩ := pz_cshow ht (n := pzBn s) (by omega) hb c.1 c.2.1 c.2.2.1 c.2.2.2.1 c.2.2.2.2
    obtain ⟨I2, A2, g2, U2, F2⟩ := pz_writes (I := u.1) h100 hc hB
    obtain ⟨o1, o2⟩ := pz_show_ok ht (n := pzBn s) (by omega) hb
    refine ⟨pzN (pzShow t (pzBn s) b).length, _, (I2, A2), ?_, ?_, pz_text h T1 U2 F2 o1 o2 c.2.2.2.2⟩
    · rw [e2, pzN_clamp (by omega), k0, k2]
      unfold fX1_body
      rw [k1, pz_withSteps hs.1]
      simp only [Option.bind_some, g1]
    · rw [e1]
      simp only [Option.bind_some, g2]
      rw [if_neg (by decide), U2.1]
  · rw [e1, e2]
    exact ⟨-1, c, u, rfl, rfl, h⟩
