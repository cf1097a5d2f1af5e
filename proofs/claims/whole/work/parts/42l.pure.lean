/-! longs -/
def pzL64 (n : Nat) : Int64 := Int64.ofNat n
set_option maxRecDepth 10000 in
theorem pzL_bv (a : Nat) : (pzL64 a).toBitVec = BitVec.ofNat 64 a := Int64.toBitVec_ofNat'
set_option maxRecDepth 10000 in
theorem pzL_or (a b : Nat) : pzL64 a ||| pzL64 b = pzL64 (a ||| b) := by
  rw [← Int64.toBitVec_inj, Int64.toBitVec_or, pzL_bv, pzL_bv, pzL_bv, BitVec.ofNat_or]
set_option maxRecDepth 10000 in
theorem pzL_and (a b : Nat) : pzL64 a &&& pzL64 b = pzL64 (a &&& b) := by
  rw [← Int64.toBitVec_inj, Int64.toBitVec_and, pzL_bv, pzL_bv, pzL_bv, BitVec.ofNat_and]
set_option maxRecDepth 10000 in
theorem pzL_xor (a b : Nat) : pzL64 a ^^^ pzL64 b = pzL64 (a ^^^ b) := by
  rw [← Int64.toBitVec_inj, Int64.toBitVec_xor, pzL_bv, pzL_bv, pzL_bv, BitVec.ofNat_xor]
set_option maxRecDepth 10000 in
theorem pzL_smod : ∀ i, i < 64 → (((pzN i).toInt64 &&& 63).toBitVec.smod 64).toNat = i := by decide +kernel
set_option maxRecDepth 10000 in
theorem pzL_shl (a : Nat) {i : Nat} (h : i < 64) : pzL64 a <<< ((pzN i).toInt64 &&& 63) = pzL64 (a <<< i) := by
  rw [← Int64.toBitVec_inj, Int64.toBitVec_shiftLeft, pzL_bv a, pzL_bv (a <<< i), BitVec.shiftLeft_eq', pzL_smod i h]
  apply BitVec.eq_of_toNat_eq
  simp only [BitVec.toNat_shiftLeft, BitVec.toNat_ofNat]
  rw [Nat.shiftLeft_eq, Nat.shiftLeft_eq, Nat.mod_mul_mod]
set_option maxRecDepth 10000 in
theorem pzL_shr {a : Nat} (ha : a < 9223372036854775808) {i : Nat} (h : i < 64) : pzL64 a >>> ((pzN i).toInt64 &&& 63) = pzL64 (a >>> i) := by
  rw [← Int64.toBitVec_inj, Int64.toBitVec_shiftRight, pzL_bv a, pzL_bv (a >>> i), BitVec.sshiftRight', pzL_smod i h]
  have hm : (BitVec.ofNat 64 a).msb = false := by
    rw [BitVec.msb_eq_false_iff_two_mul_lt, BitVec.toNat_ofNat, Nat.mod_eq_of_lt (by omega)]
    omega
  rw [BitVec.sshiftRight_eq_of_msb_false hm]
  apply BitVec.eq_of_toNat_eq
  rw [BitVec.toNat_ushiftRight, BitVec.toNat_ofNat, BitVec.toNat_ofNat, Nat.mod_eq_of_lt (by omega), Nat.mod_eq_of_lt]
  exact Nat.lt_of_le_of_lt (Nat.shiftRight_le _ _) (by omega)
set_option maxRecDepth 10000 in
theorem pzL_inj {a b : Nat} (ha : a < 9223372036854775808) (hb : b < 9223372036854775808) : pzL64 a = pzL64 b ↔ a = b := by
  rw [← Int64.toBitVec_inj, pzL_bv, pzL_bv, ← BitVec.toNat_inj, BitVec.toNat_ofNat, BitVec.toNat_ofNat, Nat.mod_eq_of_lt (by omega), Nat.mod_eq_of_lt (by omega)]
set_option maxRecDepth 10000 in
theorem pz_lg (x : Int64) : (lg_cmp x 0 = 0) ↔ x = 0 := by
  unfold lg_cmp
  by_cases h : x = 0
  · subst h; simp
  · constructor
    · intro q
      by_cases h1 : x > 0
      · rw [if_pos h1] at q; cases q
      · rw [if_neg h1, if_neg h] at q; cases q
    · exact fun q => absurd q h
/-! the class's climb -/
def pzVb (N : Nat → Nat) (l0 L d p : Nat) : Nat := if l0.testBit p = true then (match pzCh N p L d with
  | none => 0
  | some j => N j) else 0
set_option maxRecDepth 10000 in
theorem pzVb_va {N : Nat → Nat} {l0 L d : Nat} (h : pzAl N l0 L d 12 = true) : pzSq (pzVb N l0 L d) 12 = pzSq (pzVa N l0 L d) 12 := by
  apply pzSq_congr
  intro p hp
  unfold pzVb pzVa
  by_cases hb : l0.testBit p = true
  · obtain ⟨j, hj⟩ := pzAl_iff.mp h p hp hb
    rw [if_pos hb, if_pos hb, hj]; rfl
  · rw [if_neg hb, if_neg hb]
def pzTk (N : Nat → Nat) (l0 low L d tk : Nat) : Prop := tk < 137438953472 ∧ ∀ x, x < 37 → (tk.testBit x = true ↔ low + x = L ∨ (l0.testBit ((low + x) % 12) = true ∧ pzCh N ((low + x) % 12) L d = some (low + x)))
def pzPr (bass low high L n L' d' : Nat) : Prop := L' % 12 = bass ∧ low ≤ L' ∧ L' + d' ≤ high ∧ (L' < L ∨ (L' = L ∧ d' < n))
def pzBt (N : Nat → Nat) (l0 bass low high : Nat) (b4 : Int64) (c5 : Int32) (L n : Nat) : Prop :=
  (b4 = 0 ∧ ∀ L' d', pzPr bass low high L n L' d' → pzAl N l0 L' d' 12 = false) ∨
  ∃ Ls ds tk, pzPr bass low high L n Ls ds ∧ pzAl N l0 Ls ds 12 = true ∧ b4 = pzL64 tk ∧ tk ≠ 0 ∧ pzTk N l0 low Ls ds tk ∧ c5 = pzN (pzCo N l0 Ls ds) ∧ ∀ L' d', pzPr bass low high L n L' d' → pzAl N l0 L' d' 12 = true → pzCo N l0 Ls ds ≤ pzCo N l0 L' d' ∧ (pzCo N l0 Ls ds = pzCo N l0 L' d' → Ls ≤ L' ∧ (Ls = L' → ds ≤ d'))
set_option maxRecDepth 10000 in
theorem pzPr_succ {bass low high L n L' d' : Nat} (h : pzPr bass low high L (n + 1) L' d') : pzPr bass low high L n L' d' ∨ (L' = L ∧ d' = n) := by
  obtain ⟨h1, h2, h3, h4⟩ := h
  rcases h4 with h4 | ⟨h4, h5⟩
  · exact Or.inl ⟨h1, h2, h3, Or.inl h4⟩
  · by_cases e : d' = n
    · exact Or.inr ⟨h4, e⟩
    · exact Or.inl ⟨h1, h2, h3, Or.inr ⟨h4, by omega⟩⟩
set_option maxRecDepth 10000 in
theorem pzPr_up {bass low high L n L' d' : Nat} (h : pzPr bass low high L n L' d') : pzPr bass low high L (n + 1) L' d' := by
  obtain ⟨h1, h2, h3, h4⟩ := h
  exact ⟨h1, h2, h3, by omega⟩
set_option maxRecDepth 10000 in
/-- a pair that has no voicing -/
theorem pzBt_no {N : Nat → Nat} {l0 bass low high : Nat} {b4 : Int64} {c5 : Int32} {L n : Nat} (h : pzBt N l0 bass low high b4 c5 L n) (ha : pzAl N l0 L n 12 = false) : pzBt N l0 bass low high b4 c5 L (n + 1) := by
  rcases h with ⟨h1, h2⟩ | ⟨Ls, ds, tk, h1, h2, h3, h4, h5, h6, h7⟩
  · refine Or.inl ⟨h1, fun L' d' hp => ?_⟩
    rcases pzPr_succ hp with q | ⟨rfl, rfl⟩
    · exact h2 L' d' q
    · exact ha
  · refine Or.inr ⟨Ls, ds, tk, pzPr_up h1, h2, h3, h4, h5, h6, fun L' d' hp hal => ?_⟩
    rcases pzPr_succ hp with q | ⟨rfl, rfl⟩
    · exact h7 L' d' q hal
    · rw [ha] at hal; cases hal
set_option maxRecDepth 10000 in
/-- a pair whose keys are those of the pair before -/
theorem pzBt_same {N : Nat → Nat} {l0 bass low high : Nat} {b4 : Int64} {c5 : Int32} {L n : Nat} (h : pzBt N l0 bass low high b4 c5 L (n + 1)) (hL : L % 12 = bass) (hlow : low ≤ L) (hh : L + n ≤ high) (ha : pzAl N l0 L (n + 1) 12 = pzAl N l0 L n 12) (hc : pzCo N l0 L (n + 1) = pzCo N l0 L n + 1) : pzBt N l0 bass low high b4 c5 L (n + 1 + 1) := by
  cases hal : pzAl N l0 L (n + 1) 12 with
  | false => exact pzBt_no h hal
  | true =>
    rw [ha] at hal
    have hpr : pzPr bass low high L (n + 1) L n := ⟨hL, hlow, hh, Or.inr ⟨rfl, by omega⟩⟩
    rcases h with ⟨h1, h2⟩ | ⟨Ls, ds, tk, h1, h2, h3, h4, h5, h6, h7⟩
    · have := h2 L n hpr
      rw [hal] at this; cases this
    · refine Or.inr ⟨Ls, ds, tk, pzPr_up h1, h2, h3, h4, h5, h6, fun L' d' hp hal' => ?_⟩
      rcases pzPr_succ hp with q | ⟨rfl, rfl⟩
      · exact h7 L' d' q hal'
      · have := (h7 L' n hpr hal).1
        rw [hc]
        exact ⟨by omega, fun q => by omega⟩
set_option maxRecDepth 10000 in
theorem pz_offer {N : Nat → Nat} {l0 bass low high : Nat} {I : Nat → Int32} {Lg : Nat → Int64} (A : Nat → Nat → Int32) {L n tk : Nat} (h : pzBt N l0 bass low high (Lg 4) (I 5) L n) (hL : L % 12 = bass) (hlow : low ≤ L) (hh : L + n ≤ high) (hh7 : high < 128) (ha : pzAl N l0 L n 12 = true) (hN : ∀ k, k < 128 → N k ≤ 127) (ht : pzTk N l0 low L n tk) (hl36 : high - low ≤ 36) :
    ∃ I' Lg', fX7_offer I Lg A (pzL64 tk) (pzN (pzCo N l0 L n)) = some (I', Lg', A) ∧ pzBt N l0 bass low high (Lg' 4) (I' 5) L (n + 1) ∧ (∀ j, j ≠ 5 → I' j = I j) := by
  have cb : ∀ L' d', L' + d' ≤ high → pzCo N l0 L' d' ≤ 2000 := by
    intro L' d' hq
    have := pz_vaB hN (left := l0) (a := L') (d := d') (by omega)
    have := hN L' (by omega)
    unfold pzCo; omega
  have hpr : pzPr bass low high L (n + 1) L n := ⟨hL, hlow, hh, Or.inr ⟨rfl, by omega⟩⟩
  have tk0 : tk ≠ 0 := by
    intro q
    have := (ht.2 (L - low) (by omega)).mpr (Or.inl (by omega))
    rw [q, Nat.zero_testBit] at this; cases this
  -- taken over
  have take : (∀ L' d', pzPr bass low high L n L' d' → pzAl N l0 L' d' 12 = true → pzCo N l0 L n < pzCo N l0 L' d') → ∃ I' Lg', fX7_offer_17 I Lg A (pzL64 tk) (pzN (pzCo N l0 L n)) = some (I', Lg', A) ∧ pzBt N l0 bass low high (Lg' 4) (I' 5) L (n + 1) ∧ (∀ j, j ≠ 5 → I' j = I j) := by
    intro hlt
    refine ⟨_, _, rfl, ?_, fun j hj => pz_upd_ne _ _ hj⟩
    rw [pz_upd_eq, show vp_updL Lg 4 (pzL64 tk) 4 = pzL64 tk from by simp [vp_updL]]
    refine Or.inr ⟨L, n, tk, hpr, ha, rfl, tk0, ht, rfl, fun L' d' hp hal => ?_⟩
    rcases pzPr_succ hp with q | ⟨rfl, rfl⟩
    · have := hlt L' d' q hal
      exact ⟨by omega, fun q => by omega⟩
    · exact ⟨Nat.le_refl _, fun _ => ⟨Nat.le_refl _, fun _ => Nat.le_refl _⟩⟩
  unfold fX7_offer
  rcases h with ⟨h1, h2⟩ | ⟨Ls, ds, tks, h1, h2, h3, h4, h5, h6, h7⟩
  · rw [if_pos ((pz_lg _).mpr h1)]
    apply take
    intro L' d' hp hal
    rw [h2 L' d' hp] at hal; cases hal
  · have hne : ¬ lg_cmp (Lg 4) 0 = 0 := by
      rw [pz_lg, h3]
      intro q
      exact h4 ((pzL_inj (a := tks) (b := 0) (by have := h5.1; omega) (by omega)).mp q)
    have c1 := cb L n hh
    have c2 := cb Ls ds h1.2.2.1
    rw [if_neg hne, h6]
    by_cases hc : pzCo N l0 Ls ds ≤ pzCo N l0 L n
    · rw [if_pos (by rw [pzN_le (by omega) (by omega)]; exact hc)]
      refine ⟨I, Lg, rfl, Or.inr ⟨Ls, ds, tks, pzPr_up h1, h2, h3, h4, h5, h6, fun L' d' hp hal => ?_⟩, fun _ _ => rfl⟩
      rcases pzPr_succ hp with q | ⟨rfl, rfl⟩
      · exact h7 L' d' q hal
      · refine ⟨hc, fun _ => ?_⟩
        obtain ⟨_, _, _, z⟩ := h1
        omega
    · rw [if_neg (by rw [pzN_le (by omega) (by omega)]; exact hc)]
      apply take
      intro L' d' hp hal
      have := (h7 L' d' hp hal).1
      omega
/-- the climb, once the keys up to L + d are looked at -/
def pzCl (N : Nat → Nat) (l0 low L d : Nat) (A : Nat → Nat → Int32) (ms fa tk : Nat) : Prop :=
  ms < 4096 ∧ (∀ p, p < 12 → (ms.testBit p = true ↔ l0.testBit p = true ∧ pzCh N p L d = none)) ∧ (∀ p j, p < 12 → l0.testBit p = true → pzCh N p L d = some j → A 3 p = pzN j) ∧ fa = N L + pzSq (pzVb N l0 L d) 12 ∧ pzTk N l0 low L d tk
set_option maxRecDepth 10000 in
theorem pzCl_al {N : Nat → Nat} {l0 low L d : Nat} {A : Nat → Nat → Int32} {ms fa tk : Nat} (h : pzCl N l0 low L d A ms fa tk) : ms = 0 ↔ pzAl N l0 L d 12 = true := by
  obtain ⟨h1, h2, _⟩ := h
  rw [pzAl_iff]
  constructor
  · intro hz p hp hb
    cases hc : pzCh N p L d with
    | none =>
      have := (h2 p hp).mpr ⟨hb, hc⟩
      rw [hz, Nat.zero_testBit] at this; cases this
    | some j => exact ⟨j, rfl⟩
  · intro hal
    apply pz_left0 h1
    intro p hp hb
    obtain ⟨q1, q2⟩ := (h2 p hp).mp hb
    obtain ⟨j, hj⟩ := hal p hp q1
    rw [q2] at hj; cases hj
set_option maxRecDepth 10000 in
theorem pzCh_skip {N : Nat → Nat} {p L d : Nat} (h : (L + d + 1) % 12 ≠ p) : pzCh N p L (d + 1) = pzCh N p L d := by
  show (if (L + d + 1) % 12 = p then _ else pzCh N p L d) = _
  rw [if_neg h]
set_option maxRecDepth 10000 in
theorem pzCl_same {N : Nat → Nat} {l0 low L d : Nat} {A : Nat → Nat → Int32} {ms fa tk : Nat} (h : pzCl N l0 low L d A ms fa tk) (hs : ∀ p, p < 12 → l0.testBit p = true → pzCh N p L (d + 1) = pzCh N p L d) : pzCl N l0 low L (d + 1) A ms fa tk ∧ pzAl N l0 L (d + 1) 12 = pzAl N l0 L d 12 ∧ (pzCo N l0 L (d + 1) = pzCo N l0 L d + 1) := by
  obtain ⟨h1, h2, h3, h4, h5, h6⟩ := id h
  have hal : pzAl N l0 L (d + 1) 12 = pzAl N l0 L d 12 := by
    rw [Bool.eq_iff_iff, pzAl_iff, pzAl_iff]
    exact ⟨fun q p hp hb => by rw [← hs p hp hb]; exact q p hp hb, fun q p hp hb => by rw [hs p hp hb]; exact q p hp hb⟩
  refine ⟨⟨h1, fun p hp => ?_, fun p j hp hb hc => ?_, ?_, h5, fun x hx => ?_⟩, hal, ?_⟩
  · rw [h2 p hp]
    exact ⟨fun q => ⟨q.1, by rw [hs p hp q.1]; exact q.2⟩, fun q => ⟨q.1, by rw [← hs p hp q.1]; exact q.2⟩⟩
  · rw [hs p hp hb] at hc
    exact h3 p j hp hb hc
  · rw [h4]
    congr 1
    apply pzSq_congr
    intro p hp
    unfold pzVb
    by_cases hb : l0.testBit p = true
    · rw [if_pos hb, if_pos hb, hs p hp hb]
    · rw [if_neg hb, if_neg hb]
  · rw [h6 x hx]
    have h12 : (low + x) % 12 < 12 := Nat.mod_lt _ (by omega)
    constructor
    · rintro (q | ⟨q1, q2⟩)
      · exact Or.inl q
      · exact Or.inr ⟨q1, by rw [hs _ h12 q1]; exact q2⟩
    · rintro (q | ⟨q1, q2⟩)
      · exact Or.inl q
      · exact Or.inr ⟨q1, by rw [← hs _ h12 q1]; exact q2⟩
  · unfold pzCo
    have : pzSq (pzVa N l0 L (d + 1)) 12 = pzSq (pzVa N l0 L d) 12 := by
      apply pzSq_congr
      intro p hp
      unfold pzVa
      by_cases hb : l0.testBit p = true
      · rw [if_pos hb, if_pos hb, hs p hp hb]
      · rw [if_neg hb, if_neg hb]
    omega
set_option maxRecDepth 10000 in
theorem pz_andBit {s p : Nat} (hs : s < 4096) (hp : p < 12) : (pzN s &&& pzN (1 <<< p) = 0) ↔ ¬ s.testBit p = true := by
  have hlt : s &&& 1 <<< p < 2147483648 := Nat.lt_of_le_of_lt Nat.and_le_left (by omega)
  rw [pzN_and, show (0 : Int32) = pzN 0 from rfl, pzN_inj hlt (by omega), Nat.one_shiftLeft]
  constructor
  · intro h hb
    have := congrArg (fun x => x.testBit p) h
    simp only [Nat.testBit_and, Nat.testBit_two_pow, Nat.zero_testBit] at this
    rw [hb] at this
    simp at this
  · intro h
    apply Nat.eq_of_testBit_eq
    intro j
    rw [Nat.testBit_and, Nat.testBit_two_pow, Nat.zero_testBit]
    by_cases e : p = j
    · subst e; simp only [Bool.not_eq_true] at h; rw [h]; rfl
    · simp [e]
set_option maxRecDepth 10000 in
/-- a key is taken -/
theorem pzCl_chg {N : Nat → Nat} {l0 low high L d bass : Nat} {A : Nat → Nat → Int32} {ms fa tk : Nat} (h : pzCl N l0 low L d A ms fa tk) (hL : L % 12 = bass) (hbass : l0.testBit bass = false) (hlow : low ≤ L) (hh : L + d + 1 ≤ high) (h36 : high - low ≤ 36) (hb : l0.testBit ((L + d + 1) % 12) = true)
    (hn : pzCh N ((L + d + 1) % 12) L (d + 1) = some (L + d + 1)) {tk2 va : Nat} (htk : match pzCh N ((L + d + 1) % 12) L d with | none => tk2 = tk ∧ va = 0 | some j => tk2 = tk ^^^ 1 <<< (j - low) ∧ va = N j) :
    va ≤ fa ∧ pzCl N l0 low L (d + 1) (va_up A 3 (upd (A 3) ((L + d + 1) % 12) (pzN (L + d + 1)))) (pzOff ms ((L + d + 1) % 12)) (fa - va + N (L + d + 1)) (tk2 ||| 1 <<< (L + d + 1 - low)) := by
  obtain ⟨h1, h2, h3, h4, h5, h6⟩ := h
  have hp12 : (L + d + 1) % 12 < 12 := Nat.mod_lt _ (by omega)
  obtain ⟨_, o2, o3⟩ := pz_off h1 hp12
  have hsk : ∀ q, q ≠ (L + d + 1) % 12 → pzCh N q L (d + 1) = pzCh N q L d := fun q hq => pzCh_skip (fun e => hq e.symm)
  generalize hp : (L + d + 1) % 12 = p at *
  -- the sums
  have hval : pzVb N l0 L d p = va := by
    unfold pzVb
    rw [if_pos hb]
    cases hc : pzCh N p L d with
    | none => rw [hc] at htk; exact htk.2.symm
    | some j => rw [hc] at htk; exact htk.2.symm
  have hpt : ∀ q, q < 12 → pzVb N l0 L (d + 1) q + (if q = p then va else 0) = pzVb N l0 L d q + (if q = p then N (L + d + 1) else 0) := by
    intro q hq
    by_cases e : q = p
    · subst e
      rw [if_pos rfl, if_pos rfl, hval]
      have : pzVb N l0 L (d + 1) q = N (L + d + 1) := by unfold pzVb; rw [if_pos hb, hn]
      rw [this]; omega
    · rw [if_neg e, if_neg e]
      congr 1
      unfold pzVb
      rw [hsk q e]
  have hsum := pzSq_congr 12 hpt
  rw [pzSq_add (pzVb N l0 L (d + 1)) (fun q => if q = p then va else 0) 12, pzSq_add (pzVb N l0 L d) (fun q => if q = p then N (L + d + 1) else 0) 12, pzSq_single, pzSq_single, if_pos hp12, if_pos hp12] at hsum
  have hva : va ≤ pzSq (pzVb N l0 L d) 12 := by
    have : pzSq (fun q => if q = p then va else 0) 12 ≤ pzSq (pzVb N l0 L d) 12 := by
      apply pzSq_le
      intro q hq
      by_cases e : q = p
      · rw [if_pos e, e, hval]; exact Nat.le_refl _
      · rw [if_neg e]; omega
    rw [pzSq_single, if_pos hp12] at this
    exact this
  refine ⟨by omega, o2, fun q hq => ?_, fun q j hq hbq hc => ?_, by omega, ?_, fun x hx => ?_⟩
  · rw [o3 q hq, h2 q hq]
    by_cases e : q = p
    · subst e
      exact ⟨fun z => absurd rfl z.2, fun z => by rw [hn] at z; cases z.2⟩
    · rw [hsk q e]
      exact ⟨fun z => z.1, fun z => ⟨z, e⟩⟩
  · rw [pz_va_eq]
    by_cases e : q = p
    · subst e
      rw [hn] at hc
      rw [pz_upd_eq, ← Option.some.inj hc]
    · rw [hsk q e] at hc
      rw [pz_upd_ne _ _ e]
      exact h3 q j hq hbq hc
  · -- bounds
    have b1 : 1 <<< (L + d + 1 - low) < 2 ^ 37 := by
      rw [Nat.one_shiftLeft]
      exact Nat.pow_lt_pow_right (by omega) (by omega)
    have b2 : tk2 < 2 ^ 37 := by
      cases hc : pzCh N p L d with
      | none => rw [hc] at htk; rw [htk.1]; exact h5
      | some j =>
        rw [hc] at htk
        have hj := pzCh_some hc
        rw [htk.1]
        apply Nat.xor_lt_two_pow h5
        rw [Nat.one_shiftLeft]
        exact Nat.pow_lt_pow_right (by omega) (by omega)
    exact Nat.or_lt_two_pow b2 b1
  · rw [Nat.testBit_or, Nat.one_shiftLeft, Nat.testBit_two_pow, Bool.or_eq_true, decide_eq_true_eq]
    by_cases e : (low + x) % 12 = p
    · -- the pitch itself
      have hxL : low + x ≠ L := fun q => by rw [← e, q, hL, hbass] at hb; cases hb
      rw [e, hn]
      have hold : ¬ tk2.testBit x = true := by
        cases hc : pzCh N p L d with
        | none =>
          rw [hc] at htk
          rw [htk.1, h6 x hx, e, hc]
          rintro (q | ⟨_, q⟩)
          · exact hxL q
          · cases q
        | some j =>
          rw [hc] at htk
          have hj := pzCh_some hc
          rw [htk.1, Nat.testBit_xor, Nat.one_shiftLeft, Nat.testBit_two_pow]
          by_cases ex : j - low = x
          · have : tk.testBit x = true := by
              rw [h6 x hx, e, hc]
              exact Or.inr ⟨hb, by congr 1; omega⟩
            rw [this, decide_eq_true ex]; decide
          · have : tk.testBit x = false := by
              have : ¬ tk.testBit x = true := by
                rw [h6 x hx, e, hc]
                rintro (q | ⟨_, q⟩)
                · exact hxL q
                · have := Option.some.inj q; omega
              simpa using this
            rw [this, decide_eq_false ex]; decide
      constructor
      · rintro (q | q)
        · exact absurd q hold
        · exact Or.inr ⟨hb, by congr 1; omega⟩
      · rintro (q | ⟨_, q⟩)
        · exact absurd q hxL
        · have := Option.some.inj q
          exact Or.inr (by omega)
    · have hsame : tk2.testBit x = tk.testBit x := by
        cases hc : pzCh N p L d with
        | none => rw [hc] at htk; rw [htk.1]
        | some j =>
          rw [hc] at htk
          have hj := pzCh_some hc
          have ex : ¬ j - low = x := fun q => e (by rw [← q, show low + (j - low) = j by omega]; exact hj.2.2.1)
          rw [htk.1, Nat.testBit_xor, Nat.one_shiftLeft, Nat.testBit_two_pow, decide_eq_false ex, Bool.xor_false]
      rw [hsame, h6 x hx, hsk _ e]
      constructor
      · rintro (q | q)
        · exact q
        · exact absurd (by rw [← q, show low + (L + d + 1 - low) = L + d + 1 by omega]; exact hp) e
      · exact fun q => Or.inl q
set_option maxRecDepth 10000 in
theorem pz_entry2 {A : Nat → Nat → Int32} {N : Nat → Nat} {low high k : Nat} (hA : ∀ k, low ≤ k → k ≤ high → A 2 k = pzN (N k)) (h1 : low ≤ k) (h2 : k ≤ high) (hh : high < 128) : fX8_entry 128 (A 2) (pzN k) = some (pzN (N k)) := by
  unfold fX8_entry
  rw [if_neg (fun q => (pzN_not_neg (by omega)).mp q), show Int32.ofNat 128 = pzN 128 from rfl, if_neg (by rw [pzN_le (by omega) (by omega)]; omega), pz_gd2 (by omega) (by omega), pzN_clamp (by omega), hA k h1 h2]
set_option maxRecDepth 10000 in
theorem pz_climb {N : Nat → Nat} {set l0 bass low high L : Nat} (hset : set < 4096) (hl0 : ∀ p, p < 12 → (l0.testBit p = true ↔ set.testBit p = true ∧ p ≠ bass)) (hL : L % 12 = bass) (hbass : l0.testBit bass = false) (hlow : low ≤ L) (hh : high < 128) (h36 : high - low ≤ 36) (hN : ∀ k, k < 128 → N k ≤ 127) :
    ∀ e d f (I : Nat → Int32) (Lg : Nat → Int64) (A : Nat → Nat → Int32) ms fa tk, L + d + 1 + e = high + 1 → e < f → pzCl N l0 low L d A ms fa tk → pzBt N l0 bass low high (Lg 4) (I 5) L (d + 1) → (∀ k, low ≤ k → k ≤ high → A 2 k = pzN (N k)) →
    ∃ I' Lg' A', fX7_climb_12 f I Lg A (pzN set) (pzN L) (pzN low) (pzN high) (pzN ms) (pzN fa) (pzL64 tk) (pzN (L + d + 1)) = some (I', Lg', A') ∧ pzBt N l0 bass low high (Lg' 4) (I' 5) L (high + 1 - L) ∧ (∀ j, j ≠ 5 → I' j = I j) ∧ ∀ j, j ≠ 3 → A' j = A j
  | e, d, 0, I, Lg, A, ms, fa, tk, _, hf, _, _, _ => by omega
  | 0, d, f + 1, I, Lg, A, ms, fa, tk, he, hf, hC, hT, hA => by
    show ∃ I' Lg' A', fX7_climb_12B (fX7_climb_12 f) I Lg A (pzN set) (pzN L) (pzN low) (pzN high) (pzN ms) (pzN fa) (pzL64 tk) (pzN (L + d + 1)) = _ ∧ _
    unfold fX7_climb_12B
    rw [if_pos (by rw [pzN_lt (by omega) (by omega)]; omega)]
    refine ⟨I, Lg, A, rfl, ?_, fun _ _ => rfl, fun _ _ => rfl⟩
    rw [show high + 1 - L = d + 1 by omega]
    exact hT
  | e + 1, d, f + 1, I, Lg, A, ms, fa, tk, he, hf, hC, hT, hA => by
    obtain ⟨h1, h2, h3, h4, h5, h6⟩ := id hC
    have hp12 : (L + d + 1) % 12 < 12 := Nat.mod_lt _ (by omega)
    have hb12 : bass < 12 := by omega
    have ih := fun I Lg A ms fa tk => pz_climb hset hl0 hL hbass hlow hh h36 hN e (d + 1) f I Lg A ms fa tk (by omega) (by omega)
    have e132 : pzN 1 <<< (pzN ((L + d + 1) % 12) &&& 31) = pzN (1 <<< ((L + d + 1) % 12)) := pzN_shl 1 (by omega)
    obtain ⟨o1, o2, o3⟩ := pz_off h1 hp12
    -- nothing changes
    have skip : (∀ p, p < 12 → l0.testBit p = true → pzCh N p L (d + 1) = pzCh N p L d) → ∃ I' Lg' A', fX7_climb_12 f I Lg A (pzN set) (pzN L) (pzN low) (pzN high) (pzN ms) (pzN fa) (pzL64 tk) (pzN (L + d + 1 + 1)) = some (I', Lg', A') ∧ pzBt N l0 bass low high (Lg' 4) (I' 5) L (high + 1 - L) ∧ (∀ j, j ≠ 5 → I' j = I j) ∧ ∀ j, j ≠ 3 → A' j = A j := by
      intro hs
      obtain ⟨c1, c2, c3⟩ := pzCl_same hC hs
      exact ih I Lg A ms fa tk c1 (pzBt_same hT hL hlow (by omega) c2 c3) hA
    -- a key is taken
    have chg : ∀ tk2 va, l0.testBit ((L + d + 1) % 12) = true → pzCh N ((L + d + 1) % 12) L (d + 1) = some (L + d + 1) → (match pzCh N ((L + d + 1) % 12) L d with | none => tk2 = tk ∧ va = 0 | some j => tk2 = tk ^^^ 1 <<< (j - low) ∧ va = N j) → ∃ I' Lg' A', fX7_climb_137 (fX7_climb_12 f) I Lg A (pzN set) (pzN L) (pzN low) (pzN high) (pzN ms) (pzN (fa - va)) (pzL64 tk2) (pzN (L + d + 1)) (pzN ((L + d + 1) % 12)) (pzN (1 <<< ((L + d + 1) % 12))) = some (I', Lg', A') ∧ pzBt N l0 bass low high (Lg' 4) (I' 5) L (high + 1 - L) ∧ (∀ j, j ≠ 5 → I' j = I j) ∧ ∀ j, j ≠ 3 → A' j = A j := by
      intro tk2 va hb hn htk
      obtain ⟨g1, g2⟩ := pzCl_chg hC hL hbass hlow (show L + d + 1 ≤ high by omega) h36 hb hn htk
      have hA2 : ∀ k, low ≤ k → k ≤ high → (va_up A 3 (upd (A 3) ((L + d + 1) % 12) (pzN (L + d + 1)))) 2 k = pzN (N k) := by rw [pz_va_ne _ _ (by decide)]; exact hA
      have hal := pzCl_al g2
      unfold fX7_climb_137
      have o1' : pzN ms &&& (pzN (1 <<< ((L + d + 1) % 12)) ^^^ (-1)) = pzN (pzOff ms ((L + d + 1) % 12)) := by
        rw [← o1, show (1 : Int32) = pzN 1 from rfl, e132]
      rw [pz_gd2 (by omega) (by omega), pzN_clamp (by omega), pz_entry2 hA (by omega) (by omega) hh, Option.bind_some, o1', pzN_sub (show low ≤ L + d + 1 by omega), show (1 : Int64) = pzL64 1 from rfl, pzL_shl 1 (by omega), pzL_or, pzN_add, pzN_suc]
      have z : (pzN (pzOff ms ((L + d + 1) % 12)) = 0) ↔ pzOff ms ((L + d + 1) % 12) = 0 := pzN_inj (b := 0) (by omega) (by omega)
      by_cases hz : pzOff ms ((L + d + 1) % 12) = 0
      · have hal' := hal.mp hz
        have hcost : pzN (L + d + 1) - pzN L + pzN (fa - va + N (L + d + 1)) = pzN (pzCo N l0 L (d + 1)) := by
          rw [pzN_sub (by omega), pzN_add]
          congr 1
          have := g2.2.2.2.1
          rw [pzVb_va hal'] at this
          unfold pzCo
          omega
        rw [if_pos (z.mpr hz), hcost]
        obtain ⟨I2, Lg2, k1, k2, k3⟩ := pz_offer (va_up A 3 (upd (A 3) ((L + d + 1) % 12) (pzN (L + d + 1)))) hT hL hlow (show L + (d + 1) ≤ high by omega) hh hal' hN g2.2.2.2.2 h36
        rw [k1]
        simp only [Option.bind_some]
        obtain ⟨I3, Lg3, A3, m1, m2, m3, m4⟩ := ih I2 Lg2 _ _ _ _ g2 k2 hA2
        exact ⟨I3, Lg3, A3, m1, m2, fun j hj => (m3 j hj).trans (k3 j hj), fun j hj => (m4 j hj).trans (pz_va_ne _ _ hj)⟩
      · rw [if_neg (fun q => hz (z.mp q))]
        have hal' : pzAl N l0 L (d + 1) 12 = false := by
          have : ¬ pzAl N l0 L (d + 1) 12 = true := fun q => hz (hal.mpr q)
          simpa using this
        obtain ⟨I3, Lg3, A3, m1, m2, m3, m4⟩ := ih I Lg _ _ _ _ g2 (pzBt_no hT hal') hA2
        exact ⟨I3, Lg3, A3, m1, m2, m3, fun j hj => (m4 j hj).trans (pz_va_ne _ _ hj)⟩
    show ∃ I' Lg' A', fX7_climb_12B (fX7_climb_12 f) I Lg A (pzN set) (pzN L) (pzN low) (pzN high) (pzN ms) (pzN fa) (pzL64 tk) (pzN (L + d + 1)) = _ ∧ _
    unfold fX7_climb_12B
    rw [if_neg (by rw [pzN_lt (by omega) (by omega)]; omega), if_neg (by rw [pzN_le (by omega) (by omega)]; omega), show (12 : Int32) = pzN 12 from rfl, pzN_jrem (by omega) (by omega), pzN_jrem (by omega) (by omega), show (1 : Int32) = pzN 1 from rfl, e132, hL]
    unfold fX7_climb_52
    by_cases hpb : (L + d + 1) % 12 = bass
    · rw [if_pos (by rw [hpb]), if_neg (show ¬ pzN 1 = 0 by decide), pzN_suc]
      apply skip
      intro p hp hb
      apply pzCh_skip
      intro q
      rw [← q, hpb, hbass] at hb; cases hb
    · rw [if_neg (by rw [pzN_inj (by omega) (by omega)]; exact hpb), if_pos rfl]
      by_cases hsb : set.testBit ((L + d + 1) % 12) = true
      · have hb := (hl0 _ hp12).mpr ⟨hsb, hpb⟩
        rw [if_neg (show ¬ (pzN set &&& pzN (1 <<< ((L + d + 1) % 12)) = 0) from fun q => (pz_andBit hset hp12).mp q hsb)]
        have hcd : pzCh N ((L + d + 1) % 12) L (d + 1) = (match pzCh N ((L + d + 1) % 12) L d with
          | none => some (L + d + 1)
          | some j => if N (L + d + 1) < N j then some (L + d + 1) else some j) := by
          show (if (L + d + 1) % 12 = (L + d + 1) % 12 then _ else _) = _
          rw [if_pos rfl]
          cases pzCh N ((L + d + 1) % 12) L d <;> rfl
        cases hc : pzCh N ((L + d + 1) % 12) L d with
        | none =>
          have hms : ms.testBit ((L + d + 1) % 12) = true := (h2 _ hp12).mpr ⟨hb, hc⟩
          rw [if_neg (show ¬ (pzN ms &&& pzN (1 <<< ((L + d + 1) % 12)) = 0) from fun q => (pz_andBit h1 hp12).mp q hms)]
          rw [hc] at hcd
          have := chg tk 0 hb hcd (by rw [hc]; exact ⟨rfl, rfl⟩)
          rw [Nat.sub_zero] at this
          exact this
        | some j =>
          obtain ⟨j1, j2, j3, j4⟩ := pzCh_some hc
          have hms : ¬ ms.testBit ((L + d + 1) % 12) = true := fun q => by have := ((h2 _ hp12).mp q).2; rw [hc] at this; cases this
          have hNj := hN j (by omega)
          have hNa := hN (L + d + 1) (by omega)
          have hen : fX8_entry 12 (A 3) (pzN ((L + d + 1) % 12)) = some (pzN j) := by
            unfold fX8_entry
            rw [if_neg (fun q => (pzN_not_neg (by omega)).mp q), show Int32.ofNat 12 = pzN 12 from rfl, if_neg (by rw [pzN_le (by omega) (by omega)]; omega), pz_gd2 (by omega) (by omega), pzN_clamp (by omega), h3 _ j hp12 hb hc]
          rw [if_pos ((pz_andBit h1 hp12).mpr hms), hen, Option.bind_some, pz_entry2 hA (by omega) (by omega) hh, Option.bind_some, pz_entry2 hA (show low ≤ j by omega) (by omega) hh, Option.bind_some, Option.bind_some]
          rw [hc] at hcd
          dsimp only at hcd
          by_cases hlt : N (L + d + 1) < N j
          · rw [if_pos hlt] at hcd
            have hva : N j ≤ fa := (pzCl_chg hC hL hbass hlow (show L + d + 1 ≤ high by omega) h36 hb hcd (tk2 := tk ^^^ 1 <<< (j - low)) (va := N j) (by rw [hc]; exact ⟨rfl, rfl⟩)).1
            rw [if_pos (by rw [pzN_lt (by omega) (by omega)]; exact hlt), pzN_sub (show low ≤ j by omega), show (1 : Int64) = pzL64 1 from rfl, pzL_shl 1 (by omega), pzL_xor, pzN_sub hva]
            exact chg (tk ^^^ 1 <<< (j - low)) (N j) hb hcd (by rw [hc]; exact ⟨rfl, rfl⟩)
          · rw [if_neg hlt] at hcd
            rw [if_neg (by rw [pzN_lt (by omega) (by omega)]; exact hlt), pzN_suc]
            apply skip
            intro p hp hbp
            by_cases ep : p = (L + d + 1) % 12
            · rw [ep, hcd, hc]
            · exact pzCh_skip (fun q => ep q.symm)
      · rw [if_pos ((pz_andBit hset hp12).mpr hsb), pzN_suc]
        apply skip
        intro p hp hb
        apply pzCh_skip
        intro q
        rw [← q] at hb
        exact hsb ((hl0 _ hp12).mp hb).1
