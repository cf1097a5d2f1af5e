/-! voicings: sums over the pitches -/
def pzSq (F : Nat → Nat) : Nat → Nat
  | 0 => 0
  | q + 1 => pzSq F q + F q
set_option maxRecDepth 10000 in
theorem pzSq_le {F G : Nat → Nat} : ∀ q, (∀ p, p < q → F p ≤ G p) → pzSq F q ≤ pzSq G q
  | 0, _ => Nat.le_refl _
  | q + 1, h => by
    have h1 := pzSq_le q (fun p hp => h p (by omega))
    have h2 := h q (by omega)
    show pzSq F q + F q ≤ pzSq G q + G q
    omega
set_option maxRecDepth 10000 in
theorem pzSq_congr {F G : Nat → Nat} : ∀ q, (∀ p, p < q → F p = G p) → pzSq F q = pzSq G q
  | 0, _ => rfl
  | q + 1, h => by
    show pzSq F q + F q = pzSq G q + G q
    rw [pzSq_congr q (fun p hp => h p (by omega)), h q (by omega)]
set_option maxRecDepth 10000 in
theorem pzSq_eq {F G : Nat → Nat} : ∀ q, (∀ p, p < q → F p ≤ G p) → pzSq F q = pzSq G q → ∀ p, p < q → F p = G p
  | 0, _, _, p, hp => by omega
  | q + 1, h, e, p, hp => by
    have h1 := pzSq_le q (fun p hp => h p (by omega))
    have h2 := h q (by omega)
    have e2 : pzSq F q + F q = pzSq G q + G q := e
    by_cases hq : p = q
    · subst hq; omega
    · exact pzSq_eq q (fun p hp => h p (by omega)) (by omega) p (by omega)
set_option maxRecDepth 10000 in
theorem pzSq_add (F G : Nat → Nat) : ∀ q, pzSq (fun p => F p + G p) q = pzSq F q + pzSq G q
  | 0 => rfl
  | q + 1 => by
    show pzSq (fun p => F p + G p) q + (F q + G q) = (pzSq F q + F q) + (pzSq G q + G q)
    rw [pzSq_add F G q]; omega
set_option maxRecDepth 10000 in
theorem pzSq_bound {F : Nat → Nat} {m : Nat} : ∀ q, (∀ p, p < q → F p ≤ m) → pzSq F q ≤ q * m
  | 0, _ => by simp [pzSq]
  | q + 1, h => by
    have h1 := pzSq_bound q (fun p hp => h p (by omega))
    have h2 := h q (by omega)
    show pzSq F q + F q ≤ (q + 1) * m
    rw [Nat.add_mul]; omega
/-- the key that a pitch takes above a and up to a + d -/
def pzCh (N : Nat → Nat) (p a : Nat) : Nat → Option Nat
  | 0 => none
  | d + 1 => if (a + d + 1) % 12 = p then (match pzCh N p a d with
      | none => some (a + d + 1)
      | some j => if N (a + d + 1) < N j then some (a + d + 1) else some j) else pzCh N p a d
set_option maxRecDepth 10000 in
theorem pzCh_spec (N : Nat → Nat) (p a : Nat) : ∀ d, (match pzCh N p a d with
      | none => ∀ k, a < k → k ≤ a + d → k % 12 ≠ p
      | some j => a < j ∧ j ≤ a + d ∧ j % 12 = p ∧ ∀ k, a < k → k ≤ a + d → k % 12 = p → N j ≤ N k ∧ (k < j → N j < N k))
  | 0 => by
    show ∀ k, a < k → k ≤ a + 0 → k % 12 ≠ p
    intro k h1 h2; omega
  | d + 1 => by
    have ih := pzCh_spec N p a d
    unfold pzCh
    by_cases hp : (a + d + 1) % 12 = p
    · rw [if_pos hp]
      cases hc : pzCh N p a d with
      | none =>
        rw [hc] at ih
        dsimp only at ih ⊢
        refine ⟨by omega, by omega, hp, fun k h1 h2 h3 => ?_⟩
        by_cases e : k = a + d + 1
        · subst e; exact ⟨Nat.le_refl _, fun q => by omega⟩
        · exact absurd h3 (ih k h1 (by omega))
      | some j =>
        rw [hc] at ih
        dsimp only at ih ⊢
        obtain ⟨i1, i2, i3, i4⟩ := ih
        by_cases hlt : N (a + d + 1) < N j
        · rw [if_pos hlt]
          refine ⟨by omega, by omega, hp, fun k h1 h2 h3 => ?_⟩
          by_cases e : k = a + d + 1
          · subst e; exact ⟨Nat.le_refl _, fun q => by omega⟩
          · have := (i4 k h1 (by omega) h3).1
            exact ⟨by omega, fun _ => by omega⟩
        · rw [if_neg hlt]
          refine ⟨i1, by omega, i3, fun k h1 h2 h3 => ?_⟩
          by_cases e : k = a + d + 1
          · subst e; exact ⟨by omega, fun q => by omega⟩
          · exact i4 k h1 (by omega) h3
    · rw [if_neg hp]
      cases hc : pzCh N p a d with
      | none =>
        rw [hc] at ih
        dsimp only at ih ⊢
        intro k h1 h2
        by_cases e : k = a + d + 1
        · subst e; exact hp
        · exact ih k h1 (by omega)
      | some j =>
        rw [hc] at ih
        dsimp only at ih ⊢
        obtain ⟨i1, i2, i3, i4⟩ := ih
        refine ⟨i1, by omega, i3, fun k h1 h2 h3 => ?_⟩
        by_cases e : k = a + d + 1
        · subst e; exact absurd h3 hp
        · exact i4 k h1 (by omega) h3
set_option maxRecDepth 10000 in
theorem pzCh_none {N : Nat → Nat} {p a d : Nat} (h : pzCh N p a d = none) : ∀ k, a < k → k ≤ a + d → k % 12 ≠ p := by
  have := pzCh_spec N p a d
  rw [h] at this
  exact this
set_option maxRecDepth 10000 in
theorem pzCh_some {N : Nat → Nat} {p a d j : Nat} (h : pzCh N p a d = some j) : a < j ∧ j ≤ a + d ∧ j % 12 = p ∧ ∀ k, a < k → k ≤ a + d → k % 12 = p → N j ≤ N k ∧ (k < j → N j < N k) := by
  have := pzCh_spec N p a d
  rw [h] at this
  exact this
set_option maxRecDepth 10000 in
theorem pzCh_ex {N : Nat → Nat} {p a d k : Nat} (h1 : a < k) (h2 : k ≤ a + d) (h3 : k % 12 = p) : ∃ j, pzCh N p a d = some j := by
  cases h : pzCh N p a d with
  | none => exact absurd h3 (pzCh_none h k h1 h2)
  | some j => exact ⟨j, rfl⟩
/-- all pitches of a set have a key; and what they cost -/
def pzAl (N : Nat → Nat) (left a d q : Nat) : Bool := (List.range q).all (fun p => !(left.testBit p) || (pzCh N p a d).isSome)
def pzVa (N : Nat → Nat) (left a d p : Nat) : Nat := if left.testBit p then N ((pzCh N p a d).getD 0) else 0
set_option maxRecDepth 10000 in
theorem pzAl_iff {N : Nat → Nat} {left a d q : Nat} : pzAl N left a d q = true ↔ ∀ p, p < q → left.testBit p = true → ∃ j, pzCh N p a d = some j := by
  unfold pzAl
  rw [List.all_eq_true]
  constructor
  · intro h p hp hb
    have := h p (List.mem_range.mpr hp)
    rw [hb] at this
    exact Option.isSome_iff_exists.mp (by simpa using this)
  · intro h p hp
    by_cases hb : left.testBit p = true
    · have := Option.isSome_iff_exists.mpr (h p (List.mem_range.mp hp) hb)
      rw [this]; simp
    · simp only [Bool.not_eq_true] at hb
      rw [hb]; rfl
set_option maxRecDepth 10000 in
theorem pzAl_succ (N : Nat → Nat) (left a d q : Nat) : pzAl N left a d (q + 1) = (pzAl N left a d q && (!(left.testBit q) || (pzCh N q a d).isSome)) := by
  unfold pzAl
  rw [List.range_succ, List.all_append]
  simp
def pzMi (o : Option Nat) (x : Nat) : Option Nat := match o with
  | none => some x
  | some y => if x < y then some x else some y
/-- what rest answers -/
def pzRs (N : Nat → Nat) (left L mc last : Nat) : Nat → Option Nat
  | 0 => none
  | n + 1 => if pzAl N left last n 12 then pzMi (pzRs N left L mc last n) (mc + (last + n - L) + pzSq (pzVa N left last n) 12) else pzRs N left L mc last n
set_option maxRecDepth 10000 in
theorem pzRs_spec (N : Nat → Nat) (left L mc last : Nat) : ∀ n, (match pzRs N left L mc last n with
      | none => ∀ d, d < n → pzAl N left last d 12 = false
      | some v => (∃ d, d < n ∧ pzAl N left last d 12 = true ∧ v = mc + (last + d - L) + pzSq (pzVa N left last d) 12) ∧ ∀ d, d < n → pzAl N left last d 12 = true → v ≤ mc + (last + d - L) + pzSq (pzVa N left last d) 12)
  | 0 => by
    show ∀ d, d < 0 → _
    intro d hd; omega
  | n + 1 => by
    have ih := pzRs_spec N left L mc last n
    unfold pzRs
    by_cases ha : pzAl N left last n 12 = true
    · rw [if_pos ha]
      cases hr : pzRs N left L mc last n with
      | none =>
        rw [hr] at ih
        dsimp only [pzMi] at ih ⊢
        refine ⟨⟨n, by omega, ha, rfl⟩, fun d hd had => ?_⟩
        by_cases e : d = n
        · subst e; exact Nat.le_refl _
        · have := ih d (by omega); rw [had] at this; cases this
      | some y =>
        rw [hr] at ih
        dsimp only [pzMi] at ih ⊢
        obtain ⟨⟨d0, i1, i2, i3⟩, i4⟩ := ih
        by_cases hlt : mc + (last + n - L) + pzSq (pzVa N left last n) 12 < y
        · rw [if_pos hlt]
          dsimp only
          refine ⟨⟨n, by omega, ha, rfl⟩, fun d hd had => ?_⟩
          by_cases e : d = n
          · subst e; exact Nat.le_refl _
          · have := i4 d (by omega) had; omega
        · rw [if_neg hlt]
          dsimp only
          refine ⟨⟨d0, by omega, i2, i3⟩, fun d hd had => ?_⟩
          by_cases e : d = n
          · subst e; omega
          · exact i4 d (by omega) had
    · rw [if_neg ha]
      have ha2 : pzAl N left last n 12 = false := by simpa using ha
      cases hr : pzRs N left L mc last n with
      | none =>
        rw [hr] at ih
        dsimp only at ih ⊢
        intro d hd
        by_cases e : d = n
        · subst e; exact ha2
        · exact ih d (by omega)
      | some y =>
        rw [hr] at ih
        dsimp only at ih ⊢
        obtain ⟨⟨d0, i1, i2, i3⟩, i4⟩ := ih
        refine ⟨⟨d0, by omega, i2, i3⟩, fun d hd had => ?_⟩
        by_cases e : d = n
        · subst e; rw [ha2] at had; cases had
        · exact i4 d (by omega) had
/-! the reference's rest -/
def pzVo (N : Nat → Nat) (o : Option Nat) : Int32 := match o with
  | none => -2
  | some j => pzN (N j)
set_option maxRecDepth 10000 in
theorem pz_r109 {I : Nat → Int32} {A : Nat → Nat → Int32} {N : Nat → Nat} (hN : ∀ k, k < 128 → A 33 k = pzN (N k) ∧ N k ≤ 127) {last T q : Nat} (hq : q < 12) (hT : T < 128) (k57 : Int32 → Int32 → Int32 → Int32 → Int32 → Int32 → Option Int32) (k83 : Int32 → Int32 → Int32 → Int32 → Int32 → Int32 → Int32 → Int32 → Int32 → Option Int32) (v1 v2 v3 v4 v5 v7 v8 : Int32) :
    ∀ e d f, d + e = T - last → e < f → last ≤ T → fX9_rest_109 BM I A k57 k83 f v1 v2 v3 v4 v5 (pzN T) v7 v8 (pzN q) (pzVo N (pzCh N q last d)) (pzN (last + d + 1)) = k83 v1 v2 v3 v4 v5 (pzN T) (v7 + pzVo N (pzCh N q last (T - last))) (v8 &&& pzSm ((pzCh N q last (T - last)).isSome)) (pzN (q + 1))
  | e, d, 0, _, hf, _ => by omega
  | 0, d, f + 1, hd, hf, hl => by
    have : d = T - last := by omega
    subst this
    show fX9_rest_109B BM I A k57 k83 (fX9_rest_109 BM I A k57 k83 f) v1 v2 v3 v4 v5 (pzN T) v7 v8 (pzN q) (pzVo N (pzCh N q last (T - last))) (pzN (last + (T - last) + 1)) = _
    unfold fX9_rest_109B fX9_rest_179
    rw [if_pos (by rw [pzN_lt (by omega) (by omega)]; omega), pzN_suc]
    cases hc : pzCh N q last (T - last) with
    | none =>
      rw [if_pos (show pzVo N none = -2 from rfl)]
      rfl
    | some j =>
      obtain ⟨s1, s2, s3, s4⟩ := pzCh_some hc
      have := (hN j (by omega)).2
      rw [if_neg (show ¬ pzVo N (some j) = -2 from pzN_ne2 (by omega))]
      rfl
  | e + 1, d, f + 1, hd, hf, hl => by
    have hk := hN (last + d + 1) (by omega)
    have ih := pz_r109 (I := I) (A := A) hN hq hT k57 k83 v1 v2 v3 v4 v5 v7 v8 e (d + 1) f (by omega) (by omega) hl
    show fX9_rest_109B BM I A k57 k83 (fX9_rest_109 BM I A k57 k83 f) v1 v2 v3 v4 v5 (pzN T) v7 v8 (pzN q) (pzVo N (pzCh N q last d)) (pzN (last + d + 1)) = _
    rw [← ih]
    unfold fX9_rest_109B fX9_rest_145
    rw [if_neg (by rw [pzN_lt (by omega) (by omega)]; omega), show (12 : Int32) = pzN 12 from rfl, pzN_jrem (by omega) (by omega), pz_gd2 (by omega) (by omega), pz_gd2 (by omega) (by omega), pzN_clamp (by omega), hk.1, pzN_suc]
    have hcd : pzCh N q last (d + 1) = if (last + d + 1) % 12 = q then (match pzCh N q last d with
      | none => some (last + d + 1)
      | some j => if N (last + d + 1) < N j then some (last + d + 1) else some j) else pzCh N q last d := rfl
    rw [hcd, show last + (d + 1) + 1 = last + d + 1 + 1 by omega]
    by_cases hm : (last + d + 1) % 12 = q
    · rw [if_pos (by rw [hm]), if_pos hm]
      cases hc : pzCh N q last d with
      | none =>
        rw [if_pos (show pzVo N none = -2 from rfl)]
        rfl
      | some j =>
        obtain ⟨s1, s2, s3, s4⟩ := pzCh_some hc
        have hj := (hN j (by omega)).2
        have hk2 := hk.2
        rw [if_neg (show ¬ pzVo N (some j) = -2 from pzN_ne2 (by omega)), show pzVo N (some j) = pzN (N j) from rfl]
        dsimp only
        by_cases hlt : N (last + d + 1) < N j
        · rw [if_neg (by rw [pzN_le (by omega) (by omega)]; omega), if_pos hlt]
          rfl
        · rw [if_pos (by rw [pzN_le (by omega) (by omega)]; omega), if_neg hlt]
          rfl
    · rw [if_neg (by rw [pzN_inj (by omega) (by omega)]; exact hm), if_neg hm]
set_option maxRecDepth 10000 in
theorem pz_r83 {I : Nat → Int32} {A : Nat → Nat → Int32} {N : Nat → Nat} (hN : ∀ k, k < 128 → A 33 k = pzN (N k) ∧ N k ≤ 127) {left last T base : Nat} (hleft : left < 4096) (hT : T < 128) (hl : last ≤ T) (hb : base ≤ 10000) (k57 : Int32 → Int32 → Int32 → Int32 → Int32 → Int32 → Option Int32) (v2 v4 : Int32) (o : Option Nat) (ho : ∀ y, o = some y → y ≤ 20000) :
    ∀ e q f (v7 : Int32), q + e = 12 → e < f → (pzAl N left last (T - last) q = true → v7 = pzN (base + pzSq (pzVa N left last (T - last)) q)) →
    fX9_rest_83 BM I A k57 f (pzN left) v2 (pzN last) v4 (pzO3 o) (pzN T) v7 (pzSm (pzAl N left last (T - last) q)) (pzN q) = k57 (pzN left) v2 (pzN last) v4 (pzO3 (if pzAl N left last (T - last) 12 then pzMi o (base + pzSq (pzVa N left last (T - last)) 12) else o)) (pzN (T + 1))
  | e, q, 0, v7, _, hf, _ => by omega
  | 0, q, f + 1, v7, hq, hf, hv => by
    have : q = 12 := by omega
    subst this
    have hva : pzSq (pzVa N left last (T - last)) 12 ≤ 12 * 127 := by
      apply pzSq_bound
      intro p hp
      unfold pzVa
      split
      · cases hc : pzCh N p last (T - last) with
        | none => exact (hN 0 (by omega)).2
        | some j => exact (hN j (by have := pzCh_some hc; omega)).2
      · omega
    show fX9_rest_83B BM I A k57 (fX9_rest_83 BM I A k57 f) (pzN left) v2 (pzN last) v4 (pzO3 o) (pzN T) v7 (pzSm (pzAl N left last (T - last) 12)) (pzN 12) = _
    unfold fX9_rest_83B
    rw [if_pos (show (12 : Int32) ≤ pzN 12 by decide), pzN_suc]
    cases ha : pzAl N left last (T - last) 12 with
    | false =>
      rw [if_pos (show pzSm false = 0 from rfl)]
      rfl
    | true =>
      rw [if_neg (show ¬ pzSm true = 0 by decide), hv ha, if_pos rfl]
      cases o with
      | none =>
        rw [if_pos (show pzO3 none = -2 from rfl)]
        rfl
      | some y =>
        have hy := ho y rfl
        rw [if_neg (show ¬ pzO3 (some y) = -2 from pzN_ne2 (by omega)), show pzO3 (some y) = pzN y from rfl]
        unfold pzMi
        dsimp only
        by_cases hlt : base + pzSq (pzVa N left last (T - last)) 12 < y
        · rw [if_neg (by rw [pzN_le (by omega) (by omega)]; omega), if_pos hlt]
          rfl
        · rw [if_pos (by rw [pzN_le (by omega) (by omega)]; omega), if_neg hlt]
          rfl
  | e + 1, q, f + 1, v7, hq, hf, hv => by
    have ih := fun v7 => pz_r83 (I := I) (A := A) hN hleft hT hl hb k57 v2 v4 o ho e (q + 1) f v7 (by omega) (by omega)
    show fX9_rest_83B BM I A k57 (fX9_rest_83 BM I A k57 f) (pzN left) v2 (pzN last) v4 (pzO3 o) (pzN T) v7 (pzSm (pzAl N left last (T - last) q)) (pzN q) = _
    unfold fX9_rest_83B
    rw [if_neg (by rw [show (12 : Int32) = pzN 12 from rfl, pzN_le (by omega) (by omega)]; omega), pz_bit (by omega) (by omega)]
    have hs := pzAl_succ N left last (T - last) q
    by_cases hbt : left.testBit q = true
    · rw [hbt] at hs
      rw [if_pos hbt, if_pos rfl, pzN_suc]
      have e109 := pz_r109 (I := I) (A := A) hN (last := last) (show q < 12 by omega) hT k57 (fX9_rest_83 BM I A k57 f) (pzN left) v2 (pzN last) v4 (pzO3 o) v7 (pzSm (pzAl N left last (T - last) q)) (T - last) 0 FU (by omega) (by unfold FU; omega) hl
      refine e109.trans ?_
      have fl : (pzSm (pzAl N left last (T - last) q) &&& pzSm ((pzCh N q last (T - last)).isSome)) = pzSm (pzAl N left last (T - last) (q + 1)) := by
        rw [hs]
        cases pzAl N left last (T - last) q <;> cases (pzCh N q last (T - last)).isSome <;> rfl
      rw [fl]
      apply ih
      intro hal
      rw [hs, Bool.and_eq_true] at hal
      obtain ⟨j, hj⟩ := Option.isSome_iff_exists.mp (show (pzCh N q last (T - last)).isSome = true by simpa using hal.2)
      rw [hv hal.1, hj, show pzVo N (some j) = pzN (N j) from rfl, pzN_add]
      congr 1
      have : pzVa N left last (T - last) q = N j := by unfold pzVa; rw [if_pos hbt, hj]; rfl
      show base + pzSq (pzVa N left last (T - last)) q + N j = base + (pzSq (pzVa N left last (T - last)) q + pzVa N left last (T - last) q)
      rw [this]; omega
    · have hbt2 : left.testBit q = false := by simpa using hbt
      rw [hbt2] at hs
      rw [if_neg hbt, if_neg (show ¬ (0 : Int32) = 1 by decide), pzN_suc]
      have hs2 : pzAl N left last (T - last) (q + 1) = pzAl N left last (T - last) q := by rw [hs]; simp
      rw [← hs2]
      apply ih
      intro hal
      rw [hs2] at hal
      rw [hv hal]
      congr 1
      have : pzVa N left last (T - last) q = 0 := by unfold pzVa; rw [if_neg hbt]
      show base + pzSq (pzVa N left last (T - last)) q = base + (pzSq (pzVa N left last (T - last)) q + pzVa N left last (T - last) q)
      rw [this]; omega
set_option maxRecDepth 10000 in
theorem pz_vaB {N : Nat → Nat} (hN : ∀ k, k < 128 → N k ≤ 127) {left a d : Nat} (h : a + d < 128) : pzSq (pzVa N left a d) 12 ≤ 1524 := by
  have : pzSq (pzVa N left a d) 12 ≤ 12 * 127 := by
    apply pzSq_bound
    intro p hp
    unfold pzVa
    split
    · cases hc : pzCh N p a d with
      | none => exact hN 0 (by omega)
      | some j => exact hN j (by have := pzCh_some hc; omega)
    · omega
  omega
set_option maxRecDepth 10000 in
theorem pz_r57 {I : Nat → Int32} {A : Nat → Nat → Int32} {N : Nat → Nat} (hN : ∀ k, k < 128 → A 33 k = pzN (N k) ∧ N k ≤ 127) {left L mc last high : Nat} (hleft : left < 4096) (hh : high < 128) (hL : A 34 0 = pzN L) (hLl : L ≤ last) (hmc : mc ≤ 1600) :
    ∀ e n f, last + n + e = high + 1 → e < f → fX9_rest_57 BM I A f (pzN left) (pzN high) (pzN last) (pzN mc) (pzO3 (pzRs N left L mc last n)) (pzN (last + n)) = some (pzO3 (pzRs N left L mc last (n + e)))
  | e, n, 0, _, hf => by omega
  | 0, n, f + 1, he, hf => by
    show fX9_rest_57B BM I A (fX9_rest_57 BM I A f) (pzN left) (pzN high) (pzN last) (pzN mc) (pzO3 (pzRs N left L mc last n)) (pzN (last + n)) = _
    unfold fX9_rest_57B
    rw [if_pos (by rw [pzN_lt (by omega) (by omega)]; omega)]
    rfl
  | e + 1, n, f + 1, he, hf => by
    have ih := pz_r57 (I := I) (A := A) hN hleft hh hL hLl hmc e (n + 1) f (by omega) (by omega)
    have ho : ∀ y, pzRs N left L mc last n = some y → y ≤ 20000 := by
      intro y hy
      have := pzRs_spec N left L mc last n
      rw [hy] at this
      obtain ⟨⟨d, d1, d2, d3⟩, _⟩ := this
      have := pz_vaB (fun k hk => (hN k hk).2) (left := left) (a := last) (d := d) (by omega)
      omega
    have h83 := pz_r83 (I := I) (A := A) hN (last := last) (T := last + n) (base := mc + (last + n - L)) hleft (by omega) (by omega) (by omega) (fX9_rest_57 BM I A f) (pzN high) (pzN mc) (pzRs N left L mc last n) ho 12 0 FU (pzN (mc + (last + n - L))) (by omega) (by unfold FU; omega) (fun _ => rfl)
    rw [show last + n - last = n by omega] at h83
    show fX9_rest_57B BM I A (fX9_rest_57 BM I A f) (pzN left) (pzN high) (pzN last) (pzN mc) (pzO3 (pzRs N left L mc last n)) (pzN (last + n)) = _
    unfold fX9_rest_57B
    have hg : gd (0 : Int32) 12 := by decide
    rw [if_neg (by rw [pzN_lt (by omega) (by omega)]; omega), if_pos hg, show (0 : Int32).toNatClampNeg = 0 from rfl, hL, pzN_add, pzN_sub (by omega), show mc + (last + n) - L = mc + (last + n - L) by omega]
    refine h83.trans ?_
    rw [show n + (e + 1) = n + 1 + e by omega, ← ih]
    rfl
set_option maxRecDepth 10000 in
theorem pz_r18 {I : Nat → Int32} {A : Nat → Nat → Int32} {N : Nat → Nat} (hN : ∀ k, k < 128 → A 33 k = pzN (N k) ∧ N k ≤ 127) {md : Nat → Nat} {cnt : Nat} (h12 : cnt ≤ 12) (hI : I 35 = pzN cnt) (hmd : ∀ j, j < cnt → A 34 j = pzN (md j) ∧ md j < 128) (v1 v2 v3 : Int32) :
    ∀ e j f, j + e = cnt → e < f → fX9_rest_18 BM I A f v1 v2 v3 (pzN (pzSq (fun j => N (md j)) j)) (pzN j) = fX9_rest_57 BM I A FU v1 v2 v3 (pzN (pzSq (fun j => N (md j)) cnt)) (-2) v3
  | e, j, 0, _, hf => by omega
  | 0, j, f + 1, he, hf => by
    have : j = cnt := by omega
    subst this
    show fX9_rest_18B BM I A (fX9_rest_18 BM I A f) v1 v2 v3 (pzN (pzSq (fun j => N (md j)) j)) (pzN j) = _
    unfold fX9_rest_18B
    rw [hI, if_pos ((pzN_le (by omega) (by omega)).mpr (Nat.le_refl _))]
  | e + 1, j, f + 1, he, hf => by
    obtain ⟨m1, m2⟩ := hmd j (by omega)
    have ih := pz_r18 (I := I) (A := A) hN h12 hI hmd v1 v2 v3 e (j + 1) f (by omega) (by omega)
    show fX9_rest_18B BM I A (fX9_rest_18 BM I A f) v1 v2 v3 (pzN (pzSq (fun j => N (md j)) j)) (pzN j) = _
    unfold fX9_rest_18B
    rw [hI, if_neg (by rw [pzN_le (by omega) (by omega)]; omega), pz_gd2 (by omega) (by omega), pzN_clamp (n := j) (by omega), m1, pz_gd2 (by omega) (by omega), pzN_clamp (by omega), (hN _ m2).1, pzN_add, pzN_suc]
    exact ih
set_option maxRecDepth 10000 in
theorem pz_rest {I : Nat → Int32} {A : Nat → Nat → Int32} {N : Nat → Nat} (hN : ∀ k, k < 128 → A 33 k = pzN (N k) ∧ N k ≤ 127) {md : Nat → Nat} {cnt : Nat} (h1 : 1 ≤ cnt) (h12 : cnt ≤ 12) (hI : I 35 = pzN cnt) (hmd : ∀ j, j < cnt → A 34 j = pzN (md j) ∧ md j < 128) {left high : Nat} (hleft : left < 4096) (hh : high < 128) (hle : md 0 ≤ md (cnt - 1)) :
    fX9_rest BM I A (pzN left) (pzN high) = some (pzO3 (pzRs N left (md 0) (pzSq (fun j => N (md j)) cnt) (md (cnt - 1)) (high + 1 - md (cnt - 1)))) := by
  obtain ⟨m1, m2⟩ := hmd (cnt - 1) (by omega)
  obtain ⟨z1, z2⟩ := hmd 0 (by omega)
  have hmc : pzSq (fun j => N (md j)) cnt ≤ 1600 := by
    have : pzSq (fun j => N (md j)) cnt ≤ cnt * 127 := pzSq_bound cnt (fun j hj => (hN _ (hmd j hj).2).2)
    have : cnt * 127 ≤ 12 * 127 := Nat.mul_le_mul_right _ h12
    omega
  unfold fX9_rest
  rw [hI, show (1 : Int32) = pzN 1 from rfl, pzN_sub h1, pz_gd2 (by omega) (by omega), pzN_clamp (by omega), m1]
  refine (pz_r18 hN h12 hI hmd (pzN left) (pzN high) (pzN (md (cnt - 1))) cnt 0 FU (by omega) (by unfold FU; omega)).trans ?_
  by_cases hgt : md (cnt - 1) ≤ high + 1
  · have := pz_r57 (I := I) (A := A) hN (left := left) (L := md 0) (mc := pzSq (fun j => N (md j)) cnt) (last := md (cnt - 1)) (high := high) hleft hh z1 hle hmc (high + 1 - md (cnt - 1)) 0 FU (by omega) (by unfold FU; omega)
    rw [Nat.zero_add] at this
    exact this
  · show fX9_rest_57B BM I A (fX9_rest_57 BM I A 3999) _ _ _ _ _ _ = _
    unfold fX9_rest_57B
    rw [if_pos (by rw [pzN_lt (by omega) (by omega)]; omega), show high + 1 - md (cnt - 1) = 0 by omega]
    rfl
/-! how far the nearest key is -/
def pzDs (a b : Nat) : Nat := if a ≤ b then b - a else a - b
set_option maxRecDepth 10000 in
theorem pz_ds : ∀ a, a < 128 → ∀ b, b < 128 → fX9_size (pzN a - pzN b) = pzN (pzDs a b) ∧ jabs (pzN b - pzN a) = pzN (pzDs a b) ∧ pzDs a b ≤ 127 := by decide +kernel
def pzNm (ky : Nat → Nat) (k st : Nat) : Nat → Nat
  | 0 => st
  | n + 1 => if pzNm ky k st n ≤ pzDs (ky n) k then pzNm ky k st n else pzDs (ky n) k
def pzNr (ky : Nat → Nat) (kn k : Nat) : Nat := if kn = 0 then 0 else pzNm ky k 127 kn
set_option maxRecDepth 10000 in
theorem pzNm_le (ky : Nat → Nat) (k st : Nat) : ∀ n, pzNm ky k st n ≤ st
  | 0 => Nat.le_refl _
  | n + 1 => by
    have := pzNm_le ky k st n
    unfold pzNm
    split <;> omega
set_option maxRecDepth 10000 in
theorem pzNm_200 {ky : Nat → Nat} {k kn : Nat} (hk : k < 128) (h : ∀ j, j < kn → ky j < 128) : ∀ n, n < kn → pzNm ky k 200 (n + 1) = pzNm ky k 127 (n + 1)
  | 0, hn => by
    have := (pz_ds (ky 0) (h 0 hn) k hk).2.2
    show (if 200 ≤ pzDs (ky 0) k then 200 else pzDs (ky 0) k) = (if 127 ≤ pzDs (ky 0) k then 127 else pzDs (ky 0) k)
    rw [if_neg (by omega)]
    split <;> omega
  | n + 1, hn => by
    have ih := pzNm_200 hk h n (by omega)
    show (if pzNm ky k 200 (n + 1) ≤ pzDs (ky (n + 1)) k then pzNm ky k 200 (n + 1) else pzDs (ky (n + 1)) k) = (if pzNm ky k 127 (n + 1) ≤ pzDs (ky (n + 1)) k then pzNm ky k 127 (n + 1) else pzDs (ky (n + 1)) k)
    rw [ih]
set_option maxRecDepth 10000 in
theorem pz_mnear {I : Nat → Int32} {A : Nat → Nat → Int32} {ky : Nat → Nat} {kn : Nat} (h12 : kn ≤ 12) (hI : I 12 = pzN kn) (hk : ∀ j, j < kn → A 11 j = pzN (ky j) ∧ ky j < 128) {k : Nat} (hk128 : k < 128) : fX9_nearest BM I A (pzN k) = some (pzN (pzNr ky kn k)) := by
  have loop : ∀ st, st ≤ 200 → ∀ e j f, j + e = kn → e < f → fX9_nearest_17 BM I A f (pzN k) (pzN (pzNm ky k st j)) (pzN j) = some (pzN (pzNm ky k st kn)) := by
    intro st hst e
    induction e with
    | zero =>
      intro j f he hf
      cases f with
      | zero => omega
      | succ f =>
        have : j = kn := by omega
        subst this
        show fX9_nearest_17B BM I A (fX9_nearest_17 BM I A f) (pzN k) (pzN (pzNm ky k st j)) (pzN j) = _
        unfold fX9_nearest_17B
        rw [hI, if_pos ((pzN_le (by omega) (by omega)).mpr (Nat.le_refl _))]
    | succ e ih =>
      intro j f he hf
      cases f with
      | zero => omega
      | succ f =>
        obtain ⟨m1, m2⟩ := hk j (by omega)
        obtain ⟨d1, d2, d3⟩ := pz_ds (ky j) m2 k hk128
        have hle := pzNm_le ky k st j
        show fX9_nearest_17B BM I A (fX9_nearest_17 BM I A f) (pzN k) (pzN (pzNm ky k st j)) (pzN j) = _
        unfold fX9_nearest_17B
        rw [hI, if_neg (by rw [pzN_le (by omega) (by omega)]; omega), pz_gd2 (by omega) (by omega), pzN_clamp (by omega), m1, d1, pzN_suc]
        have hs : pzNm ky k st (j + 1) = if pzNm ky k st j ≤ pzDs (ky j) k then pzNm ky k st j else pzDs (ky j) k := rfl
        have := ih (j + 1) f (by omega) (by omega)
        rw [hs] at this
        by_cases hc : pzNm ky k st j ≤ pzDs (ky j) k
        · rw [if_pos (by rw [pzN_le (by omega) (by omega)]; exact hc)]
          rw [if_pos hc] at this
          exact this
        · rw [if_neg (by rw [pzN_le (by omega) (by omega)]; exact hc)]
          rw [if_neg hc] at this
          exact this
  unfold fX9_nearest pzNr
  rw [hI]
  by_cases h0 : kn = 0
  · rw [if_pos (by rw [h0]; rfl), if_pos h0]
    have := loop 0 (by omega) kn 0 FU (by omega) (by unfold FU; omega)
    rw [h0] at this
    exact this
  · rw [if_neg (by rw [show (0 : Int32) = pzN 0 from rfl, pzN_inj (by omega) (by omega)]; exact h0), if_neg h0]
    have := loop 200 (by omega) kn 0 FU (by omega) (by unfold FU; omega)
    obtain ⟨m, hm⟩ : ∃ m, kn = m + 1 := ⟨kn - 1, by omega⟩
    have e200 : pzNm ky k 200 kn = pzNm ky k 127 kn := by
      rw [hm]; exact pzNm_200 hk128 (fun j hj => (hk j hj).2) m (by omega)
    rw [e200] at this
    exact this
set_option maxRecDepth 10000 in
theorem pz_cnear {I : Nat → Int32} {L : Nat → Int64} {A : Nat → Nat → Int32} {ky : Nat → Nat} {kn : Nat} (h12 : kn ≤ 12) (hI : I 1 = pzN kn) (hk : ∀ j, j < kn → A 0 j = pzN (ky j) ∧ ky j < 128) {k : Nat} (hk128 : k < 128) : fX7_nearest I L A (pzN k) = some (pzN (pzNr ky kn k)) := by
  have loop : ∀ st, st ≤ 200 → ∀ e j f, j + e = kn → e < f → fX7_nearest_16 I L A f (pzN k) (pzN (pzNm ky k st j)) (pzN j) = some (pzN (pzNm ky k st kn)) := by
    intro st hst e
    induction e with
    | zero =>
      intro j f he hf
      cases f with
      | zero => omega
      | succ f =>
        have : j = kn := by omega
        subst this
        show fX7_nearest_16B I L A (fX7_nearest_16 I L A f) (pzN k) (pzN (pzNm ky k st j)) (pzN j) = _
        unfold fX7_nearest_16B
        rw [hI, if_pos ((pzN_le (by omega) (by omega)).mpr (Nat.le_refl _))]
    | succ e ih =>
      intro j f he hf
      cases f with
      | zero => omega
      | succ f =>
        obtain ⟨m1, m2⟩ := hk j (by omega)
        obtain ⟨d1, d2, d3⟩ := pz_ds (ky j) m2 k hk128
        have hle := pzNm_le ky k st j
        have hen : fX8_entry 12 (A 0) (pzN j) = some (pzN (ky j)) := by
          unfold fX8_entry
          rw [if_neg (fun q => (pzN_not_neg (by omega)).mp q), show Int32.ofNat 12 = pzN 12 from rfl, if_neg (by rw [pzN_le (by omega) (by omega)]; omega), pz_gd2 (by omega) (by omega), pzN_clamp (by omega), m1]
        show fX7_nearest_16B I L A (fX7_nearest_16 I L A f) (pzN k) (pzN (pzNm ky k st j)) (pzN j) = _
        unfold fX7_nearest_16B
        rw [hI, if_neg (by rw [pzN_le (by omega) (by omega)]; omega), hen, Option.bind_some, d2, pzN_suc]
        have hs : pzNm ky k st (j + 1) = if pzNm ky k st j ≤ pzDs (ky j) k then pzNm ky k st j else pzDs (ky j) k := rfl
        have := ih (j + 1) f (by omega) (by omega)
        rw [hs] at this
        have hmin : jmin (pzN (pzNm ky k st j)) (pzN (pzDs (ky j) k)) = pzN (if pzNm ky k st j ≤ pzDs (ky j) k then pzNm ky k st j else pzDs (ky j) k) := by
          unfold jmin
          by_cases hc : pzNm ky k st j ≤ pzDs (ky j) k
          · rw [if_neg (by rw [pzN_lt (by omega) (by omega)]; omega), if_pos hc]
          · rw [if_pos (by rw [pzN_lt (by omega) (by omega)]; omega), if_neg hc]
        rw [hmin]
        exact this
  unfold fX7_nearest pzNr
  rw [hI]
  by_cases h0 : kn = 0
  · rw [if_pos (by rw [h0]; rfl), if_pos h0]
    have := loop 0 (by omega) kn 0 FU (by omega) (by unfold FU; omega)
    rw [h0] at this
    exact this
  · rw [if_neg (by rw [show (0 : Int32) = pzN 0 from rfl, pzN_inj (by omega) (by omega)]; exact h0), if_neg h0]
    exact loop 127 (by omega) kn 0 FU (by omega) (by unfold FU; omega)
set_option maxRecDepth 10000 in
theorem pzNr_le (ky : Nat → Nat) (kn k : Nat) : pzNr ky kn k ≤ 127 := by
  unfold pzNr
  split
  · omega
  · exact pzNm_le ky k 127 kn
/-! the best voicing: a lowest key L, and d to its highest one -/
def pzCo (N : Nat → Nat) (l0 L d : Nat) : Nat := N L + d + pzSq (pzVa N l0 L d) 12
def pzBest (N : Nat → Nat) (l0 bass low high L d : Nat) : Prop :=
  L % 12 = bass ∧ low ≤ L ∧ L + d ≤ high ∧ pzAl N l0 L d 12 = true ∧ ∀ L' d', L' % 12 = bass → low ≤ L' → L' + d' ≤ high → pzAl N l0 L' d' 12 = true → pzCo N l0 L d ≤ pzCo N l0 L' d' ∧ (pzCo N l0 L d = pzCo N l0 L' d' → L ≤ L' ∧ (L = L' → d ≤ d'))
def pzKc (N : Nat → Nat) (L d p : Nat) : Nat := (pzCh N p L d).getD 0
set_option maxRecDepth 10000 in
theorem pzKc_spec {N : Nat → Nat} {l0 L d : Nat} (h : pzAl N l0 L d 12 = true) {p : Nat} (hp : p < 12) (hb : l0.testBit p = true) : pzCh N p L d = some (pzKc N L d p) ∧ L < pzKc N L d p ∧ pzKc N L d p ≤ L + d ∧ pzKc N L d p % 12 = p ∧ ∀ k, L < k → k ≤ L + d → k % 12 = p → N (pzKc N L d p) ≤ N k ∧ (k < pzKc N L d p → N (pzKc N L d p) < N k) := by
  obtain ⟨j, hj⟩ := pzAl_iff.mp h p hp hb
  have : pzKc N L d p = j := by unfold pzKc; rw [hj]; rfl
  rw [this]
  exact ⟨hj, pzCh_some hj⟩
/-- what the made keys cost beside the lowest -/
def pzEx (N : Nat → Nat) (l0 L d left p : Nat) : Nat := if l0.testBit p = true ∧ ¬ left.testBit p = true then N (pzKc N L d p) else 0
set_option maxRecDepth 10000 in
theorem pzSq_single {p x : Nat} : ∀ q, pzSq (fun i => if i = p then x else 0) q = if p < q then x else 0
  | 0 => by simp [pzSq]
  | q + 1 => by
    show pzSq (fun i => if i = p then x else 0) q + (if q = p then x else 0) = _
    rw [pzSq_single q]
    by_cases h : q = p
    · subst h; simp
    · rw [if_neg h]
      by_cases h2 : p < q
      · rw [if_pos h2, if_pos (by omega)]; rfl
      · rw [if_neg h2, if_neg (by omega)]
set_option maxRecDepth 10000 in
theorem pz_lower {N : Nat → Nat} {l0 bass low high L d : Nat} (hB : pzBest N l0 bass low high L d) {left left' k mc : Nat} (hL : L < k)
    (hl : ∀ p, p < 12 → (left.testBit p = true ↔ l0.testBit p = true ∧ k ≤ pzKc N L d p)) (hk : left.testBit (k % 12) = true) (hl' : ∀ p, p < 12 → (left'.testBit p = true ↔ left.testBit p = true ∧ p ≠ k % 12)) (hmc : mc = N L + pzSq (pzEx N l0 L d left) 12)
    {e : Nat} (he : k + e ≤ high) (ha : pzAl N left' k e 12 = true) :
    pzCo N l0 L d ≤ (mc + N k) + (k + e - L) + pzSq (pzVa N left' k e) 12 ∧ (pzCo N l0 L d = (mc + N k) + (k + e - L) + pzSq (pzVa N left' k e) 12 → ¬ k < pzKc N L d (k % 12)) := by
  obtain ⟨b1, b2, b3, b4, b5⟩ := hB
  have hp12 : k % 12 < 12 := Nat.mod_lt _ (by omega)
  have hkl := (hl _ hp12).mp hk
  -- with the same highest key, all pitches have a key
  have hal : pzAl N l0 L (k + e - L) 12 = true := by
    rw [pzAl_iff]
    intro p hp hb
    by_cases h1 : left.testBit p = true
    · by_cases h2 : p = k % 12
      · exact pzCh_ex (k := k) hL (by omega) h2.symm
      · obtain ⟨j, hj⟩ := pzAl_iff.mp ha p hp ((hl' p hp).mpr ⟨h1, h2⟩)
        obtain ⟨j1, j2, j3, _⟩ := pzCh_some hj
        exact pzCh_ex (k := j) (by omega) (by omega) j3
    · obtain ⟨_, c1, c2, c3, _⟩ := pzKc_spec b4 hp hb
      have : ¬ k ≤ pzKc N L d p := fun q => h1 ((hl p hp).mpr ⟨hb, q⟩)
      exact pzCh_ex (k := pzKc N L d p) c1 (by omega) c3
  have hbb := b5 L (k + e - L) b1 b2 (by omega) hal
  -- pitch by pitch
  let G : Nat → Nat := fun p => (pzVa N left' k e p + (if p = k % 12 then N k else 0)) + pzEx N l0 L d left p
  have hFG : ∀ p, p < 12 → pzVa N l0 L (k + e - L) p ≤ G p := by
    intro p hp
    show pzVa N l0 L (k + e - L) p ≤ (pzVa N left' k e p + (if p = k % 12 then N k else 0)) + pzEx N l0 L d left p
    by_cases hb : l0.testBit p = true
    · obtain ⟨j, hj⟩ := pzAl_iff.mp hal p hp hb
      obtain ⟨j1, j2, j3, j4⟩ := pzCh_some hj
      have hv : pzVa N l0 L (k + e - L) p = N j := by unfold pzVa; rw [if_pos hb, hj]; rfl
      rw [hv]
      by_cases h1 : left.testBit p = true
      · by_cases h2 : p = k % 12
        · have := (j4 k hL (by omega) h2.symm).1
          rw [if_pos h2]; omega
        · obtain ⟨i, hi⟩ := pzAl_iff.mp ha p hp ((hl' p hp).mpr ⟨h1, h2⟩)
          obtain ⟨i1, i2, i3, _⟩ := pzCh_some hi
          have hv2 : pzVa N left' k e p = N i := by unfold pzVa; rw [if_pos ((hl' p hp).mpr ⟨h1, h2⟩), hi]; rfl
          have := (j4 i (by omega) (by omega) i3).1
          rw [hv2]; omega
      · obtain ⟨_, c1, c2, c3, _⟩ := pzKc_spec b4 hp hb
        have hc : ¬ k ≤ pzKc N L d p := fun q => h1 ((hl p hp).mpr ⟨hb, q⟩)
        have := (j4 _ c1 (by omega) c3).1
        have hx : pzEx N l0 L d left p = N (pzKc N L d p) := by unfold pzEx; rw [if_pos ⟨hb, h1⟩]
        rw [hx]; omega
    · have hv : pzVa N l0 L (k + e - L) p = 0 := by unfold pzVa; rw [if_neg hb]
      rw [hv]; omega
  have hsum : pzSq G 12 = pzSq (pzVa N left' k e) 12 + N k + pzSq (pzEx N l0 L d left) 12 := by
    show pzSq (fun p => (pzVa N left' k e p + (if p = k % 12 then N k else 0)) + pzEx N l0 L d left p) 12 = _
    rw [pzSq_add (fun p => pzVa N left' k e p + (if p = k % 12 then N k else 0)) (pzEx N l0 L d left) 12, pzSq_add (pzVa N left' k e) (fun p => if p = k % 12 then N k else 0) 12, pzSq_single, if_pos hp12]
  have hle := pzSq_le 12 hFG
  have hco : pzCo N l0 L (k + e - L) = N L + (k + e - L) + pzSq (pzVa N l0 L (k + e - L)) 12 := rfl
  refine ⟨by omega, fun heq hlt => ?_⟩
  have e1 : pzCo N l0 L d = pzCo N l0 L (k + e - L) := by omega
  have e2 : pzSq (pzVa N l0 L (k + e - L)) 12 = pzSq G 12 := by omega
  have hd := (hbb.2 e1).2 rfl
  have hpt := pzSq_eq 12 hFG e2 _ hp12
  obtain ⟨_, c1, c2, c3, c4⟩ := pzKc_spec b4 hp12 hkl.1
  obtain ⟨j, hj⟩ := pzAl_iff.mp hal _ hp12 hkl.1
  obtain ⟨j1, j2, j3, j4⟩ := pzCh_some hj
  have hv : pzVa N l0 L (k + e - L) (k % 12) = N j := by unfold pzVa; rw [if_pos hkl.1, hj]; rfl
  have hg : G (k % 12) = N k := by
    show (pzVa N left' k e (k % 12) + (if k % 12 = k % 12 then N k else 0)) + pzEx N l0 L d left (k % 12) = N k
    have v0 : pzVa N left' k e (k % 12) = 0 := by
      unfold pzVa
      rw [if_neg (fun q => ((hl' _ hp12).mp q).2 rfl)]
    have x0 : pzEx N l0 L d left (k % 12) = 0 := by unfold pzEx; rw [if_neg (fun q => q.2 hk)]
    rw [v0, x0, if_pos rfl]; omega
  have s1 := (c4 k hL (by omega) rfl).2 hlt
  have s2 := (j4 _ c1 (by omega) c3).1
  rw [hv, hg] at hpt
  omega
set_option maxRecDepth 10000 in
theorem pz_yes {N : Nat → Nat} {l0 bass low high L d : Nat} (hB : pzBest N l0 bass low high L d) {left left' k mc : Nat} (hL : L < k)
    (hl : ∀ p, p < 12 → (left.testBit p = true ↔ l0.testBit p = true ∧ k ≤ pzKc N L d p)) (hk : left.testBit (k % 12) = true) (hl' : ∀ p, p < 12 → (left'.testBit p = true ↔ left.testBit p = true ∧ p ≠ k % 12)) (hmc : mc = N L + pzSq (pzEx N l0 L d left) 12) (hkh : k ≤ high) :
    (pzKc N L d (k % 12) = k → pzRs N left' L (mc + N k) k (high + 1 - k) = some (pzCo N l0 L d)) ∧ (¬ pzKc N L d (k % 12) = k → pzRs N left' L (mc + N k) k (high + 1 - k) ≠ some (pzCo N l0 L d)) := by
  have hB' := hB
  obtain ⟨b1, b2, b3, b4, b5⟩ := hB
  have hp12 : k % 12 < 12 := Nat.mod_lt _ (by omega)
  have hkl := (hl _ hp12).mp hk
  have sp := pzRs_spec N left' L (mc + N k) k (high + 1 - k)
  constructor
  · intro hck
    obtain ⟨_, c1, c2, c3, c4⟩ := pzKc_spec b4 hp12 hkl.1
    -- up to the best one's highest key
    have he : k + (L + d - k) = L + d := by omega
    have hal : pzAl N left' k (L + d - k) 12 = true := by
      rw [pzAl_iff]
      intro p hp hb
      obtain ⟨q1, q2⟩ := (hl' p hp).mp hb
      obtain ⟨q3, q4⟩ := (hl p hp).mp q1
      obtain ⟨_, a1, a2, a3, a4⟩ := pzKc_spec b4 hp q3
      have : pzKc N L d p ≠ k := fun q => q2 (by rw [← a3, q])
      exact pzCh_ex (k := pzKc N L d p) (by omega) (by omega) a3
    have up : (mc + N k) + (k + (L + d - k) - L) + pzSq (pzVa N left' k (L + d - k)) 12 ≤ pzCo N l0 L d := by
      have hGF : ∀ p, p < 12 → (pzVa N left' k (L + d - k) p + (if p = k % 12 then N k else 0)) + pzEx N l0 L d left p ≤ pzVa N l0 L d p := by
        intro p hp
        by_cases hb : l0.testBit p = true
        · obtain ⟨a0, a1, a2, a3, a4⟩ := pzKc_spec b4 hp hb
          have hv : pzVa N l0 L d p = N (pzKc N L d p) := by unfold pzVa; rw [if_pos hb]; rfl
          rw [hv]
          by_cases h1 : left.testBit p = true
          · have x0 : pzEx N l0 L d left p = 0 := by unfold pzEx; rw [if_neg (fun q => q.2 h1)]
            by_cases h2 : p = k % 12
            · have v0 : pzVa N left' k (L + d - k) p = 0 := by
                unfold pzVa
                rw [if_neg (fun q => ((hl' _ hp).mp q).2 h2)]
              rw [x0, v0, if_pos h2, h2, hck]; omega
            · have hb' := (hl' p hp).mpr ⟨h1, h2⟩
              obtain ⟨j, hj⟩ := pzAl_iff.mp hal p hp hb'
              obtain ⟨j1, j2, j3, j4⟩ := pzCh_some hj
              have hv2 : pzVa N left' k (L + d - k) p = N j := by unfold pzVa; rw [if_pos hb', hj]; rfl
              have q4 := ((hl p hp).mp h1).2
              have hne : pzKc N L d p ≠ k := fun q => h2 (by rw [← a3, q])
              have := (j4 _ (show k < pzKc N L d p by omega) (by omega) a3).1
              rw [x0, hv2, if_neg h2]; omega
          · have v0 : pzVa N left' k (L + d - k) p = 0 := by
              unfold pzVa
              rw [if_neg (fun q => h1 ((hl' _ hp).mp q).1)]
            have h2 : ¬ p = k % 12 := fun q => h1 (by rw [q]; exact hk)
            have x0 : pzEx N l0 L d left p = N (pzKc N L d p) := by unfold pzEx; rw [if_pos ⟨hb, h1⟩]
            rw [v0, x0, if_neg h2]; omega
        · have h1 : ¬ left.testBit p = true := fun q => hb ((hl p hp).mp q).1
          have v0 : pzVa N left' k (L + d - k) p = 0 := by
            unfold pzVa
            rw [if_neg (fun q => h1 ((hl' _ hp).mp q).1)]
          have h2 : ¬ p = k % 12 := fun q => h1 (by rw [q]; exact hk)
          have x0 : pzEx N l0 L d left p = 0 := by unfold pzEx; rw [if_neg (fun q => hb q.1)]
          rw [v0, x0, if_neg h2]; omega
      have hs := pzSq_le 12 hGF
      rw [pzSq_add (fun p => pzVa N left' k (L + d - k) p + (if p = k % 12 then N k else 0)) (pzEx N l0 L d left) 12, pzSq_add (pzVa N left' k (L + d - k)) (fun p => if p = k % 12 then N k else 0) 12, pzSq_single, if_pos hp12] at hs
      have hco : pzCo N l0 L d = N L + d + pzSq (pzVa N l0 L d) 12 := rfl
      omega
    cases hr : pzRs N left' L (mc + N k) k (high + 1 - k) with
    | none =>
      rw [hr] at sp
      have := sp (L + d - k) (by omega)
      rw [hal] at this; cases this
    | some v =>
      rw [hr] at sp
      dsimp only at sp
      obtain ⟨⟨e, e1, e2, e3⟩, s2⟩ := sp
      have l1 := (pz_lower hB' hL hl hk hl' hmc (e := e) (by omega) e2).1
      have l2 := s2 (L + d - k) (by omega) hal
      congr 1
      omega
  · intro hck hr
    rw [hr] at sp
    dsimp only at sp
    obtain ⟨⟨e, e1, e2, e3⟩, s2⟩ := sp
    exact (pz_lower hB' hL hl hk hl' hmc (e := e) (by omega) e2).2 e3 (by omega)
