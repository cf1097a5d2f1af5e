set_option maxRecDepth 10000 in
theorem pz_climb0 {N : Nat → Nat} {set bass low high L : Nat} (hset : set < 4096) (hb12 : bass < 12) (hsb : set.testBit bass = true) (hL : L % 12 = bass) (hlow : low ≤ L) (hLh : L ≤ high) (hh : high < 128) (h36 : high - low ≤ 36) (hN : ∀ k, k < 128 → N k ≤ 127) (I : Nat → Int32) (Lg : Nat → Int64) (A : Nat → Nat → Int32) (hT : pzBt N (pzOff set bass) bass low high (Lg 4) (I 5) L 0) (hA : ∀ k, low ≤ k → k ≤ high → A 2 k = pzN (N k)) :
    ∃ I' Lg' A', fX7_climb I Lg A (pzN set) (pzN L) (pzN low) (pzN high) = some (I', Lg', A') ∧ pzBt N (pzOff set bass) bass low high (Lg' 4) (I' 5) L (high + 1 - L) ∧ (∀ j, j ≠ 5 → I' j = I j) ∧ ∀ j, j ≠ 3 → A' j = A j := by
  obtain ⟨o1, o2, o3⟩ := pz_off hset hb12
  have hbass : (pzOff set bass).testBit bass = false := by
    have : ¬ (pzOff set bass).testBit bass = true := fun q => ((o3 bass hb12).mp q).2 rfl
    simpa using this
  have e132 : pzN 1 <<< (pzN bass &&& 31) = pzN (1 <<< bass) := pzN_shl 1 (by omega)
  generalize hl0 : pzOff set bass = l0 at *
  -- after the lowest key
  generalize hA1 : va_up A 3 (upd (A 3) bass (pzN L)) = A1
  have hA2 : ∀ k, low ≤ k → k ≤ high → A1 2 k = pzN (N k) := by rw [← hA1, pz_va_ne _ _ (by decide)]; exact hA
  have hC0 : pzCl N l0 low L 0 A1 l0 (N L) (1 <<< (L - low)) := by
    refine ⟨o2, fun p hp => ⟨fun q => ⟨q, rfl⟩, fun q => q.1⟩, (fun p j hp hb hc => by cases hc), ?_, ?_, fun x hx => ?_⟩
    · have h0 : pzSq (pzVb N l0 L 0) 12 ≤ 12 * 0 := pzSq_bound 12 (fun p hp => by
        unfold pzVb
        split
        · exact Nat.le_refl 0
        · exact Nat.le_refl 0)
      omega
    · show 1 <<< (L - low) < 2 ^ 37
      rw [Nat.one_shiftLeft]
      exact Nat.pow_lt_pow_right (by omega) (by omega)
    · rw [Nat.one_shiftLeft, Nat.testBit_two_pow, decide_eq_true_eq]
      constructor
      · intro q; exact Or.inl (by omega)
      · rintro (q | ⟨_, q⟩)
        · omega
        · cases q
  have hal := pzCl_al hC0
  have rest : ∀ (I1 : Nat → Int32) (Lg1 : Nat → Int64), pzBt N l0 bass low high (Lg1 4) (I1 5) L 1 → ∃ I' Lg' A', fX7_climb_12 3999 I1 Lg1 A1 (pzN set) (pzN L) (pzN low) (pzN high) (pzN l0) (pzN (N L)) (pzL64 (1 <<< (L - low))) (pzN (L + 1)) = some (I', Lg', A') ∧ pzBt N l0 bass low high (Lg' 4) (I' 5) L (high + 1 - L) ∧ (∀ j, j ≠ 5 → I' j = I1 j) ∧ ∀ j, j ≠ 3 → A' j = A j := by
    intro I1 Lg1 hT1
    obtain ⟨I', Lg', A', m1, m2, m3, m4⟩ := pz_climb hset o3 hL hbass hlow hh h36 hN (high - L) 0 3999 I1 Lg1 A1 l0 (N L) (1 <<< (L - low)) (by omega) (by omega) hC0 hT1 hA2
    exact ⟨I', Lg', A', m1, m2, m3, fun j hj => (m4 j hj).trans (by rw [← hA1, pz_va_ne _ _ hj])⟩
  unfold fX7_climb
  show ∃ I' Lg' A', fX7_climb_12B (fX7_climb_12 3999) I Lg A (pzN set) (pzN L) (pzN low) (pzN high) (pzN set) 0 0 (pzN L) = _ ∧ _
  unfold fX7_climb_12B
  rw [if_neg (by rw [pzN_lt (by omega) (by omega)]; omega), if_pos ((pzN_le (by omega) (by omega)).mpr (Nat.le_refl _)), show (12 : Int32) = pzN 12 from rfl, pzN_jrem (by omega) (by omega), show (1 : Int32) = pzN 1 from rfl, hL, e132]
  unfold fX7_climb_52
  rw [if_pos rfl, if_neg (show ¬ (pzN set &&& pzN (1 <<< bass) = 0) from fun q => (pz_andBit hset hb12).mp q hsb), if_neg (show ¬ (pzN set &&& pzN (1 <<< bass) = 0) from fun q => (pz_andBit hset hb12).mp q hsb)]
  unfold fX7_climb_137
  have o1' : pzN set &&& (pzN (1 <<< bass) ^^^ (-1)) = pzN l0 := by rw [← o1, show (1 : Int32) = pzN 1 from rfl, e132]
  have i0 : (0 : Int64) ||| pzL64 (1 <<< (L - low)) = pzL64 (1 <<< (L - low)) := by
    rw [show (0 : Int64) = pzL64 0 from rfl, pzL_or, Nat.zero_or]
  have n0 : (0 : Int32) + pzN (N L) = pzN (N L) := by rw [show (0 : Int32) = pzN 0 from rfl, pzN_add, Nat.zero_add]
  rw [pz_gd2 (by omega) (by omega), pzN_clamp (by omega), pz_entry2 hA hlow hLh hh, Option.bind_some, o1', pzN_sub hlow, show (1 : Int64) = pzL64 1 from rfl, pzL_shl 1 (by omega), i0, n0, hA1, pzN_suc]
  have z : (pzN l0 = 0) ↔ l0 = 0 := pzN_inj (b := 0) (by omega) (by omega)
  by_cases hz : l0 = 0
  · have hal' := hal.mp hz
    have hcost : pzN L - pzN L + pzN (N L) = pzN (pzCo N l0 L 0) := by
      rw [pzN_sub (Nat.le_refl _), pzN_add]
      congr 1
      have := hC0.2.2.2.1
      rw [pzVb_va hal'] at this
      unfold pzCo
      omega
    rw [if_pos (z.mpr hz), hcost]
    obtain ⟨I2, Lg2, k1, k2, k3⟩ := pz_offer A1 hT hL hlow (show L + 0 ≤ high by omega) hh hal' hN hC0.2.2.2.2 h36
    rw [k1]
    simp only [Option.bind_some]
    obtain ⟨I3, Lg3, A3, m1, m2, m3, m4⟩ := rest I2 Lg2 k2
    exact ⟨I3, Lg3, A3, m1, m2, fun j hj => (m3 j hj).trans (k3 j hj), m4⟩
  · rw [if_neg (fun q => hz (z.mp q))]
    have hal' : pzAl N l0 L 0 12 = false := by
      have : ¬ pzAl N l0 L 0 12 = true := fun q => hz (hal.mpr q)
      simpa using this
    exact rest I Lg (pzBt_no hT hal')
/-- what is found: nothing, or the best -/
def pzFo (N : Nat → Nat) (l0 bass low high : Nat) (b4 : Int64) : Prop :=
  (b4 = 0 ∧ ∀ L d, L % 12 = bass → low ≤ L → L + d ≤ high → pzAl N l0 L d 12 = false) ∨ ∃ L d tk, pzBest N l0 bass low high L d ∧ b4 = pzL64 tk ∧ tk ≠ 0 ∧ pzTk N l0 low L d tk
set_option maxRecDepth 10000 in
theorem pz_find37 {N : Nat → Nat} {set bass low high : Nat} (hset : set < 4096) (hb12 : bass < 12) (hsb : set.testBit bass = true) (hh : high < 128) (h36 : high - low ≤ 36) (hN : ∀ k, k < 128 → N k ≤ 127) :
    ∀ e k f (I : Nat → Int32) (Lg : Nat → Int64) (A : Nat → Nat → Int32), low ≤ k → k + e = high + 1 → e < f → pzBt N (pzOff set bass) bass low high (Lg 4) (I 5) k 0 → (∀ k, low ≤ k → k ≤ high → A 2 k = pzN (N k)) →
    ∃ I' Lg' A', fX7_find_37 f I Lg A (pzN set) (pzN bass) (pzN low) (pzN high) (pzN k) = (if lg_cmp (Lg' 4) 0 = 0 then some ((0 : Int32), I', Lg', A') else (fX7_take I' Lg' A' (pzN low) (pzN high)).bind fun (I8, L9, A10) => some ((1 : Int32), I8, L9, A10)) ∧ pzFo N (pzOff set bass) bass low high (Lg' 4) ∧ (∀ j, j ≠ 5 → I' j = I j) ∧ ∀ j, j ≠ 3 → A' j = A j
  | e, k, 0, I, Lg, A, _, _, hf, _, _ => by omega
  | 0, k, f + 1, I, Lg, A, hlow, hk, hf, hT, hA => by
    show ∃ I' Lg' A', fX7_find_37B (fX7_find_37 f) I Lg A (pzN set) (pzN bass) (pzN low) (pzN high) (pzN k) = _ ∧ _
    unfold fX7_find_37B
    rw [if_pos (by rw [pzN_lt (by omega) (by omega)]; omega)]
    refine ⟨I, Lg, A, rfl, ?_, fun _ _ => rfl, fun _ _ => rfl⟩
    have pr : ∀ L' d', L' % 12 = bass → low ≤ L' → L' + d' ≤ high → pzPr bass low high k 0 L' d' := fun L' d' a b c => ⟨a, b, c, Or.inl (by omega)⟩
    rcases hT with ⟨h1, h2⟩ | ⟨Ls, ds, tk, h1, h2, h3, h4, h5, h6, h7⟩
    · exact Or.inl ⟨h1, fun L' d' a b c => h2 L' d' (pr L' d' a b c)⟩
    · exact Or.inr ⟨Ls, ds, tk, ⟨h1.1, h1.2.1, h1.2.2.1, h2, fun L' d' a b c hal => h7 L' d' (pr L' d' a b c) hal⟩, h3, h4, h5⟩
  | e + 1, k, f + 1, I, Lg, A, hlow, hk, hf, hT, hA => by
    show ∃ I' Lg' A', fX7_find_37B (fX7_find_37 f) I Lg A (pzN set) (pzN bass) (pzN low) (pzN high) (pzN k) = _ ∧ _
    unfold fX7_find_37B
    rw [if_neg (by rw [pzN_lt (by omega) (by omega)]; omega), show (12 : Int32) = pzN 12 from rfl, pzN_jrem (by omega) (by omega), pzN_suc]
    -- the pairs are the same
    have mono : ∀ (b4 : Int64) (c5 : Int32) n, pzBt N (pzOff set bass) bass low high b4 c5 k n → (∀ L' d', pzPr bass low high (k + 1) 0 L' d' ↔ pzPr bass low high k n L' d') → pzBt N (pzOff set bass) bass low high b4 c5 (k + 1) 0 := by
      intro b4 c5 n h hiff
      rcases h with ⟨h1, h2⟩ | ⟨Ls, ds, tk, h1, h2, h3, h4, h5, h6, h7⟩
      · exact Or.inl ⟨h1, fun L' d' hp => h2 L' d' ((hiff L' d').mp hp)⟩
      · exact Or.inr ⟨Ls, ds, tk, (hiff Ls ds).mpr h1, h2, h3, h4, h5, h6, fun L' d' hp => h7 L' d' ((hiff L' d').mp hp)⟩
    by_cases hm : k % 12 = bass
    · rw [if_pos (by rw [hm])]
      obtain ⟨I1, Lg1, A1, m1, m2, m3, m4⟩ := pz_climb0 hset hb12 hsb hm hlow (show k ≤ high by omega) hh h36 hN I Lg A hT hA
      rw [m1]
      simp only [Option.bind_some]
      obtain ⟨I2, Lg2, A2, q1, q2, q3, q4⟩ := pz_find37 hset hb12 hsb hh h36 hN e (k + 1) f I1 Lg1 A1 (by omega) (by omega) (by omega) (mono _ _ _ m2 (fun L' d' => by
        unfold pzPr
        constructor
        · rintro ⟨a, b, c, d⟩
          exact ⟨a, b, c, by omega⟩
        · rintro ⟨a, b, c, d⟩
          exact ⟨a, b, c, by omega⟩)) (by rw [m4 2 (by decide)]; exact hA)
      exact ⟨I2, Lg2, A2, q1, q2, fun j hj => (q3 j hj).trans (m3 j hj), fun j hj => (q4 j hj).trans (m4 j hj)⟩
    · rw [if_neg (by rw [pzN_inj (by omega) (by omega)]; exact hm)]
      exact pz_find37 hset hb12 hsb hh h36 hN e (k + 1) f I Lg A (by omega) (by omega) (by omega) (mono _ _ _ hT (fun L' d' => by
        unfold pzPr
        constructor
        · rintro ⟨a, b, c, d⟩
          refine ⟨a, b, c, ?_⟩
          have : L' ≠ k := fun q => hm (by rw [← q]; exact a)
          omega
        · rintro ⟨a, b, c, d⟩
          exact ⟨a, b, c, by omega⟩)) hA
set_option maxRecDepth 10000 in
theorem pz_awayFill {ky : Nat → Nat} {kn low high : Nat} (h12 : kn ≤ 12) (hh : high < 128) {I : Nat → Int32} {Lg : Nat → Int64} (hI : I 1 = pzN kn) (v1 v2 : Int32) : ∀ e k f (A : Nat → Nat → Int32), low ≤ k → k + e = high + 1 → e < f → (∀ i, i < kn → A 0 i = pzN (ky i) ∧ ky i < 128) → (∀ i, low ≤ i → i < k → A 2 i = pzN (pzNr ky kn i)) →
    ∃ A', fX7_find_3 f I Lg A v1 v2 (pzN low) (pzN high) (pzN k) = fX7_find_37 FU I (vp_updL Lg 4 0) A' v1 v2 (pzN low) (pzN high) (pzN low) ∧ (∀ i, low ≤ i → i ≤ high → A' 2 i = pzN (pzNr ky kn i)) ∧ ∀ i, i ≠ 2 → A' i = A i
  | e, k, 0, A, _, _, hf, _, _ => by omega
  | 0, k, f + 1, A, hlow, hk, hf, h0, h2 => by
    show ∃ A', fX7_find_3B (fX7_find_3 f) I Lg A v1 v2 (pzN low) (pzN high) (pzN k) = _ ∧ _
    unfold fX7_find_3B
    rw [if_pos (by rw [pzN_lt (by omega) (by omega)]; omega)]
    exact ⟨A, rfl, fun i a b => h2 i a (by omega), fun _ _ => rfl⟩
  | e + 1, k, f + 1, A, hlow, hk, hf, h0, h2 => by
    show ∃ A', fX7_find_3B (fX7_find_3 f) I Lg A v1 v2 (pzN low) (pzN high) (pzN k) = _ ∧ _
    unfold fX7_find_3B
    rw [if_neg (by rw [pzN_lt (by omega) (by omega)]; omega), pz_cnear h12 hI h0 (show k < 128 by omega), Option.bind_some, pz_gd2 (by omega) (by omega), pzN_clamp (by omega), pzN_suc]
    obtain ⟨A', q1, q2, q3⟩ := pz_awayFill (low := low) (high := high) (ky := ky) (Lg := Lg) h12 hh hI v1 v2 e (k + 1) f (va_up A 2 (upd (A 2) k (pzN (pzNr ky kn k)))) (by omega) (by omega) (by omega) (by rw [pz_va_ne _ _ (by decide)]; exact h0) (by
      intro i a b
      rw [pz_va_eq]
      by_cases ei : i = k
      · subst ei; rw [pz_upd_eq]
      · rw [pz_upd_ne _ _ ei, h2 i a (by omega)])
    exact ⟨A', q1, q2, fun i hi => (q3 i hi).trans (pz_va_ne _ _ hi)⟩
set_option maxRecDepth 10000 in
theorem pz_bit64 {tk x : Nat} (ht : tk < 137438953472) (hx : x < 37) : (lg_cmp ((pzL64 tk >>> ((pzN x).toInt64 &&& 63)) &&& 1) 0 = 0) ↔ ¬ tk.testBit x = true := by
  rw [pz_lg, pzL_shr (by omega) (by omega), show (1 : Int64) = pzL64 1 from rfl, pzL_and, pz_and1, show (0 : Int64) = pzL64 0 from rfl]
  by_cases hb : tk.testBit x = true
  · rw [if_pos hb, pzL_inj (by omega) (by omega)]
    exact ⟨fun q => by omega, fun q => absurd hb q⟩
  · rw [if_neg hb]
    exact ⟨fun _ => hb, fun _ => rfl⟩
set_option maxRecDepth 10000 in
theorem pz_take {tk low high : Nat} (ht : tk < 137438953472) (hh : high < 128) (h36 : high - low ≤ 36) {Lg : Nat → Int64} (hL : Lg 4 = pzL64 tk) (hF : ((List.range' low (high + 1 - low)).filter (fun k => tk.testBit (k - low))).length ≤ 12) :
    ∀ e k f (I : Nat → Int32) (A : Nat → Nat → Int32), low ≤ k → k + e = high + 1 → e < f → I 1 = pzN ((List.range' low (k - low)).filter (fun k => tk.testBit (k - low))).length → (∀ j, j < ((List.range' low (k - low)).filter (fun k => tk.testBit (k - low))).length → A 0 j = pzN (((List.range' low (k - low)).filter (fun k => tk.testBit (k - low))).getD j 0)) →
    ∃ I' A', fX7_take_7 f I Lg A (pzN low) (pzN high) (pzN k) = some (I', Lg, A') ∧ I' 1 = pzN ((List.range' low (high + 1 - low)).filter (fun k => tk.testBit (k - low))).length ∧ ∀ j, j < ((List.range' low (high + 1 - low)).filter (fun k => tk.testBit (k - low))).length → A' 0 j = pzN (((List.range' low (high + 1 - low)).filter (fun k => tk.testBit (k - low))).getD j 0)
  | e, k, 0, I, A, _, _, hf, _, _ => by omega
  | 0, k, f + 1, I, A, hlow, hk, hf, h1, h0 => by
    have : k = high + 1 := by omega
    subst this
    show ∃ I' A', fX7_take_7B (fX7_take_7 f) I Lg A (pzN low) (pzN high) (pzN (high + 1)) = _ ∧ _
    unfold fX7_take_7B
    rw [if_pos (by rw [pzN_lt (by omega) (by omega)]; omega)]
    exact ⟨I, A, rfl, h1, h0⟩
  | e + 1, k, f + 1, I, A, hlow, hk, hf, h1, h0 => by
    have hsplit : List.range' low (k + 1 - low) = List.range' low (k - low) ++ [k] := by
      rw [show k + 1 - low = (k - low) + 1 by omega, List.range'_1_concat, show low + (k - low) = k by omega]
    have hle : ((List.range' low (k + 1 - low)).filter (fun k => tk.testBit (k - low))).length ≤ 12 := by
      have e1 : List.range' low (high + 1 - low) = List.range' low (k + 1 - low) ++ List.range' (k + 1) (high - k) := by
        have h2 : List.range' low (k + 1 - low) ++ List.range' (low + (k + 1 - low)) (high - k) = List.range' low ((k + 1 - low) + (high - k)) := List.range'_append_1
        rw [show low + (k + 1 - low) = k + 1 by omega] at h2
        rw [h2]; congr 1; omega
      rw [e1, List.filter_append, List.length_append] at hF
      omega
    rw [hsplit, List.filter_append] at hle
    have ih := fun I A => pz_take ht hh h36 hL hF e (k + 1) f I A (by omega) (by omega) (by omega)
    rw [hsplit, List.filter_append] at ih
    show ∃ I' A', fX7_take_7B (fX7_take_7 f) I Lg A (pzN low) (pzN high) (pzN k) = _ ∧ _
    unfold fX7_take_7B
    rw [if_neg (by rw [pzN_lt (by omega) (by omega)]; omega), pzN_sub hlow, hL, pzN_suc]
    generalize hM : (List.range' low (k - low)).filter (fun k => tk.testBit (k - low)) = M at *
    by_cases hb : tk.testBit (k - low) = true
    · rw [if_neg (fun q => (pz_bit64 ht (show k - low < 37 by omega)).mp q hb), h1]
      rw [List.filter_cons_of_pos (by simpa using hb), List.filter_nil] at ih hle
      rw [List.length_append, List.length_cons, List.length_nil] at hle
      rw [if_neg (by rw [show (12 : Int32) = pzN 12 from rfl, pzN_le (by omega) (by omega)]; omega), pz_gd2 (by omega) (by omega), pzN_clamp (by omega), pzN_suc]
      refine ih _ _ (by rw [pz_upd_eq, List.length_append]; rfl) (fun j hj => ?_)
      rw [pz_va_eq, pz_getD_app]
      rw [List.length_append] at hj
      by_cases ej : j = M.length
      · subst ej; rw [pz_upd_eq, if_neg (by omega), if_pos rfl]
      · have hj2 : j < M.length := by simp at hj; omega
        rw [pz_upd_ne _ _ ej, if_pos hj2, h0 j hj2]
    · rw [if_pos ((pz_bit64 ht (show k - low < 37 by omega)).mpr hb)]
      rw [List.filter_cons_of_neg (by simpa using hb), List.filter_nil, List.append_nil] at ih
      exact ih I A h1 h0
set_option maxRecDepth 10000 in
theorem pz_tkSk {N : Nat → Nat} {l0 bass low high L d tk : Nat} (hB : pzBest N l0 bass low high L d) (ht : pzTk N l0 low L d tk) (h36 : high - low ≤ 36) : (List.range' low (high + 1 - low)).filter (fun k => tk.testBit (k - low)) = pzFk N l0 low high L d := by
  unfold pzFk
  apply List.filter_congr
  intro x hx
  rw [List.mem_range'_1] at hx
  have h12 : x % 12 < 12 := Nat.mod_lt _ (by omega)
  rw [Bool.eq_iff_iff, ht.2 (x - low) (by omega), show low + (x - low) = x by omega]
  unfold pzSk
  rw [Bool.or_eq_true, Bool.and_eq_true]
  constructor
  · rintro (q | ⟨q1, q2⟩)
    · left; simpa using q
    · right
      refine ⟨q1, ?_⟩
      unfold pzKc
      rw [q2]
      simp
  · rintro (q | ⟨q1, q2⟩)
    · left; simpa using q
    · right
      have q2 : pzKc N L d (x % 12) = x := by simpa using q2
      have := (pzKc_spec hB.2.2.2.1 h12 q1).1
      rw [q2] at this
      exact ⟨q1, this⟩
set_option maxRecDepth 10000 in
theorem pz_cvoice {I : Nat → Int32} {Lg : Nat → Int64} {A : Nat → Nat → Int32} {ky : Nat → Nat} {kn set bass low high : Nat} (h12 : kn ≤ 12) (hI : I 1 = pzN kn) (hk : ∀ i, i < kn → A 0 i = pzN (ky i) ∧ ky i < 128) (hset : set < 4096) (hb12 : bass < 12) (hsb : set.testBit bass = true) (hlh : low ≤ high) (hh : high < 128) (h36 : high - low ≤ 36) :
    (∃ L d, pzBest (pzNr ky kn) (pzOff set bass) bass low high L d ∧ ∃ I' Lg' A', fX7_find I Lg A (pzN set) (pzN bass) (pzN low) (pzN high) = some (1, I', Lg', A') ∧ I' 1 = pzN (pzFk (pzNr ky kn) (pzOff set bass) low high L d).length ∧ ∀ j, j < (pzFk (pzNr ky kn) (pzOff set bass) low high L d).length → A' 0 j = pzN ((pzFk (pzNr ky kn) (pzOff set bass) low high L d).getD j 0)) ∨
    ((∀ L d, L % 12 = bass → low ≤ L → L + d ≤ high → pzAl (pzNr ky kn) (pzOff set bass) L d 12 = false) ∧ ∃ I' Lg' A', fX7_find I Lg A (pzN set) (pzN bass) (pzN low) (pzN high) = some (0, I', Lg', A') ∧ I' 1 = I 1 ∧ A' 0 = A 0) := by
  have hN : ∀ k, k < 128 → pzNr ky kn k ≤ 127 := fun k _ => pzNr_le ky kn k
  obtain ⟨A1, g1, g2, g3⟩ := pz_awayFill (ky := ky) (low := low) (high := high) (Lg := Lg) h12 hh hI (pzN set) (pzN bass) (high + 1 - low) low FU A (Nat.le_refl _) (by omega) (by unfold FU; omega) hk (fun i a b => by omega)
  have hT : pzBt (pzNr ky kn) (pzOff set bass) bass low high ((vp_updL Lg 4 0) 4) (I 5) low 0 := by
    refine Or.inl ⟨by simp [vp_updL], fun L' d' hp => ?_⟩
    obtain ⟨a, b, c, d⟩ := hp
    omega
  obtain ⟨I2, Lg2, A2, q1, q2, q3, q4⟩ := pz_find37 hset hb12 hsb hh h36 hN (high + 1 - low) low FU I (vp_updL Lg 4 0) A1 (Nat.le_refl _) (by omega) (by unfold FU; omega) hT g2
  unfold fX7_find
  rw [g1, q1]
  rcases q2 with ⟨h0, hno⟩ | ⟨L, d, tk, hB, h4, h5, h6⟩
  · right
    refine ⟨hno, I2, Lg2, A2, by rw [if_pos ((pz_lg _).mpr h0)], q3 1 (by decide), ?_⟩
    rw [q4 0 (by decide), g3 0 (by decide)]
  · left
    obtain ⟨o1, o2, o3⟩ := pz_off hset hb12
    have hbass : (pzOff set bass).testBit bass = false := by
      have : ¬ (pzOff set bass).testBit bass = true := fun q => ((o3 bass hb12).mp q).2 rfl
      simpa using this
    have hF := pz_tkSk hB h6 h36
    have hF12 := pzFk_len hB hb12 hbass
    have hne : ¬ lg_cmp (Lg2 4) 0 = 0 := by
      rw [pz_lg, h4]
      intro q
      exact h5 ((pzL_inj (a := tk) (b := 0) (by have := h6.1; omega) (by omega)).mp q)
    refine ⟨L, d, hB, ?_⟩
    rw [if_neg hne]
    unfold fX7_take
    obtain ⟨I3, A3, w1, w2, w3⟩ := pz_take h6.1 hh h36 h4 (by rw [hF]; exact hF12) (high + 1 - low) low FU (upd I2 1 0) A2 (Nat.le_refl _) (by omega) (by unfold FU; omega) (by rw [pz_upd_eq, Nat.sub_self]; rfl) (fun j hj => by rw [Nat.sub_self] at hj; simp at hj)
    rw [hF] at w2 w3
    rw [w1]
    exact ⟨I3, Lg2, A3, rfl, w2, w3⟩
set_option maxRecDepth 10000 in
theorem pz_hS10 : hS10 pzRel := by
  intro c u x y w h
  obtain ⟨r0, r1, r2, ⟨kn, hkn, v1, v2, v3⟩, r4, r5, r6⟩ := id h
  unfold cS10 mS10 fX8_voice fX9_voice
  rcases pz_at BM h x with ⟨i, t, s, b, z, hi, h100, rfl, hk, hc, e1, e2⟩ | ⟨e1, e2⟩
  · obtain ⟨ht, hb, hs, hz, a0, a1, a2, a3, a4, a5, ar⟩ := id hc
    rw [e1, e2, Option.bind_some, if_neg (show ¬ (1 : Int32) = 0 by decide)]
    have isk : ∀ q : Int32, fX8_isKey q = if q < 0 then 0 else if 127 < q then 0 else 1 := fun _ => rfl
    have isi : ∀ q p : Int32, fX9_isIn q p 127 = if q < p then 0 else if 127 < q then 0 else 1 := fun _ _ => rfl
    have bad : pzRel c u := h
    by_cases y0 : y < 0
    · rw [show fX8_isKey y = 0 by rw [isk, if_pos y0], if_pos rfl, show fX9_isIn y 0 127 = 0 by rw [isi, if_pos y0], if_pos rfl]
      exact ⟨-1, c, u, rfl, rfl, h⟩
    by_cases y1 : 127 < y
    · rw [show fX8_isKey y = 0 by rw [isk, if_neg y0, if_pos y1], if_pos rfl, show fX9_isIn y 0 127 = 0 by rw [isi, if_neg y0, if_pos y1], if_pos rfl]
      exact ⟨-1, c, u, rfl, rfl, h⟩
    rw [show fX8_isKey y = 1 by rw [isk, if_neg y0, if_neg y1], if_neg (show ¬ (1 : Int32) = 0 by decide), show fX9_isIn y 0 127 = 1 by rw [isi, if_neg y0, if_neg y1], if_neg (show ¬ (1 : Int32) = 0 by decide)]
    obtain ⟨ey, hly⟩ := pzN_of (pz_not_neg y0)
    generalize y.toNatClampNeg = low at *
    subst ey
    have hlow : low < 128 := by
      have : ¬ (127 < low) := fun q => y1 ((pzN_lt (a := 127) (by omega) hly).mpr q)
      omega
    by_cases w0 : w < 0
    · have hlt : w < pzN low := by
        rw [Int32.lt_iff_toInt_lt] at *
        rw [pzN_toInt hly]
        have m0 : (0 : Int32).toInt = 0 := rfl
        omega
      rw [show fX8_isKey w = 0 by rw [isk, if_pos w0], if_pos rfl, show fX9_isIn w (pzN low) 127 = 0 by rw [isi, if_pos hlt], if_pos rfl]
      exact ⟨-1, c, u, rfl, rfl, h⟩
    obtain ⟨ew, hlw⟩ := pzN_of (pz_not_neg w0)
    generalize w.toNatClampNeg = high at *
    subst ew
    have wlt : (pzN high < pzN low) ↔ high < low := pzN_lt hlw hly
    by_cases w1 : 127 < pzN high
    · have hii : fX9_isIn (pzN high) (pzN low) 127 = 0 := by
        rw [isi]
        by_cases hq : pzN high < pzN low
        · rw [if_pos hq]
        · rw [if_neg hq, if_pos w1]
      rw [show fX8_isKey (pzN high) = 0 by rw [isk, if_neg w0, if_pos w1], if_pos rfl, hii, if_pos rfl]
      exact ⟨-1, c, u, rfl, rfl, h⟩
    have hhigh : high < 128 := by
      have : ¬ (127 < high) := fun q => w1 ((pzN_lt (a := 127) (by omega) hlw).mpr q)
      omega
    rw [show fX8_isKey (pzN high) = 1 by rw [isk, if_neg w0, if_neg w1], if_neg (show ¬ (1 : Int32) = 0 by decide)]
    by_cases hq : high < low
    · rw [if_pos (wlt.mpr hq), show fX9_isIn (pzN high) (pzN low) 127 = 0 by rw [isi, if_pos (wlt.mpr hq)], if_pos rfl]
      exact ⟨-1, c, u, rfl, rfl, h⟩
    rw [if_neg (fun q => hq (wlt.mp q)), show fX9_isIn (pzN high) (pzN low) 127 = 1 by rw [isi, if_neg (fun q => hq (wlt.mp q)), if_neg w1], if_neg (show ¬ (1 : Int32) = 0 by decide), pzN_sub (by omega)]
    have wle : (pzN (high - low) ≤ 36) ↔ high - low ≤ 36 := pzN_le (b := 36) (by omega) (by omega)
    by_cases h36 : high - low ≤ 36
    · rw [if_pos (wle.mpr h36), if_pos (wle.mpr h36), pzN_clamp (n := i) (by omega)]
      have pb := pzPi_lt b
      obtain ⟨sb1, sb2⟩ := pz_setBit (p := pzPi t) (s := s) pb
      rw [pz_cpitches ht hb hs.1 hk, Option.bind_some, hk.2.2.1, pz_pitch b hb, Option.bind_some, pz_set BM u.1 h100 hc, Option.bind_some, pz_bass BM u.1 h100 hc, Option.bind_some]
      generalize pzSet (pzPi t) s (1 <<< pzPi b) = set at *
      generalize pzPi b = bass at *
      obtain ⟨o1, o2, o3⟩ := pz_off sb2 pb
      have hbass : (pzOff set bass).testBit bass = false := by
        have : ¬ (pzOff set bass).testBit bass = true := fun q => ((o3 bass pb).mp q).2 rfl
        simpa using this
      rw [o1]
      -- the keys before
      have hky : ∃ ky : Nat → Nat, (∀ j, j < kn → u.2 11 j = pzN (ky j) ∧ ky j < 128) ∧ ∀ j, j < kn → c.2.2.2.1 3 0 j = pzN (ky j) ∧ ky j < 128 := by
        refine ⟨fun j => (u.2 11 j).toNatClampNeg, fun j hj => ?_, fun j hj => ?_⟩
        · obtain ⟨_, v, vl, ve⟩ := v3 j hj
          dsimp only
          rw [ve, pzN_clamp (by omega)]
          exact ⟨rfl, vl⟩
        · obtain ⟨q, v, vl, ve⟩ := v3 j hj
          dsimp only
          rw [← q, ve, pzN_clamp (by omega)]
          exact ⟨rfl, vl⟩
      obtain ⟨ky, ky1, ky2⟩ := hky
      have hM := pz_mvoice (I := u.1) (A := u.2) hkn v2 ky1 (l0 := pzOff set bass) (bass := bass) (low := low) (high := high) o2 pb hbass (by omega) hhigh
      -- what is kept
      have rel : ∀ (I1 : Nat → Int32) (L1 : Nat → Int64) (A1 : Nat → Nat → Int32) (I2 : Nat → Int32) (A2 : Nat → Nat → Int32), pzR3 12 (I1 1) (I2 12) (A1 0) (A2 11) → (∀ j, j ≠ 12 → j ≠ 35 → I2 j = u.1 j) → (∀ j, j ≠ 11 → j ≠ 33 → j ≠ 34 → A2 j = u.2 j) → pzRel (c.1, c.2.1, va_up c.2.2.1 3 I1, va_up c.2.2.2.1 3 A1, L1) (I2, A2) := by
        intro I1 L1 A1 I2 A2 hr3 fi fa
        unfold pzRel
        dsimp only
        rw [pz_va_ne _ _ (show 0 ≠ 3 by decide), pz_va_ne _ _ (show 1 ≠ 3 by decide), pz_va_ne _ _ (show 2 ≠ 3 by decide), pz_va_eq, pz_va_ne _ _ (show 4 ≠ 3 by decide), pz_va_ne _ _ (show 1 ≠ 3 by decide), pz_va_ne _ _ (show 2 ≠ 3 by decide), pz_va_eq, pz_va_ne _ _ (show 4 ≠ 3 by decide)]
        rw [fi 6 (by decide) (by decide), fi 1 (by decide) (by decide), fi 10 (by decide) (by decide), fi 8 (by decide) (by decide), fa 0 (by decide) (by decide) (by decide), fa 9 (by decide) (by decide) (by decide), fa 7 (by decide) (by decide) (by decide)]
        exact ⟨pzR0_congr r0 (fa 2 (by decide) (by decide) (by decide)) (fa 3 (by decide) (by decide) (by decide)) (fa 4 (by decide) (by decide) (by decide)) (fa 5 (by decide) (by decide) (by decide)), r1, r2, hr3, r4, pzB_congr r5 (fa 13 (by decide) (by decide) (by decide)) (fa 14 (by decide) (by decide) (by decide)) (fa 15 (by decide) (by decide) (by decide)), r6⟩
      rcases pz_cvoice (I := c.2.2.1 3) (Lg := c.2.2.2.2) (A := c.2.2.2.1 3) hkn v1 ky2 sb2 pb sb1 (show low ≤ high by omega) hhigh h36 with ⟨L, d, hB, I1, L1, A1, g1, g2, g3⟩ | ⟨hno, I1, L1, A1, g1, g2, g3⟩
      · obtain ⟨I2, A2, m1, m2, m3, m4, m5⟩ := hM.1 L d hB
        have hF12 := pzFk_len hB pb hbass
        refine ⟨pzN (pzFk (pzNr ky kn) (pzOff set bass) low high L d).length, _, (I2, A2), ?_, m1, rel I1 L1 A1 I2 A2 ⟨(pzFk (pzNr ky kn) (pzOff set bass) low high L d).length, hF12, g2, m2, fun k hkk => ⟨by rw [m3 k hkk, g3 k hkk], _, ?_, m3 k hkk⟩⟩ m4 m5⟩
        · rw [g1]
          simp only [Option.bind_some]
          rw [if_neg (show ¬ (1 : Int32) = 0 by decide), g2]
          rfl
        · have hmem : (pzFk (pzNr ky kn) (pzOff set bass) low high L d).getD k 0 ∈ pzFk (pzNr ky kn) (pzOff set bass) low high L d := pz_mem.mpr ⟨k, hkk, rfl⟩
          unfold pzFk at hmem
          rw [List.mem_filter, List.mem_range'_1] at hmem
          unfold pzFk
          omega
      · obtain ⟨I2, A2, m1, m2, m3⟩ := hM.2 hno
        refine ⟨-2, _, (I2, A2), ?_, m1, rel I1 L1 A1 I2 A2 ?_ (fun j a b => m2 j b) (fun j a b c => m3 j b c)⟩
        · rw [g1]
          simp only [Option.bind_some]
          rw [if_pos trivial]
          rfl
        · rw [g2, g3, m2 12 (by decide), m3 11 (by decide) (by decide)]
          exact ⟨kn, hkn, v1, v2, v3⟩
    · rw [if_neg (fun q => h36 (wle.mp q)), if_neg (fun q => h36 (wle.mp q))]
      exact ⟨-1, c, u, rfl, rfl, h⟩
  · rw [e1, e2]
    exact ⟨-1, c, u, rfl, rfl, h⟩
set_option maxRecDepth 10000 in
theorem pz_all : hAll pzRel := ⟨pz_hS0, pz_hS1, pz_hS2, pz_hS3, pz_hS4, pz_hS5, pz_hS6, pz_hS7, pz_hS8, pz_hS9, pz_hS10, pz_hS11, pz_hS12, pz_hS13, pz_hS14⟩
def pzIk (z : (Nat → Int32) × (Nat → Nat → Int32)) : Bool :=
  (z.1 1 == 0 && z.1 6 == 0 && z.1 8 == 0 && z.1 10 == 0 && z.1 12 == 0) &&
  (List.range 20).all (fun b => z.2 15 b == pzN (pzP (pzM b)).length && (List.range (pzP (pzM b)).length).all (fun k => z.2 13 (8 * b + k) == pzN (pzH ((pzP (pzM b)).getD k 0)) && z.2 14 (8 * b + k) == pzN (pzD ((pzP (pzM b)).getD k 0))))
set_option maxRecDepth 10000 in
theorem pz_init : fX9_init.map pzIk = some true := by decide +kernel
set_option maxRecDepth 10000 in
theorem pz_init2 : fX2_init.map (fun z => (z.1 2 == 0) && (List.range 20).all (fun b => z.2 0 b == pzN (pzSet 0 (pzM b) 0))) = some true := by decide +kernel
set_option maxRecDepth 10000 in
theorem pz_startM : ∃ zM : MSt, fX9_init = some zM ∧ zM.1 1 = 0 ∧ zM.1 6 = 0 ∧ zM.1 8 = 0 ∧ zM.1 10 = 0 ∧ zM.1 12 = 0 ∧ pzB zM.2 := by
  have h := pz_init
  cases hz : fX9_init with
  | none => rw [hz] at h; cases h
  | some z =>
    rw [hz] at h
    have h : pzIk z = true := Option.some.inj h
    unfold pzIk at h
    simp only [Bool.and_eq_true, beq_iff_eq, List.all_eq_true, List.mem_range] at h
    obtain ⟨⟨⟨⟨⟨h1, h6⟩, h8⟩, h10⟩, h12⟩, hb⟩ := h
    exact ⟨z, rfl, h1, h6, h8, h10, h12, fun b hb2 => ⟨(hb b hb2).1, fun k hk => (hb b hb2).2 k hk⟩⟩
set_option maxRecDepth 10000 in
theorem pz_startN : ∃ zN : (Nat → Int32) × (Nat → Nat → Int32), fX2_init = some zN ∧ zN.1 2 = 0 ∧ pzBs (zN.2 0) := by
  have h := pz_init2
  cases hz : fX2_init with
  | none => rw [hz] at h; cases h
  | some z =>
    rw [hz] at h
    have h := Option.some.inj h
    simp only [Bool.and_eq_true, beq_iff_eq, List.all_eq_true, List.mem_range] at h
    exact ⟨z, rfl, h.1, fun b hb => h.2 b hb⟩
set_option maxRecDepth 10000 in
theorem pz_relStart {zN : (Nat → Int32) × (Nat → Nat → Int32)} {zM : MSt} (n2 : zN.1 2 = 0) (nb : pzBs (zN.2 0)) (h1 : zM.1 1 = 0) (h6 : zM.1 6 = 0) (h8 : zM.1 8 = 0) (h10 : zM.1 10 = 0) (h12 : zM.1 12 = 0) (hb : pzB zM.2) : pzRel (0, (fun _ _ => 0), va_up (fun _ _ => 0) 2 zN.1, va_up (fun _ _ _ => 0) 2 zN.2, (fun _ => 0)) zM := by
  unfold pzRel
  dsimp only
  rw [pz_va_ne _ _ (show 0 ≠ 2 by decide), pz_va_ne _ _ (show 1 ≠ 2 by decide), pz_va_eq, pz_va_ne _ _ (show 3 ≠ 2 by decide), pz_va_ne _ _ (show 4 ≠ 2 by decide), pz_va_ne _ _ (show 1 ≠ 2 by decide), pz_va_eq, pz_va_ne _ _ (show 3 ≠ 2 by decide), pz_va_ne _ _ (show 4 ≠ 2 by decide), h1, h6, h8, h10, h12, n2]
  exact ⟨⟨by omega, rfl, rfl, fun i hi => by omega⟩, ⟨0, by omega, rfl, rfl, fun k hk => by omega⟩, ⟨0, by omega, rfl, rfl, Or.inl rfl⟩, ⟨0, by omega, rfl, rfl, fun k hk => by omega⟩, ⟨0, by omega, rfl, rfl, fun k hk => by omega⟩, hb, nb⟩
