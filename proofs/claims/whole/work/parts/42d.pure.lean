def pzSo (σ : Nat) : Int32 := pzN σ - 1
def pzLf (q : Nat) : Nat → Nat → Option Nat
  | 0, _ => none
  | d + 1, l => if pzL l = q then some l else pzLf q d (l + 1)
def pzCand (p σ : Nat) : Option Nat := (pzLf ((p + 13 - σ) % 12) 7 0).map (fun l => 5 * l + σ + 1)
def pzO1 (o : Option Nat) : Int32 := match o with
  | none => -1
  | some n => pzN n
def pzO2 (o : Option Nat) : Int32 := match o with
  | none => -2
  | some n => pzN (n / 5)
set_option maxRecDepth 10000 in
theorem pz_cand : ∀ p, p < 12 → ∀ σ, σ < 3 → fX3_withSigns (pzN p) (pzSo σ) = some (pzO1 (pzCand p σ)) ∧ fX9_letterOf (pzN p) (pzSo σ) = some (pzO2 (pzCand p σ)) := by decide +kernel
set_option maxRecDepth 10000 in
theorem pz_candOk : ∀ p, p < 12 → ∀ σ, σ < 3 → ((pzCand p σ).all (fun n => decide (n < 35 ∧ pzSg n = pzSo σ ∧ pzPi n = p))) = true := by decide +kernel
set_option maxRecDepth 10000 in
theorem pz_candSome {p σ n : Nat} (hp : p < 12) (hσ : σ < 3) (h : pzCand p σ = some n) : n < 35 ∧ pzSg n = pzSo σ ∧ pzPi n = p := by
  have := pz_candOk p hp σ hσ
  rw [h] at this
  simpa using this
set_option maxRecDepth 10000 in
theorem pz_candEx : ∀ p, p < 12 → (pzCand p 0).isSome = true ∨ (pzCand p 1).isSome = true ∨ (pzCand p 2).isSome = true := by decide +kernel
set_option maxRecDepth 10000 in
theorem pz_so : (∀ σ, σ < 3 → pzSo σ + 1 = pzSo (σ + 1) ∧ ¬ (1 : Int32) < pzSo σ ∧ ¬ pzSo σ = -2) ∧ (1 : Int32) < pzSo 3 := by decide +kernel
def pzUp (w : Nat → Nat) (st : Option (Nat × Nat)) (c : Option Nat) : Option (Nat × Nat) := match c with
  | none => st
  | some n => match st with
    | none => some (n, w n)
    | some (m, v) => if w n < v then some (n, w n) else some (m, v)
def pzBst (w : Nat → Nat) (p : Nat) : Option (Nat × Nat) := pzUp w (pzUp w (pzUp w none (pzCand p 0)) (pzCand p 1)) (pzCand p 2)
def pzG (w : Nat → Nat) (p : Nat) (st : Option (Nat × Nat)) : Prop := ∀ n v, st = some (n, v) → n < 35 ∧ v = w n ∧ pzPi n = p ∧ ∃ σ, σ < 3 ∧ pzCand p σ = some n
set_option maxRecDepth 10000 in
theorem pzG_up {w : Nat → Nat} {p σ : Nat} (hp : p < 12) (hσ : σ < 3) {st : Option (Nat × Nat)} (h : pzG w p st) : pzG w p (pzUp w st (pzCand p σ)) := by
  intro n v e
  unfold pzUp at e
  cases hc : pzCand p σ with
  | none => rw [hc] at e; exact h n v e
  | some k =>
    obtain ⟨c1, c2, c3⟩ := pz_candSome hp hσ hc
    rw [hc] at e
    cases st with
    | none =>
      simp only [Option.some.injEq, Prod.mk.injEq] at e
      obtain ⟨rfl, rfl⟩ := e
      exact ⟨c1, rfl, c3, σ, hσ, hc⟩
    | some mv =>
      obtain ⟨m, v'⟩ := mv
      dsimp only at e
      split at e
      · simp only [Option.some.injEq, Prod.mk.injEq] at e
        obtain ⟨rfl, rfl⟩ := e
        exact ⟨c1, rfl, c3, σ, hσ, hc⟩
      · exact h n v e
set_option maxRecDepth 10000 in
theorem pzUp_isSome {w : Nat → Nat} {st : Option (Nat × Nat)} {c : Option Nat} (h : st.isSome = true ∨ c.isSome = true) : (pzUp w st c).isSome = true := by
  unfold pzUp
  cases c with
  | none => simpa using h
  | some n =>
    cases st with
    | none => rfl
    | some mv => obtain ⟨m, v⟩ := mv; dsimp only; split <;> rfl
set_option maxRecDepth 10000 in
theorem pzBst_spec (w : Nat → Nat) {p : Nat} (hp : p < 12) : ∃ n, pzBst w p = some (n, w n) ∧ n < 35 ∧ pzPi n = p ∧ ∃ σ, σ < 3 ∧ pzCand p σ = some n ∧ pzSg n = pzSo σ := by
  have h : (pzBst w p).isSome = true := by
    unfold pzBst
    rcases pz_candEx p hp with h | h | h
    · exact pzUp_isSome (Or.inl (pzUp_isSome (Or.inl (pzUp_isSome (Or.inr h)))))
    · exact pzUp_isSome (Or.inl (pzUp_isSome (Or.inr h)))
    · exact pzUp_isSome (Or.inr h)
  have g : pzG w p (pzBst w p) := pzG_up hp (by omega) (pzG_up hp (by omega) (pzG_up hp (by omega) (fun n v e => by cases e)))
  cases hb : pzBst w p with
  | none => rw [hb] at h; cases h
  | some nv =>
    obtain ⟨n, v⟩ := nv
    obtain ⟨g1, rfl, g3, σ, g4, g5⟩ := g n v hb
    exact ⟨n, rfl, g1, g3, σ, g4, g5, (pz_candSome hp g4 g5).2.1⟩
/-! the class's spelling -/
def pzE1 (st : Option (Nat × Nat)) : Int32 := match st with
  | none => -1
  | some (n, _) => pzN n
def pzE2 (st : Option (Nat × Nat)) : Int32 := match st with
  | none => -2
  | some (n, _) => pzSg n
def pzE3 (st : Option (Nat × Nat)) : Int32 := match st with
  | none => 0
  | some (_, v) => pzN v
set_option maxRecDepth 10000 in
theorem pzN_ne1 {n : Nat} (h : n < 2147483648) : ¬ pzN n = -1 := by
  intro e
  have : pzN n < 0 := by rw [e]; decide
  exact (pzN_not_neg h).mp this
set_option maxRecDepth 10000 in
theorem pzN_ne2 {n : Nat} (h : n < 2147483648) : ¬ pzN n = -2 := by
  intro e
  have : pzN n < 0 := by rw [e]; decide
  exact (pzN_not_neg h).mp this
def pzWw (s n : Nat) : Nat := pzWt n s (pzSz n)
set_option maxRecDepth 10000 in
theorem pzWw_le {s n : Nat} (hn : n < 35) : pzWw s n ≤ 300 := by
  unfold pzWw
  rw [pzWt_add]
  have h1 := pz_wt_lt n hn s
  have h2 := (pz_sz n hn).2.2
  omega
set_option maxRecDepth 10000 in
theorem pz_cstep {p s σ : Nat} (hp : p < 12) (hs : s < 524288) (hσ : σ < 3) {st : Option (Nat × Nat)} (g : pzG (pzWw s) p st) (f : Nat) :
    fX3_spelt_7 (f + 1) (pzN p) (pzN s) (pzE1 st) (pzE3 st) (pzSo σ) = fX3_spelt_7 f (pzN p) (pzN s) (pzE1 (pzUp (pzWw s) st (pzCand p σ))) (pzE3 (pzUp (pzWw s) st (pzCand p σ))) (pzSo (σ + 1)) := by
  show fX3_spelt_7B (fX3_spelt_7 f) (pzN p) (pzN s) (pzE1 st) (pzE3 st) (pzSo σ) = _
  unfold fX3_spelt_7B fX3_spelt_51
  obtain ⟨o1, o2, o3⟩ := pz_so.1 σ hσ
  rw [if_neg o2, (pz_cand p hp σ hσ).1, Option.bind_some, o1]
  cases hc : pzCand p σ with
  | none =>
    rw [if_pos (show pzO1 none = -1 from rfl)]
    rfl
  | some n =>
    obtain ⟨c1, c2, c3⟩ := pz_candSome hp hσ hc
    rw [show pzO1 (some n) = pzN n from rfl, if_neg (pzN_ne1 (by omega)), pz_cweight c1 c1 hs, Option.bind_some]
    have hw := pzWw_le (s := s) c1
    cases st with
    | none =>
      rw [if_pos (show pzE1 none = -1 from rfl)]
      rfl
    | some mv =>
      obtain ⟨m, v⟩ := mv
      obtain ⟨g1, rfl, _⟩ := g m v rfl
      have hw2 := pzWw_le (s := s) g1
      rw [show pzE1 (some (m, pzWw s m)) = pzN m from rfl, show pzE3 (some (m, pzWw s m)) = pzN (pzWw s m) from rfl, if_neg (pzN_ne1 (by omega))]
      unfold pzUp
      dsimp only
      by_cases hlt : pzWw s n < pzWw s m
      · rw [if_pos hlt, if_neg (by rw [show pzN (pzWt n s (pzSz n)) = pzN (pzWw s n) from rfl, pzN_le (by omega) (by omega)]; omega)]
        rfl
      · rw [if_neg hlt, if_pos (by rw [show pzN (pzWt n s (pzSz n)) = pzN (pzWw s n) from rfl, pzN_le (by omega) (by omega)]; omega)]
        rfl
set_option maxRecDepth 10000 in
theorem pz_cspelt {p s : Nat} (hp : p < 12) (hs : s < 524288) : fX3_spelt (pzN p) (pzN s) = some (pzE1 (pzBst (pzWw s) p)) := by
  unfold fX3_spelt
  have g0 : pzG (pzWw s) p none := fun n v e => by cases e
  have g1 := pzG_up (σ := 0) hp (by omega) g0
  have g2 := pzG_up (σ := 1) hp (by omega) g1
  have s1 := pz_cstep (σ := 0) hp hs (by omega) g0 3999
  have s2 := pz_cstep (σ := 1) hp hs (by omega) g1 3998
  have s3 := pz_cstep (σ := 2) hp hs (by omega) g2 3997
  refine s1.trans (s2.trans (s3.trans ?_))
  show fX3_spelt_7B (fX3_spelt_7 3996) _ _ _ _ (pzSo 3) = _
  unfold fX3_spelt_7B
  rw [if_pos pz_so.2]
  rfl
set_option maxRecDepth 10000 in
theorem pz_sp {p b : Nat} (hp : p < 12) (hb : b < 20) : pzSp p b < 35 ∧ pzPi (pzSp p b) = p ∧ fX3_spelt (pzN p) (pzN (pzM b)) = some (pzN (pzSp p b)) ∧ pzBst (pzWw (pzM b)) p = some (pzSp p b, pzWw (pzM b) (pzSp p b)) ∧ ∃ σ, σ < 3 ∧ pzCand p σ = some (pzSp p b) ∧ pzSg (pzSp p b) = pzSo σ := by
  have h := pz_cspelt hp (pzM_lt b hb).1
  obtain ⟨n, e, h1, h2, h3⟩ := pzBst_spec (pzWw (pzM b)) hp
  rw [e] at h
  have : pzSp p b = n := by
    unfold pzSp
    rw [h]
    exact pzN_clamp (by omega)
  rw [this]
  exact ⟨h1, h2, h, e, h3⟩
/-! the reference's spelling -/
set_option maxRecDepth 10000 in
theorem pz_mwt {A : Nat → Nat → Int32} (B : Nat → Nat → Int64) (I : Nat → Int32) (hB : pzB A) {b : Nat} (hb : b < 20) {n : Nat} (hn : n < 35) (k9 : Int32 → Int32 → Int32 → Int32 → Int32 → Option Int32) (p v3 v4 : Int32) :
    fX9_spelt_43 B I A k9 FU p (pzN b) v3 v4 (pzSg n) (pzN (n / 5)) (pzN (pzSz n)) 0 = (if v3 = -2 then k9 p (pzN b) (pzSg n) (pzN (pzWw (pzM b) n)) (pzSg n + 1) else if v4 ≤ pzN (pzWw (pzM b) n) then k9 p (pzN b) v3 v4 (pzSg n + 1) else k9 p (pzN b) (pzSg n) (pzN (pzWw (pzM b) n)) (pzSg n + 1)) := by
  obtain ⟨b5, br⟩ := hB b hb
  obtain ⟨hm1, hm2⟩ := pzM_lt b hb
  have e := pz_cnt (fun f k (a : Nat) => fX9_spelt_43 B I A k9 f p (pzN b) v3 v4 (pzSg n) (pzN (n / 5)) (pzN a) (pzN k)) (fun _ _ => True) (pzP (pzM b)).length (fun k a => a + pzW n ((pzP (pzM b)).getD k 0)) (fun a => if v3 = -2 then k9 p (pzN b) (pzSg n) (pzN a) (pzSg n + 1) else if v4 ≤ pzN a then k9 p (pzN b) v3 v4 (pzSg n + 1) else k9 p (pzN b) (pzSg n) (pzN a) (pzSg n + 1)) (fun _ _ _ _ => trivial) ?_ ?_ (pzP (pzM b)).length 0 (pzSz n) FU (by omega) (by unfold FU; omega) trivial
  · have e2 := pzI_list (fun i a => a + pzW n i) (pzP (pzM b)) (pzSz n)
    rw [e2] at e
    exact e
  · intro f k a hk _
    have hi := pzP_lt (pzP_getD hk)
    show fX9_spelt_43B B I A k9 (fX9_spelt_43 B I A k9 f) p (pzN b) v3 v4 (pzSg n) (pzN (n / 5)) (pzN a) (pzN k) = _
    unfold fX9_spelt_43B
    rw [pz_gd2 (by omega) (by omega), pzN_clamp (by omega), b5, if_neg (by rw [pzN_le (by omega) (by omega)]; omega)]
    simp only [show (8 : Int32) = pzN 8 from rfl, pzN_mul, pzN_add]
    rw [pz_gd2 (by omega) (by omega), pz_gd2 (by omega) (by omega), pzN_clamp (by omega), (br k hk).1, (br k hk).2, pzN_suc]
    have := (pz_signs n hn _ hi).2.2.1
    unfold pzS at this
    rw [this, pzN_add]
  · intro f a _
    show fX9_spelt_43B B I A k9 (fX9_spelt_43 B I A k9 f) p (pzN b) v3 v4 (pzSg n) (pzN (n / 5)) (pzN a) (pzN (pzP (pzM b)).length) = _
    unfold fX9_spelt_43B fX9_spelt_112
    rw [pz_gd2 (by omega) (by omega), pzN_clamp (by omega), b5, if_pos (by rw [pzN_le (by omega) (by omega)]; omega)]
set_option maxRecDepth 10000 in
theorem pz_mstep {A : Nat → Nat → Int32} (B : Nat → Nat → Int64) (I : Nat → Int32) (hB : pzB A) {b : Nat} (hb : b < 20) {p σ : Nat} (hp : p < 12) (hσ : σ < 3) {st : Option (Nat × Nat)} (g : pzG (pzWw (pzM b)) p st) (f : Nat) :
    fX9_spelt_9 B I A (f + 1) (pzN p) (pzN b) (pzE2 st) (pzE3 st) (pzSo σ) = fX9_spelt_9 B I A f (pzN p) (pzN b) (pzE2 (pzUp (pzWw (pzM b)) st (pzCand p σ))) (pzE3 (pzUp (pzWw (pzM b)) st (pzCand p σ))) (pzSo (σ + 1)) := by
  show fX9_spelt_9B B I A (fX9_spelt_9 B I A f) (pzN p) (pzN b) (pzE2 st) (pzE3 st) (pzSo σ) = _
  unfold fX9_spelt_9B
  obtain ⟨o1, o2, o3⟩ := pz_so.1 σ hσ
  rw [if_neg o2, (pz_cand p hp σ hσ).2, Option.bind_some]
  cases hc : pzCand p σ with
  | none =>
    rw [if_pos (show pzO2 none = -2 from rfl), o1]
    rfl
  | some n =>
    obtain ⟨c1, c2, c3⟩ := pz_candSome hp hσ hc
    have hw := pzWw_le (s := pzM b) c1
    rw [show pzO2 (some n) = pzN (n / 5) from rfl, if_neg (pzN_ne2 (by omega)), ← c2, (pz_sz n c1).1, pz_mwt B I hB hb c1, c2, o1]
    cases st with
    | none =>
      rw [if_pos (show pzE2 none = -2 from rfl)]
      unfold pzUp
      dsimp only
      rw [← c2]
      rfl
    | some mv =>
      obtain ⟨m, v⟩ := mv
      obtain ⟨g1, rfl, _, τ, g4, g5⟩ := g m v rfl
      have hw2 := pzWw_le (s := pzM b) g1
      have hne : ¬ pzE2 (some (m, pzWw (pzM b) m)) = -2 := by
        show ¬ pzSg m = -2
        rw [(pz_candSome hp g4 g5).2.1]
        exact (pz_so.1 τ g4).2.2
      rw [if_neg hne, show pzE3 (some (m, pzWw (pzM b) m)) = pzN (pzWw (pzM b) m) from rfl]
      unfold pzUp
      dsimp only
      by_cases hlt : pzWw (pzM b) n < pzWw (pzM b) m
      · rw [if_pos hlt, if_neg (by rw [pzN_le (by omega) (by omega)]; omega), ← c2]
        rfl
      · rw [if_neg hlt, if_pos (by rw [pzN_le (by omega) (by omega)]; omega)]
        rfl
set_option maxRecDepth 10000 in
theorem pz_mspelt {A : Nat → Nat → Int32} (B : Nat → Nat → Int64) (I : Nat → Int32) (hB : pzB A) {p b : Nat} (hp : p < 12) (hb : b < 20) : fX9_spelt B I A (pzN p) (pzN b) = some (pzSg (pzSp p b)) ∧ fX9_letterOf (pzN p) (pzSg (pzSp p b)) = some (pzN (pzSp p b / 5)) := by
  obtain ⟨h1, h2, h3, h4, σ, h5, h6, h7⟩ := pz_sp hp hb
  constructor
  · unfold fX9_spelt
    have g0 : pzG (pzWw (pzM b)) p none := fun n v e => by cases e
    have g1 := pzG_up (σ := 0) hp (by omega) g0
    have g2 := pzG_up (σ := 1) hp (by omega) g1
    have s1 := pz_mstep B I hB hb (σ := 0) hp (by omega) g0 3999
    have s2 := pz_mstep B I hB hb (σ := 1) hp (by omega) g1 3998
    have s3 := pz_mstep B I hB hb (σ := 2) hp (by omega) g2 3997
    refine s1.trans (s2.trans (s3.trans ?_))
    show fX9_spelt_9B B I A (fX9_spelt_9 B I A 3996) _ _ (pzE2 (pzBst (pzWw (pzM b)) p)) _ (pzSo 3) = _
    unfold fX9_spelt_9B
    rw [if_pos pz_so.2, h4]
    rfl
  · rw [h7, (pz_cand p hp σ h5).2, h6]
    rfl
set_option maxRecDepth 10000 in
theorem pz_setOfBody {A : Nat → Nat → Int32} (B : Nat → Nat → Int64) (I : Nat → Int32) (hB : pzB A) {b r : Nat} (hb : b < 20) (hr : r < 12) : fX9_setOfBody B I A (pzN b) (pzN r) = some (pzN (pzSet r (pzM b) 0)) := by
  obtain ⟨b5, br⟩ := hB b hb
  obtain ⟨hm1, hm2⟩ := pzM_lt b hb
  unfold fX9_setOfBody
  have e := pz_cnt (fun f k (a : Nat) => fX9_setOfBody_5 B I A f (pzN b) (pzN r) (pzN a) (pzN k)) (fun _ _ => True) (pzP (pzM b)).length (fun k a => a ||| 1 <<< ((r + pzH ((pzP (pzM b)).getD k 0)) % 12)) (fun a => some (pzN a)) (fun _ _ _ _ => trivial) ?_ ?_ (pzP (pzM b)).length 0 0 FU (by omega) (by unfold FU; omega) trivial
  · have e2 := pzI_list (fun i a => a ||| 1 <<< ((r + pzH i) % 12)) (pzP (pzM b)) 0
    rw [e2] at e
    exact e
  · intro f k a hk _
    have hi := pzP_lt (pzP_getD hk)
    obtain ⟨_, _, hH, hD, _⟩ := pz_HD _ hi
    have hm : (r + pzH ((pzP (pzM b)).getD k 0)) % 12 < 12 := Nat.mod_lt _ (by omega)
    show fX9_setOfBody_5B B I A (fX9_setOfBody_5 B I A f) (pzN b) (pzN r) (pzN a) (pzN k) = _
    unfold fX9_setOfBody_5B
    rw [pz_gd2 (by omega) (by omega), pzN_clamp (by omega), b5, if_neg (by rw [pzN_le (by omega) (by omega)]; omega), pzN_suc]
    simp only [show (8 : Int32) = pzN 8 from rfl, pzN_mul, pzN_add]
    rw [pz_gd2 (by omega) (by omega), pzN_clamp (by omega), (br k hk).1, pzN_add, show (12 : Int32) = pzN 12 from rfl, pzN_jrem (by omega) (by omega), show (1 : Int32) = pzN 1 from rfl, pzN_shl 1 (by omega), pzN_or]
  · intro f a _
    show fX9_setOfBody_5B B I A (fX9_setOfBody_5 B I A f) (pzN b) (pzN r) (pzN a) (pzN (pzP (pzM b)).length) = _
    unfold fX9_setOfBody_5B
    rw [pz_gd2 (by omega) (by omega), pzN_clamp (by omega), b5, if_pos (by rw [pzN_le (by omega) (by omega)]; omega)]
set_option maxRecDepth 10000 in
theorem pz_turn : ∀ b, b < 20 → ∀ r, r < 12 → (((pzSet 0 (pzM b) 0 <<< r) ||| ((pzSet 0 (pzM b) 0 <<< r) >>> 12)) &&& 4095 = pzSet r (pzM b) 0) ∧ pzSet 0 (pzM b) 0 <<< r < 2147483648 ∧ pzSet r (pzM b) 0 < 4096 ∧ pzSet r (pzM b) 0 ||| 1 <<< r = pzSet r (pzM b) 0 := by decide +kernel
def pzMe (set bass p : Nat) : Bool := (pzSet ((bass + p / 20) % 12) (pzM (p % 20)) 0 ||| 1 <<< bass) == set
set_option maxRecDepth 10000 in
theorem pz_lt4096 {a b : Nat} (ha : a < 4096) (hb : b < 12) : a ||| 1 <<< b < 4096 := by
  have : 1 <<< b < 2 ^ 12 := by
    rw [Nat.shiftLeft_eq, Nat.one_mul]
    exact Nat.pow_lt_pow_right (by omega) hb
  exact Nat.or_lt_two_pow (n := 12) ha this
set_option maxRecDepth 10000 in
theorem pz_means {I : Nat → Int32} {A : Nat → Nat → Int32} (hA : pzBs (A 0)) {set bass p : Nat} (hs : set < 4096) (hb : bass < 12) (hp : p < 240) : fX2_means I A (pzN p) (pzN set) (pzN bass) = some (if pzMe set bass p then 1 else 0) := by
  unfold fX2_means fX2_bodyOf
  have h20 : p % 20 < 20 := Nat.mod_lt _ (by omega)
  have hr : (bass + p / 20) % 12 < 12 := Nat.mod_lt _ (by omega)
  obtain ⟨t1, t2, t3, t4⟩ := pz_turn _ h20 _ hr
  have hen : fX8_entry 20 (A 0) (pzN (p % 20)) = some (pzN (pzSet 0 (pzM (p % 20)) 0)) := by
    unfold fX8_entry
    rw [if_neg (fun x => (pzN_not_neg (by omega)).mp x), show Int32.ofNat 20 = pzN 20 from rfl, if_neg (by rw [pzN_le (by omega) (by omega)]; omega), pz_gd2 (by omega) (by omega), pzN_clamp (by omega), hA _ h20]
  rw [show (20 : Int32) = pzN 20 from rfl, pzN_jrem (by omega) (by omega), hen, Option.bind_some, pzN_div (by omega) (by omega), pzN_add, show (12 : Int32) = pzN 12 from rfl, pzN_jrem (by omega) (by omega), pzN_shl _ (by omega), pzN_shr t2 (by omega), pzN_or, show (4095 : Int32) = pzN 4095 from rfl, pzN_and, t1, show (1 : Int32) = pzN 1 from rfl, pzN_shl 1 (by omega), pzN_or]
  unfold pzMe
  have hlt := pz_lt4096 t3 hb
  by_cases h : pzSet ((bass + p / 20) % 12) (pzM (p % 20)) 0 ||| 1 <<< bass = set
  · rw [if_pos (by rw [h]), if_pos (by simpa using h)]
  · rw [if_neg (by rw [pzN_inj (by omega) (by omega)]; exact h), if_neg (by simpa using h)]
def pzFl (set bass q : Nat) : List Nat := (List.range q).filter (pzMe set bass)
set_option maxRecDepth 10000 in
theorem pzFl_succ (set bass q : Nat) : pzFl set bass (q + 1) = if pzMe set bass q then pzFl set bass q ++ [q] else pzFl set bass q := by
  unfold pzFl
  rw [List.range_succ, List.filter_append]
  by_cases h : pzMe set bass q = true
  · rw [if_pos h, List.filter_cons_of_pos h, List.filter_nil]
  · rw [if_neg h, List.filter_cons_of_neg h, List.filter_nil, List.append_nil]
set_option maxRecDepth 10000 in
theorem pzFl_len (set bass q : Nat) : (pzFl set bass q).length ≤ q := by
  have := List.length_filter_le (pzMe set bass) (List.range q)
  rw [List.length_range] at this
  exact this
set_option maxRecDepth 10000 in
theorem pzFl_lt {set bass q i : Nat} (h : i ∈ pzFl set bass q) : i < q ∧ pzMe set bass i = true := by
  unfold pzFl at h
  rw [List.mem_filter, List.mem_range] at h
  exact h
set_option maxRecDepth 10000 in
theorem pz_findIn {set bass : Nat} (hs : set < 4096) (hb : bass < 12) : ∀ d q f (I : Nat → Int32) (A : Nat → Nat → Int32), q + d = 240 → d < f → pzBs (A 0) → I 2 = pzN (pzFl set bass q).length → (∀ j, j < (pzFl set bass q).length → A 1 j = pzN ((pzFl set bass q).getD j 0)) →
    ∃ I' A', fX2_find_12 f I A (pzN set) (pzN bass) (pzN q) = some (pzN (pzFl set bass 240).length, I', A') ∧ I' 3 = I 3 ∧ A' 0 = A 0 ∧ I' 2 = pzN (pzFl set bass 240).length ∧ ∀ j, j < (pzFl set bass 240).length → A' 1 j = pzN ((pzFl set bass 240).getD j 0)
  | d, q, 0, I, A, _, hf, _, _, _ => by omega
  | 0, q, f + 1, I, A, e, hf, hA, h2, h1 => by
    have : q = 240 := by omega
    subst this
    show ∃ I' A', fX2_find_12B (fX2_find_12 f) I A (pzN set) (pzN bass) (pzN 240) = _ ∧ _
    unfold fX2_find_12B
    rw [if_pos (by decide)]
    exact ⟨I, A, by rw [h2], rfl, rfl, h2, h1⟩
  | d + 1, q, f + 1, I, A, e, hf, hA, h2, h1 => by
    have hl := pzFl_len set bass q
    show ∃ I' A', fX2_find_12B (fX2_find_12 f) I A (pzN set) (pzN bass) (pzN q) = _ ∧ _
    unfold fX2_find_12B
    have hsu := pzFl_succ set bass q
    rw [if_neg (by rw [show (240 : Int32) = pzN 240 from rfl, pzN_le (by omega) (by omega)]; omega), pz_means hA hs hb (by omega), Option.bind_some, pzN_suc]
    by_cases hm : pzMe set bass q = true
    · rw [if_pos hm] at hsu
      rw [if_pos hm, if_neg (by decide), h2, if_neg (by rw [show (240 : Int32) = pzN 240 from rfl, pzN_le (by omega) (by omega)]; omega), pz_gd2 (by omega) (by omega), pzN_clamp (by omega), pzN_suc]
      have ih := pz_findIn hs hb d (q + 1) f (upd I 2 (pzN ((pzFl set bass q).length + 1))) (va_up A 1 (upd (A 1) (pzFl set bass q).length (pzN q))) (by omega) (by omega) (by rw [pz_va_ne _ _ (by decide)]; exact hA) (by rw [pz_upd_eq, hsu, List.length_append]; rfl) (by
        intro j hj
        rw [pz_va_eq, hsu, pz_getD_app]
        rw [hsu, List.length_append] at hj
        by_cases ej : j = (pzFl set bass q).length
        · subst ej; rw [pz_upd_eq, if_neg (by omega), if_pos rfl]
        · have hk2 : j < (pzFl set bass q).length := by simp at hj; omega
          rw [pz_upd_ne _ _ ej, if_pos hk2, h1 j hk2])
      obtain ⟨I', A', g1, g2, g3, g4⟩ := ih
      exact ⟨I', A', g1, g2.trans (pz_upd_ne _ _ (by decide)), g3.trans (pz_va_ne _ _ (by decide)), g4⟩
    · rw [if_neg hm] at hsu
      rw [if_neg hm, if_pos rfl]
      exact pz_findIn hs hb d (q + 1) f I A (by omega) (by omega) hA (by rw [hsu]; exact h2) (by rw [hsu]; exact h1)
set_option maxRecDepth 10000 in
theorem pz_find8 {I : Nat → Int32} {A : Nat → Nat → Int32} (hA : pzBs (A 0)) {set bass : Nat} (hs : set < 4096) (hb : bass < 12) :
    ∃ I' A', fX2_find I A (pzN set) (pzN bass) = some (pzN (pzFl set bass 240).length, I', A') ∧ I' 3 = pzN bass ∧ A' 0 = A 0 ∧ I' 2 = pzN (pzFl set bass 240).length ∧ ∀ j, j < (pzFl set bass 240).length → A' 1 j = pzN ((pzFl set bass 240).getD j 0) := by
  unfold fX2_find
  obtain ⟨I', A', g1, g2, g3, g4⟩ := pz_findIn hs hb 240 0 FU (upd (upd I 3 (pzN bass)) 2 0) A (by omega) (by unfold FU; omega) hA (by rw [pz_upd_eq]; rfl) (fun j hj => by simp [pzFl] at hj)
  refine ⟨I', A', g1, g2.trans ?_, g3, g4⟩
  rw [pz_upd_ne _ _ (by decide), pz_upd_eq]
set_option maxRecDepth 10000 in
theorem pz_first {I : Nat → Int32} {A : Nat → Nat → Int32} (hA : pzBs (A 0)) {set bass : Nat} (hs : set < 4096) (hb : bass < 12) : fX2_first I A (pzN set) (pzN bass) = some (if pzF (pzMe set bass) 240 0 < 240 then pzN (pzF (pzMe set bass) 240 0) else -1) := by
  unfold fX2_first
  have e := pz_find (fun f k => fX2_first_2 I A f (pzN set) (pzN bass) (pzN k)) (pzMe set bass) 240 (fun k => some (pzN k)) (some (-1)) ?_ ?_ ?_ 240 0 FU (by omega) (by unfold FU; omega)
  · refine e.trans ?_
    by_cases h : pzF (pzMe set bass) 240 0 < 240
    · rw [if_pos h, if_pos h]
    · rw [if_neg h, if_neg h]
  · intro f k hk hp
    show fX2_first_2B I A (fX2_first_2 I A f) (pzN set) (pzN bass) (pzN k) = _
    unfold fX2_first_2B
    rw [if_neg (by rw [show (240 : Int32) = pzN 240 from rfl, pzN_le (by omega) (by omega)]; omega), pz_means hA hs hb (by omega), Option.bind_some, if_pos hp, if_neg (by decide)]
  · intro f k hk hp
    show fX2_first_2B I A (fX2_first_2 I A f) (pzN set) (pzN bass) (pzN k) = _
    unfold fX2_first_2B
    rw [if_neg (by rw [show (240 : Int32) = pzN 240 from rfl, pzN_le (by omega) (by omega)]; omega), pz_means hA hs hb (by omega), Option.bind_some, if_neg (show ¬ pzMe set bass k = true by rw [hp]; decide), if_pos rfl, pzN_suc]
  · intro f
    show fX2_first_2B I A (fX2_first_2 I A f) (pzN set) (pzN bass) (pzN 240) = _
    unfold fX2_first_2B
    rw [if_pos (by decide)]
/-! the reference's finds -/
def pzFi (set bass q : Nat) (I : Nat → Int32) (A : Nat → Nat → Int32) : Prop := I 30 = pzN (pzFl set bass q).length ∧ ∀ j, j < (pzFl set bass q).length → pzName (A 29) j bass ((pzFl set bass q).getD j 0)
def pzFs (I : Nat → Int32) (A : Nat → Nat → Int32) (I' : Nat → Int32) (A' : Nat → Nat → Int32) : Prop := (∀ j, j ≠ 30 → I' j = I j) ∧ ∀ j, j ≠ 29 → A' j = A j
set_option maxRecDepth 10000 in
theorem pzFs_trans {I A I' A' I'' A''} (h : pzFs I A I' A') (g : pzFs I' A' I'' A'') : pzFs I A I'' A'' := ⟨fun j hj => (g.1 j hj).trans (h.1 j hj), fun j hj => (g.2 j hj).trans (h.2 j hj)⟩
set_option maxRecDepth 10000 in
theorem pz_row {set bass k b : Nat} (hb : bass < 12) (hk : k < 12) (hbb : b < 20) {I : Nat → Int32} {A : Nat → Nat → Int32} (hB : pzB A) (hI : pzFi set bass (20 * k + b) I A)
    (hm : pzMe set bass (20 * k + b) = true) (k7 : (Nat → Int32) → (Nat → Nat → Int32) → Int32 → Int32 → Int32 → Option ((Nat → Int32) × (Nat → Nat → Int32))) (k24 : (Nat → Int32) → (Nat → Nat → Int32) → Int32 → Int32 → Int32 → Int32 → Int32 → Option ((Nat → Int32) × (Nat → Nat → Int32))) (v1 : Int32) (B : Nat → Nat → Int64) :
    ∃ I' A', fX9_finds_61 B k7 k24 I A v1 (pzN bass) (pzN k) (pzN ((bass + k) % 12)) (pzN b) = k24 I' A' v1 (pzN bass) (pzN k) (pzN ((bass + k) % 12)) (pzN (b + 1)) ∧ pzFi set bass (20 * k + b + 1) I' A' ∧ pzFs I A I' A' := by
  have hr : (bass + k) % 12 < 12 := Nat.mod_lt _ (by omega)
  obtain ⟨i1, i2⟩ := hI
  have hl := pzFl_len set bass (20 * k + b)
  have hsu := pzFl_succ set bass (20 * k + b)
  rw [if_pos hm] at hsu
  generalize hn : (pzFl set bass (20 * k + b)).length = n at *
  unfold fX9_finds_61 fX9_finds_146
  have hs0 : fX9_spelt B I A (pzN bass) 0 = some (pzSg (pzSp bass 0)) := (pz_mspelt B I hB hb (b := 0) (by omega)).1
  rw [(pz_mspelt B I hB hr hbb).1, Option.bind_some, hs0, Option.bind_some, (pz_mspelt B I hB hr hbb).2, Option.bind_some, (pz_mspelt B I hB hb (b := 0) (by omega)).2, Option.bind_some, i1]
  simp only [show (5 : Int32) = pzN 5 from rfl, show (2 : Int32) = pzN 2 from rfl, show (3 : Int32) = pzN 3 from rfl, show (4 : Int32) = pzN 4 from rfl, pzN_mul, pzN_add, pzN_suc]
  rw [pz_gd2 (by omega) (by omega), pz_gd2 (by omega) (by omega), pz_gd2 (by omega) (by omega), pz_gd2 (by omega) (by omega), pz_gd2 (by omega) (by omega), pz_gd2 (by omega) (by omega), pz_gd2 (by omega) (by omega), pz_va_eq]
  simp only [pzN_clamp (show 5 * n < 2147483648 by omega), pzN_clamp (show 5 * n + 1 < 2147483648 by omega), pzN_clamp (show 5 * n + 2 < 2147483648 by omega), pzN_clamp (show 5 * n + 3 < 2147483648 by omega), pzN_clamp (show 5 * n + 4 < 2147483648 by omega)]
  have fin : ∀ (x : Int32), x = (if 20 * k + b < 20 then -2 else pzN (pzSp bass 0 / 5)) → ∀ (A1 A2 : Nat → Nat → Int32), A2 = va_up A1 29 (upd (upd (upd (upd (upd (A 29) (5 * n) (pzN (pzSp ((bass + k) % 12) b / 5))) (5 * n + 1) (pzSg (pzSp ((bass + k) % 12) b))) (5 * n + 2) (pzN b)) (5 * n + 3) x) (5 * n + 4) (pzSg (pzSp bass 0))) → (∀ j, j ≠ 29 → A1 j = A j) → pzFi set bass (20 * k + b + 1) (upd I 30 (pzN (n + 1))) A2 ∧ pzFs I A (upd I 30 (pzN (n + 1))) A2 := by
    intro x hx A1 A2 hA2 hA1
    subst hA2
    refine ⟨⟨?_, ?_⟩, fun j hj => pz_upd_ne _ _ hj, fun j hj => (pz_va_ne _ _ hj).trans (hA1 j hj)⟩
    · rw [pz_upd_eq, hsu, List.length_append, hn]; rfl
    · intro j hj
      rw [pz_va_eq, hsu, pz_getD_app, hn]
      rw [hsu, List.length_append, hn] at hj
      by_cases ej : j = n
      · subst ej
        rw [if_neg (by omega), if_pos rfl]
        unfold pzName
        rw [show (20 * k + b) / 20 = k by omega, show (20 * k + b) % 20 = b by omega]
        refine ⟨?_, ?_, ?_, ?_, ?_⟩
        · rw [pz_upd_ne _ _ (by omega), pz_upd_ne _ _ (by omega), pz_upd_ne _ _ (by omega), pz_upd_ne _ _ (by omega), pz_upd_eq]
        · rw [pz_upd_ne _ _ (by omega), pz_upd_ne _ _ (by omega), pz_upd_ne _ _ (by omega), pz_upd_eq]
        · rw [pz_upd_ne _ _ (by omega), pz_upd_ne _ _ (by omega), pz_upd_eq]
        · rw [pz_upd_ne _ _ (by omega), pz_upd_eq, hx]
        · rw [pz_upd_eq]
      · have hk2 : j < n := by simp at hj; omega
        have old := i2 j (by omega)
        rw [if_pos hk2]
        unfold pzName at old ⊢
        obtain ⟨o1, o2, o3, o4, o5⟩ := old
        refine ⟨?_, ?_, ?_, ?_, ?_⟩
        · rw [pz_upd_ne _ _ (by omega), pz_upd_ne _ _ (by omega), pz_upd_ne _ _ (by omega), pz_upd_ne _ _ (by omega), pz_upd_ne _ _ (by omega), o1]
        · rw [pz_upd_ne _ _ (by omega), pz_upd_ne _ _ (by omega), pz_upd_ne _ _ (by omega), pz_upd_ne _ _ (by omega), pz_upd_ne _ _ (by omega), o2]
        · rw [pz_upd_ne _ _ (by omega), pz_upd_ne _ _ (by omega), pz_upd_ne _ _ (by omega), pz_upd_ne _ _ (by omega), pz_upd_ne _ _ (by omega), o3]
        · rw [pz_upd_ne _ _ (by omega), pz_upd_ne _ _ (by omega), pz_upd_ne _ _ (by omega), pz_upd_ne _ _ (by omega), pz_upd_ne _ _ (by omega), o4]
        · rw [pz_upd_ne _ _ (by omega), pz_upd_ne _ _ (by omega), pz_upd_ne _ _ (by omega), pz_upd_ne _ _ (by omega), pz_upd_ne _ _ (by omega), o5]
  by_cases k0 : k = 0
  · subst k0
    rw [if_pos (by rfl)]
    refine ⟨_, _, rfl, fin (-2) (by rw [if_pos (by omega)]) _ _ rfl (fun j hj => pz_va_ne _ _ hj)⟩
  · rw [if_neg (by rw [show (0 : Int32) = pzN 0 from rfl, pzN_inj (by omega) (by omega)]; exact k0)]
    refine ⟨_, _, rfl, fin _ (by rw [if_neg (by omega)]) _ _ rfl (fun j hj => pz_va_ne _ _ hj)⟩
set_option maxRecDepth 10000 in
theorem pz_cond {set bass k b : Nat} (hs : set < 4096) (hbs : set.testBit bass = true) (hb : bass < 12) (hk : k < 12) (hbb : b < 20) : pzMe set bass (20 * k + b) = true ↔ (pzSet ((bass + k) % 12) (pzM b) 0 = set ∨ 0 < k ∧ pzSet ((bass + k) % 12) (pzM b) 0 ||| 1 <<< bass = set) := by
  unfold pzMe
  rw [show (20 * k + b) / 20 = k by omega, show (20 * k + b) % 20 = b by omega]
  have hr : (bass + k) % 12 < 12 := Nat.mod_lt _ (by omega)
  have hor : set ||| 1 <<< bass = set := by
    apply Nat.eq_of_testBit_eq
    intro j
    rw [Nat.testBit_or, Nat.testBit_shiftLeft]
    by_cases e : j = bass
    · subst e; rw [hbs]; simp
    · by_cases h : bass ≤ j
      · have : (1 : Nat).testBit (j - bass) = false := by
          apply Nat.testBit_lt_two_pow
          have : 2 ^ 1 ≤ 2 ^ (j - bass) := Nat.pow_le_pow_right (by omega) (by omega)
          omega
        rw [this]; simp
      · simp [h]
  constructor
  · intro h
    have h : pzSet ((bass + k) % 12) (pzM b) 0 ||| 1 <<< bass = set := by simpa using h
    by_cases k0 : k = 0
    · subst k0
      left
      rw [Nat.add_zero, Nat.mod_eq_of_lt hb] at h ⊢
      rw [(pz_turn b hbb bass hb).2.2.2] at h
      exact h
    · exact Or.inr ⟨by omega, h⟩
  · intro h
    have : pzSet ((bass + k) % 12) (pzM b) 0 ||| 1 <<< bass = set := by
      rcases h with h | h
      · rw [h]; exact hor
      · exact h.2
    simpa using this
set_option maxRecDepth 10000 in
theorem pz_findsB {set bass k : Nat} (hs : set < 4096) (hbs : set.testBit bass = true) (hb : bass < 12) (hk : k < 12) (B : Nat → Nat → Int64) (k7 : (Nat → Int32) → (Nat → Nat → Int32) → Int32 → Int32 → Int32 → Option ((Nat → Int32) × (Nat → Nat → Int32))) :
    ∀ d b f (I : Nat → Int32) (A : Nat → Nat → Int32), b + d = 20 → d < f → pzB A → pzFi set bass (20 * k + b) I A →
    ∃ I' A', fX9_finds_24 B k7 f I A (pzN set) (pzN bass) (pzN k) (pzN ((bass + k) % 12)) (pzN b) = k7 I' A' (pzN set) (pzN bass) (pzN (k + 1)) ∧ pzFi set bass (20 * (k + 1)) I' A' ∧ pzFs I A I' A'
  | d, b, 0, I, A, _, hf, _, _ => by omega
  | 0, b, f + 1, I, A, e, hf, hB, hI => by
    have : b = 20 := by omega
    subst this
    show ∃ I' A', fX9_finds_24B B k7 (fX9_finds_24 B k7 f) I A (pzN set) (pzN bass) (pzN k) (pzN ((bass + k) % 12)) (pzN 20) = _ ∧ _
    unfold fX9_finds_24B
    rw [if_pos (by decide), pzN_suc]
    exact ⟨I, A, rfl, hI, fun _ _ => rfl, fun _ _ => rfl⟩
  | d + 1, b, f + 1, I, A, e, hf, hB, hI => by
    have hr : (bass + k) % 12 < 12 := Nat.mod_lt _ (by omega)
    have hc := pz_cond hs hbs hb hk (b := b) (by omega)
    have h4 := (pz_turn b (by omega) _ hr).2.2.1
    have hlt := pz_lt4096 h4 hb
    show ∃ I' A', fX9_finds_24B B k7 (fX9_finds_24 B k7 f) I A (pzN set) (pzN bass) (pzN k) (pzN ((bass + k) % 12)) (pzN b) = _ ∧ _
    unfold fX9_finds_24B
    rw [if_neg (by rw [show (20 : Int32) = pzN 20 from rfl, pzN_le (by omega) (by omega)]; omega), pz_setOfBody B I hB (by omega) hr, Option.bind_some, pzN_suc]
    have yes : pzMe set bass (20 * k + b) = true → ∃ I' A', fX9_finds_61 B k7 (fX9_finds_24 B k7 f) I A (pzN set) (pzN bass) (pzN k) (pzN ((bass + k) % 12)) (pzN b) = k7 I' A' (pzN set) (pzN bass) (pzN (k + 1)) ∧ pzFi set bass (20 * (k + 1)) I' A' ∧ pzFs I A I' A' := by
      intro hm
      obtain ⟨I1, A1, g1, g2, g3⟩ := pz_row hb hk (b := b) (by omega) hB hI hm k7 (fX9_finds_24 B k7 f) (pzN set) B
      obtain ⟨I2, A2, j1, j2, j3⟩ := pz_findsB hs hbs hb hk B k7 d (b + 1) f I1 A1 (by omega) (by omega) (pzB_congr hB (g3.2 13 (by decide)) (g3.2 14 (by decide)) (g3.2 15 (by decide))) g2
      exact ⟨I2, A2, g1.trans j1, j2, pzFs_trans g3 j3⟩
    have no : ¬ pzMe set bass (20 * k + b) = true → ∃ I' A', fX9_finds_24 B k7 f I A (pzN set) (pzN bass) (pzN k) (pzN ((bass + k) % 12)) (pzN (b + 1)) = k7 I' A' (pzN set) (pzN bass) (pzN (k + 1)) ∧ pzFi set bass (20 * (k + 1)) I' A' ∧ pzFs I A I' A' := by
      intro hm
      apply pz_findsB hs hbs hb hk B k7 d (b + 1) f I A (by omega) (by omega) hB
      have hsu := pzFl_succ set bass (20 * k + b)
      rw [if_neg hm] at hsu
      unfold pzFi
      rw [show 20 * k + (b + 1) = 20 * k + b + 1 by omega, hsu]
      exact hI
    by_cases h1 : pzSet ((bass + k) % 12) (pzM b) 0 = set
    · rw [if_pos (by rw [h1])]
      exact yes (hc.mpr (Or.inl h1))
    · rw [if_neg (by rw [pzN_inj (by omega) (by omega)]; exact h1)]
      by_cases k0 : k = 0
      · rw [if_pos (by subst k0; decide)]
        exact no (fun x => by rcases hc.mp x with h | h; exact h1 h; omega)
      · rw [if_neg (by rw [show (0 : Int32) = pzN 0 from rfl, pzN_le (by omega) (by omega)]; omega), show (1 : Int32) = pzN 1 from rfl, pzN_shl 1 (by omega), pzN_or]
        by_cases h2 : pzSet ((bass + k) % 12) (pzM b) 0 ||| 1 <<< bass = set
        · rw [if_pos (by rw [h2])]
          exact yes (hc.mpr (Or.inr ⟨by omega, h2⟩))
        · rw [if_neg (by rw [pzN_inj (by omega) (by omega)]; exact h2)]
          exact no (fun x => by rcases hc.mp x with h | h; exact h1 h; exact h2 h.2)
set_option maxRecDepth 10000 in
theorem pz_findsA {set bass : Nat} (hs : set < 4096) (hbs : set.testBit bass = true) (hb : bass < 12) (B : Nat → Nat → Int64) :
    ∀ d k f (I : Nat → Int32) (A : Nat → Nat → Int32), k + d = 12 → d < f → pzB A → pzFi set bass (20 * k) I A →
    ∃ I' A', fX9_finds_7 B f I A (pzN set) (pzN bass) (pzN k) = some (I', A') ∧ pzFi set bass 240 I' A' ∧ pzFs I A I' A'
  | d, k, 0, I, A, _, hf, _, _ => by omega
  | 0, k, f + 1, I, A, e, hf, hB, hI => by
    have : k = 12 := by omega
    subst this
    show ∃ I' A', fX9_finds_7B B (fX9_finds_7 B f) I A (pzN set) (pzN bass) (pzN 12) = _ ∧ _
    unfold fX9_finds_7B
    rw [if_pos (by decide)]
    exact ⟨I, A, rfl, hI, fun _ _ => rfl, fun _ _ => rfl⟩
  | d + 1, k, f + 1, I, A, e, hf, hB, hI => by
    show ∃ I' A', fX9_finds_7B B (fX9_finds_7 B f) I A (pzN set) (pzN bass) (pzN k) = _ ∧ _
    unfold fX9_finds_7B
    rw [if_neg (by rw [show (12 : Int32) = pzN 12 from rfl, pzN_le (by omega) (by omega)]; omega), pzN_add, show (12 : Int32) = pzN 12 from rfl, pzN_jrem (by omega) (by omega)]
    obtain ⟨I1, A1, g1, g2, g3⟩ := pz_findsB hs hbs hb (k := k) (by omega) B (fX9_finds_7 B f) 20 0 FU I A (by omega) (by unfold FU; omega) hB hI
    obtain ⟨I2, A2, j1, j2, j3⟩ := pz_findsA hs hbs hb B d (k + 1) f I1 A1 (by omega) (by omega) (pzB_congr hB (g3.2 13 (by decide)) (g3.2 14 (by decide)) (g3.2 15 (by decide))) g2
    exact ⟨I2, A2, g1.trans j1, j2, pzFs_trans g3 j3⟩
set_option maxRecDepth 10000 in
theorem pz_finds {set bass : Nat} (hs : set < 4096) (hbs : set.testBit bass = true) (hb : bass < 12) (B : Nat → Nat → Int64) (I : Nat → Int32) (A : Nat → Nat → Int32) (hB : pzB A) :
    ∃ I' A', fX9_finds B I A (pzN set) (pzN bass) = some (I', A') ∧ pzFi set bass 240 I' A' ∧ pzFs I A I' A' := by
  unfold fX9_finds
  obtain ⟨I2, A2, j1, j2, j3⟩ := pz_findsA hs hbs hb B 12 0 FU (upd I 30 0) A (by omega) (by unfold FU; omega) hB ⟨by rw [pz_upd_eq]; rfl, fun j hj => by simp [pzFl] at hj⟩
  exact ⟨I2, A2, j1, j2, pzFs_trans ⟨fun j hj => pz_upd_ne _ _ hj, fun _ _ => rfl⟩ j3⟩
set_option maxRecDepth 10000 in
theorem pz_pitchIn (x : Int32) : (∃ b, b < 12 ∧ x = pzN b ∧ fX9_isIn (pzN b) 0 11 = 1 ∧ fX8_isPitch (pzN b) = 1) ∨ (fX9_isIn x 0 11 = 0 ∧ fX8_isPitch x = 0) := by
  unfold fX9_isIn fX8_isPitch
  by_cases h : x < 0
  · right; rw [if_pos h, if_pos h]; exact ⟨rfl, rfl⟩
  · obtain ⟨e, hl⟩ := pzN_of (pz_not_neg h)
    generalize x.toNatClampNeg = i at *
    subst e
    have e1 : ((12 : Int32) ≤ pzN i) ↔ 12 ≤ i := pzN_le (a := 12) (by omega) hl
    have e2 : ((11 : Int32) < pzN i) ↔ 11 < i := pzN_lt (a := 11) (by omega) hl
    by_cases hi : i < 12
    · left
      exact ⟨i, hi, rfl, by rw [if_neg h, if_neg (by rw [e2]; omega)], by rw [if_neg h, if_neg (by rw [e1]; omega)]⟩
    · right
      rw [if_neg h, if_neg h, if_pos (by rw [e2]; omega), if_pos (by rw [e1]; omega)]
      exact ⟨rfl, rfl⟩
set_option maxRecDepth 10000 in
theorem pz_copyN {n : Nat} (hn : n ≤ 240) (B : Nat → Nat → Int64) : ∀ d k f (I : Nat → Int32) (A : Nat → Nat → Int32), k + d = 5 * n → d < f → I 30 = pzN n → (∀ j, j < k → A 9 j = A 29 j) →
    ∃ A', fX9_named_39 B f I A (pzN k) = some (pzN n, upd I 10 (pzN n), A') ∧ (∀ j, j < 5 * n → A' 9 j = A 29 j) ∧ ∀ j, j ≠ 9 → A' j = A j
  | d, k, 0, I, A, _, hf, _, _ => by omega
  | 0, k, f + 1, I, A, e, hf, hI, hA => by
    show ∃ A', fX9_named_39B B (fX9_named_39 B f) I A (pzN k) = _ ∧ _
    unfold fX9_named_39B
    rw [hI, show (5 : Int32) = pzN 5 from rfl, pzN_mul, if_pos (by rw [pzN_le (by omega) (by omega)]; omega)]
    exact ⟨A, rfl, fun j hj => hA j (by omega), fun _ _ => rfl⟩
  | d + 1, k, f + 1, I, A, e, hf, hI, hA => by
    show ∃ A', fX9_named_39B B (fX9_named_39 B f) I A (pzN k) = _ ∧ _
    unfold fX9_named_39B
    rw [hI, show (5 : Int32) = pzN 5 from rfl, pzN_mul, if_neg (by rw [pzN_le (by omega) (by omega)]; omega), pz_gd2 (by omega) (by omega), pz_gd2 (by omega) (by omega), pzN_clamp (by omega), pzN_suc]
    obtain ⟨A', g1, g2, g3⟩ := pz_copyN hn B d (k + 1) f I (va_up A 9 (upd (A 9) k (A 29 k))) (by omega) (by omega) hI (by
      intro j hj
      rw [pz_va_eq, pz_va_ne _ _ (by decide)]
      by_cases ej : j = k
      · subst ej; rw [pz_upd_eq]
      · rw [pz_upd_ne _ _ ej, hA j (by omega)])
    refine ⟨A', g1, fun j hj => ?_, fun j hj => ?_⟩
    · rw [g2 j hj, pz_va_ne _ _ (by decide)]
    · rw [g3 j hj, pz_va_ne _ _ hj]
set_option maxRecDepth 10000 in
theorem pz_testBitN {a i : Nat} (ha : a < 4096) (hi : i < 12) : ((pzN a >>> (pzN i &&& 31)) &&& 1 = 0) ↔ a.testBit i = false := by
  rw [pz_bit (by omega) (by omega)]
  by_cases h : a.testBit i = true
  · rw [if_pos h, h]; simp
  · rw [if_neg h]; simp at h; simp [h]
set_option maxRecDepth 10000 in
theorem pz_hS6 : hS6 pzRel := by
  intro c u x y h
  obtain ⟨r0, r1, r2, r3, r4, r5, r6⟩ := id h
  unfold cS6 mS6 fX8_named fX9_named
  have hx : fX9_isIn x 1 4095 = if x < 1 then 0 else if 4095 < x then 0 else 1 := rfl
  rw [hx]
  by_cases x1 : x < 1
  · rw [if_pos x1, if_pos x1, if_pos rfl]
    exact ⟨-1, c, u, rfl, rfl, h⟩
  by_cases x2 : 4095 < x
  · rw [if_neg x1, if_neg x1, if_pos x2, if_pos x2, if_pos rfl]
    exact ⟨-1, c, u, rfl, rfl, h⟩
  rw [if_neg x1, if_neg x1, if_neg x2, if_neg x2, if_neg (show ¬ (1 : Int32) = 0 by decide)]
  have hx0 : ¬ x < 0 := by
    rw [Int32.lt_iff_toInt_lt] at *
    have : (1 : Int32).toInt = 1 := rfl
    have : (0 : Int32).toInt = 0 := rfl
    omega
  obtain ⟨ex, hl⟩ := pzN_of (pz_not_neg hx0)
  generalize x.toNatClampNeg = set at *
  subst ex
  have hset : set < 4096 := by
    have : ¬ (4095 < set) := fun q => x2 ((pzN_lt (a := 4095) (by omega) hl).mpr q)
    omega
  rcases pz_pitchIn y with ⟨b, hb, rfl, p1, p2⟩ | ⟨p1, p2⟩
  · rw [p1, p2, if_neg (show ¬ (1 : Int32) = 0 by decide), if_neg (show ¬ (1 : Int32) = 0 by decide)]
    by_cases ht : set.testBit b = true
    · have hnz : ¬ ((pzN set >>> (pzN b &&& 31)) &&& 1 = 0) := by
        rw [pz_testBitN hset hb, ht]; decide
      rw [if_neg hnz, if_neg hnz]
      obtain ⟨I1, A1, g1, g2, g3, g4, g5⟩ := pz_find8 (I := c.2.2.1 2) r6 hset hb
      obtain ⟨I2, A2, j1, ⟨j2, j3⟩, j4, j5⟩ := pz_finds hset ht hb BM u.1 u.2 r5
      have hl := pzFl_len set b 240
      obtain ⟨A3, k1, k2, k3⟩ := pz_copyN hl BM (5 * (pzFl set b 240).length) 0 FU I2 A2 (by omega) (by unfold FU; omega) j2 (fun j hj => by omega)
      refine ⟨pzN (pzFl set b 240).length, (c.1, c.2.1, va_up c.2.2.1 2 I1, va_up c.2.2.2.1 2 A1, c.2.2.2.2), (upd I2 10 (pzN (pzFl set b 240).length), A3), ?_, ?_, ?_⟩
      · rw [g1]; rfl
      · rw [j1]; exact k1
      · unfold pzRel
        dsimp only
        rw [pz_va_ne _ _ (show 0 ≠ 2 by decide), pz_va_ne _ _ (show 1 ≠ 2 by decide), pz_va_eq, pz_va_ne _ _ (show 3 ≠ 2 by decide), pz_va_ne _ _ (show 4 ≠ 2 by decide), pz_va_ne _ _ (show 1 ≠ 2 by decide), pz_va_eq, pz_va_ne _ _ (show 3 ≠ 2 by decide), pz_va_ne _ _ (show 4 ≠ 2 by decide)]
        rw [pz_upd_ne _ _ (show 6 ≠ 10 by decide), pz_upd_ne _ _ (show 1 ≠ 10 by decide), pz_upd_eq, pz_upd_ne _ _ (show 12 ≠ 10 by decide), pz_upd_ne _ _ (show 8 ≠ 10 by decide)]
        rw [j4 6 (by decide), j4 1 (by decide), j4 12 (by decide), j4 8 (by decide), k3 0 (by decide), j5 0 (by decide), k3 11 (by decide), j5 11 (by decide), k3 7 (by decide), j5 7 (by decide), g3]
        refine ⟨pzR0_congr r0 ((k3 2 (by decide)).trans (j5 2 (by decide))) ((k3 3 (by decide)).trans (j5 3 (by decide))) ((k3 4 (by decide)).trans (j5 4 (by decide))) ((k3 5 (by decide)).trans (j5 5 (by decide))), r1, ?_, r3, r4, pzB_congr r5 ((k3 13 (by decide)).trans (j5 13 (by decide))) ((k3 14 (by decide)).trans (j5 14 (by decide))) ((k3 15 (by decide)).trans (j5 15 (by decide))), r6⟩
        refine ⟨(pzFl set b 240).length, hl, g4, rfl, Or.inr ⟨b, hb, g2, fun k hk => ⟨(pzFl set b 240).getD k 0, ?_, g5 k hk, ?_⟩⟩⟩
        · refine (pzFl_lt (set := set) (bass := b) ?_).1
          rw [pz_getD_get hk]
          exact List.getElem_mem hk
        · have := j3 k hk
          unfold pzName at this ⊢
          rw [k2 _ (by omega), k2 _ (by omega), k2 _ (by omega), k2 _ (by omega), k2 _ (by omega)]
          exact this
    · have hz : (pzN set >>> (pzN b &&& 31)) &&& 1 = 0 := by
        rw [pz_testBitN hset hb]; simpa using ht
      rw [if_pos hz, if_pos hz]
      exact ⟨-1, c, u, rfl, rfl, h⟩
  · rw [p1, p2, if_pos rfl, if_pos rfl]
    exact ⟨-1, c, u, rfl, rfl, h⟩
set_option maxRecDepth 10000 in
theorem pz_rootOf8 {b p : Nat} (hb : b < 12) (hp : p < 240) : fX2_rootOf (pzN b) (pzN p) = some (pzN (pzSp ((b + p / 20) % 12) (p % 20))) := by
  have h20 : p % 20 < 20 := Nat.mod_lt _ (by omega)
  have hr : (b + p / 20) % 12 < 12 := Nat.mod_lt _ (by omega)
  have hM : ∀ k, k < 20 → fX0_steps (pzN k) = some (pzN (pzM k)) := by decide +kernel
  unfold fX2_rootOf fX2_bodyOf
  rw [show (20 : Int32) = pzN 20 from rfl, pzN_jrem (by omega) (by omega), hM _ h20, Option.bind_some, pzN_div (by omega) (by omega), pzN_add, show (12 : Int32) = pzN 12 from rfl, pzN_jrem (by omega) (by omega), (pz_sp hr h20).2.2.1, Option.bind_some]
set_option maxRecDepth 10000 in
theorem pz_bassNote8 {b : Nat} (hb : b < 12) : fX2_bassNote (pzN b) = some (pzN (pzSp b 0)) := by
  have hM : fX0_steps 0 = some (pzN (pzM 0)) := by decide +kernel
  unfold fX2_bassNote
  rw [hM, Option.bind_some, (pz_sp hb (by omega)).2.2.1, Option.bind_some]
set_option maxRecDepth 10000 in
theorem pz_bodyOf8 {p : Nat} (hp : p < 240) : fX2_bodyOf (pzN p) = pzN (p % 20) := by
  unfold fX2_bodyOf
  rw [show (20 : Int32) = pzN 20 from rfl, pzN_jrem (by omega) (by omega)]
/-- the text of a name -/
def pzNt (b p : Nat) : List Nat := pzShow (pzSp ((b + p / 20) % 12) (p % 20)) (p % 20) (pzSp b 0)
set_option maxRecDepth 10000 in
theorem pz_showsName9 {I : Nat → Int32} {A : Nat → Nat → Int32} {k b p : Nat} (hk : k < 240) (hb : b < 12) (hp : p < 240) (h : pzName (A 9) k b p) :
    ∃ I' A', fX9_showsName_vfound BM I A (pzN (5 * k)) = some (I', A') ∧ pzU I' A' (pzNt b p) ∧ pzFr I A I' A' := by
  obtain ⟨a0, a1, a2, a3, a4⟩ := h
  have h20 : p % 20 < 20 := Nat.mod_lt _ (by omega)
  have hr : (b + p / 20) % 12 < 12 := Nat.mod_lt _ (by omega)
  obtain ⟨s1, s2, _⟩ := pz_sp hr h20
  obtain ⟨q1, q2, _⟩ := pz_sp hb (b := 0) (by omega)
  unfold pzNt
  generalize pzSp ((b + p / 20) % 12) (p % 20) = t at *
  generalize pzSp b 0 = v at *
  have h1 := (pz_noM t s1).2
  have h2 := (pz_noM v q1).2
  have h3 := (pz_bw (p % 20) (by omega)).2.1
  have hwd : pzBwd (p % 20) = BM 19 (p % 20) := by unfold pzBwd; rw [if_neg (by omega)]
  have U0 : pzU (upd I 8 0) A [] := ⟨by rw [pz_upd_eq]; rfl, fun k hk => by simp at hk⟩
  have F0 : pzFr I A (upd I 8 0) A := ⟨fun j hj => pz_upd_ne _ _ hj, fun _ _ => rfl⟩
  obtain ⟨I1, A1, e1, U1, F1⟩ := pz_showsNote BM s1 U0 (by simp)
  obtain ⟨I2, A2, e2, U2, F2⟩ := pz_showsWord BM (wd := pzBwd (p % 20)) (pz_bw (p % 20) (by omega)).1 (pz_bw (p % 20) (by omega)).2.2 U1 (by omega) (by simp; omega)
  rw [hwd] at e2
  have F3 := pzFr_trans F0 (pzFr_trans F1 F2)
  rw [List.nil_append] at U2
  have m1 : A1 9 = A 9 := F1.2 9 (by decide)
  have m2 : A2 9 = A 9 := F3.2 9 (by decide)
  unfold fX9_showsName_vfound
  simp only [pzN_suc, show (3 : Int32) = pzN 3 from rfl, show (4 : Int32) = pzN 4 from rfl, show (2 : Int32) = pzN 2 from rfl, pzN_add]
  rw [pz_gd2 (by omega) (by omega), pz_gd2 (by omega) (by omega), pzN_clamp (by omega), pzN_clamp (by omega), a0, a1, e1]
  simp only [Option.bind_some, m1]
  rw [pz_gd2 (by omega) (by omega), pzN_clamp (by omega), a2, pz_gd2 (by omega) (by omega), pzN_clamp (by omega), e2]
  simp only [Option.bind_some, m2]
  rw [pz_gd2 (by omega) (by omega)]
  simp only [pzN_clamp (show 5 * k + 3 < 2147483648 by omega), pzN_clamp (show 5 * k + 4 < 2147483648 by omega), a3]
  unfold pzShow
  rw [q2, s2]
  by_cases hp20 : p < 20
  · rw [if_pos hp20, if_pos (by rfl), if_pos (by omega), List.append_nil]
    exact ⟨I2, A2, rfl, U2, F3⟩
  · have hne : ¬ b = (b + p / 20) % 12 := by omega
    rw [if_neg hp20, if_neg (show ¬ pzN (v / 5) = -pzN 2 from pzN_ne2 (by omega)), if_neg hne, show (47 : Int32) = pzN 47 from rfl]
    obtain ⟨I4, A4, e4, U4, F4⟩ := pz_shows BM U2 (by rw [List.length_append]; omega) (x := 47) (by omega)
    obtain ⟨I5, A5, e5, U5, F5⟩ := pz_showsNote BM q1 U4 (by rw [List.length_append, List.length_append, List.length_cons, List.length_nil]; omega)
    have m4 : A4 9 = A 9 := (F4.2 9 (by decide)).trans m2
    rw [e4]
    simp only [Option.bind_some, m4]
    rw [pz_gd2 (by omega) (by omega), pz_gd2 (by omega) (by omega), a3, a4, if_neg hp20, e5]
    refine ⟨I5, A5, rfl, ?_, pzFr_trans F3 (pzFr_trans F4 F5)⟩
    simpa using U5
set_option maxRecDepth 10000 in
theorem pz_showsName29 {I : Nat → Int32} {A : Nat → Nat → Int32} {k b p : Nat} (hk : k < 240) (hb : b < 12) (hp : p < 240) (h : pzName (A 29) k b p) :
    ∃ I' A', fX9_showsName_vnames BM I A (pzN (5 * k)) = some (I', A') ∧ pzU I' A' (pzNt b p) ∧ pzFr I A I' A' := by
  obtain ⟨a0, a1, a2, a3, a4⟩ := h
  have h20 : p % 20 < 20 := Nat.mod_lt _ (by omega)
  have hr : (b + p / 20) % 12 < 12 := Nat.mod_lt _ (by omega)
  obtain ⟨s1, s2, _⟩ := pz_sp hr h20
  obtain ⟨q1, q2, _⟩ := pz_sp hb (b := 0) (by omega)
  unfold pzNt
  generalize pzSp ((b + p / 20) % 12) (p % 20) = t at *
  generalize pzSp b 0 = v at *
  have h1 := (pz_noM t s1).2
  have h2 := (pz_noM v q1).2
  have h3 := (pz_bw (p % 20) (by omega)).2.1
  have hwd : pzBwd (p % 20) = BM 19 (p % 20) := by unfold pzBwd; rw [if_neg (by omega)]
  have U0 : pzU (upd I 8 0) A [] := ⟨by rw [pz_upd_eq]; rfl, fun k hk => by simp at hk⟩
  have F0 : pzFr I A (upd I 8 0) A := ⟨fun j hj => pz_upd_ne _ _ hj, fun _ _ => rfl⟩
  obtain ⟨I1, A1, e1, U1, F1⟩ := pz_showsNote BM s1 U0 (by simp)
  obtain ⟨I2, A2, e2, U2, F2⟩ := pz_showsWord BM (wd := pzBwd (p % 20)) (pz_bw (p % 20) (by omega)).1 (pz_bw (p % 20) (by omega)).2.2 U1 (by omega) (by simp; omega)
  rw [hwd] at e2
  have F3 := pzFr_trans F0 (pzFr_trans F1 F2)
  rw [List.nil_append] at U2
  have m1 : A1 29 = A 29 := F1.2 29 (by decide)
  have m2 : A2 29 = A 29 := F3.2 29 (by decide)
  unfold fX9_showsName_vnames
  simp only [pzN_suc, show (3 : Int32) = pzN 3 from rfl, show (4 : Int32) = pzN 4 from rfl, show (2 : Int32) = pzN 2 from rfl, pzN_add]
  rw [pz_gd2 (by omega) (by omega), pz_gd2 (by omega) (by omega), pzN_clamp (by omega), pzN_clamp (by omega), a0, a1, e1]
  simp only [Option.bind_some, m1]
  rw [pz_gd2 (by omega) (by omega), pzN_clamp (by omega), a2, pz_gd2 (by omega) (by omega), pzN_clamp (by omega), e2]
  simp only [Option.bind_some, m2]
  rw [pz_gd2 (by omega) (by omega)]
  simp only [pzN_clamp (show 5 * k + 3 < 2147483648 by omega), pzN_clamp (show 5 * k + 4 < 2147483648 by omega), a3]
  unfold pzShow
  rw [q2, s2]
  by_cases hp20 : p < 20
  · rw [if_pos hp20, if_pos (by rfl), if_pos (by omega), List.append_nil]
    exact ⟨I2, A2, rfl, U2, F3⟩
  · have hne : ¬ b = (b + p / 20) % 12 := by omega
    rw [if_neg hp20, if_neg (show ¬ pzN (v / 5) = -pzN 2 from pzN_ne2 (by omega)), if_neg hne, show (47 : Int32) = pzN 47 from rfl]
    obtain ⟨I4, A4, e4, U4, F4⟩ := pz_shows BM U2 (by rw [List.length_append]; omega) (x := 47) (by omega)
    obtain ⟨I5, A5, e5, U5, F5⟩ := pz_showsNote BM q1 U4 (by rw [List.length_append, List.length_append, List.length_cons, List.length_nil]; omega)
    have m4 : A4 29 = A 29 := (F4.2 29 (by decide)).trans m2
    rw [e4]
    simp only [Option.bind_some, m4]
    rw [pz_gd2 (by omega) (by omega), pz_gd2 (by omega) (by omega), a3, a4, if_neg hp20, e5]
    refine ⟨I5, A5, rfl, ?_, pzFr_trans F3 (pzFr_trans F4 F5)⟩
    simpa using U5
set_option maxRecDepth 10000 in
theorem pz_hS7 : hS7 pzRel := by
  intro c u x h
  obtain ⟨_, _, ⟨n, hn, f1, f2, f3⟩, _, _, _⟩ := id h
  unfold cS7 mS7 fX8_name fX9_name fX2_placeOf
  rw [f1, f2]
  rcases pz_isInM x (n := n) (by omega) with ⟨i, b, rfl, d, f, g⟩ | ⟨a, b⟩
  · have e240 : ¬ (240 : Int32) ≤ pzN i := by rw [show (240 : Int32) = pzN 240 from rfl, pzN_le (by omega) (by omega)]; omega
    rcases f3 with f3 | ⟨v, hv, hj, f3⟩
    · omega
    obtain ⟨p, hp, hep, hnm⟩ := f3 i b
    have h20 : p % 20 < 20 := Nat.mod_lt _ (by omega)
    have hr : (v + p / 20) % 12 < 12 := Nat.mod_lt _ (by omega)
    obtain ⟨s1, s2, _⟩ := pz_sp hr h20
    obtain ⟨q1, q2, _⟩ := pz_sp hv (b := 0) (by omega)
    obtain ⟨I1, A1, g1, T1⟩ := pz_cshow s1 (n := p % 20) (by omega) q1 c.1 c.2.1 c.2.2.1 c.2.2.2.1 c.2.2.2.2
    obtain ⟨I2, A2, g2, U2, F2⟩ := pz_showsName9 (I := u.1) (k := i) (by omega) hv hp hnm
    obtain ⟨o1, o2⟩ := pz_show_ok s1 (n := p % 20) (by omega) q1
    refine ⟨pzN (pzNt v p).length, _, (I2, A2), ?_, ?_, pz_text h T1 U2 F2 o1 o2 c.2.2.2.2⟩
    · rw [if_neg f, if_neg g, if_neg e240, pz_gd2 (by omega) (by omega), pzN_clamp (by omega), hep, Option.bind_some, if_neg (pzN_ne1 (by omega)), hj, pz_rootOf8 hv hp, Option.bind_some, pz_bassNote8 hv, Option.bind_some, pz_bodyOf8 hp, g1]
      rfl
    · rw [d, if_neg (by decide), show (5 : Int32) = pzN 5 from rfl, pzN_mul, g2]
      simp only [Option.bind_some]
      rw [U2.1]
  · rw [a, if_pos rfl]
    rcases b with b | ⟨b, b2⟩
    · rw [if_pos b]
      exact ⟨-1, c, u, rfl, rfl, h⟩
    · rw [if_neg b, if_pos b2]
      exact ⟨-1, c, u, rfl, rfl, h⟩
/-! a text tells its parts -/
set_option maxRecDepth 10000 in
theorem pz_tw (p : Nat → Bool) : ∀ (l x : List Nat), (∀ y, y ∈ l → p y = true) → x.takeWhile p = [] → (l ++ x).takeWhile p = l
  | [], x, _, h => by simpa using h
  | y :: l, x, h1, h2 => by
    rw [List.cons_append, List.takeWhile_cons_of_pos (h1 y (by simp)), pz_tw p l x (fun z hz => h1 z (by simp [hz])) h2]
def pzSig (x : Nat) : Bool := x == 35 || x == 98
set_option maxRecDepth 10000 in
theorem pz_no_tail : ∀ t, t < 35 → (pzNo t).tail.all pzSig = true ∧ pzNo t = (pzNo t).headD 0 :: (pzNo t).tail := by decide +kernel
set_option maxRecDepth 10000 in
theorem pz_no_inj : ∀ t, t < 35 → ∀ v, v < 35 → pzNo t = pzNo v → t = v := by decide +kernel
set_option maxRecDepth 10000 in
theorem pz_bw_inj : ∀ t, t < 21 → ∀ v, v < 21 → pzBw t = pzBw v → t = v := by decide +kernel
set_option maxRecDepth 10000 in
theorem pz_bw_ok : ∀ n, n < 21 → (pzBw n).all (fun x => x != 47) = true ∧ ((pzBw n).takeWhile pzSig = []) := by decide +kernel
set_option maxRecDepth 10000 in
theorem pz_noApp {t v : Nat} {x y : List Nat} (ht : t < 35) (hv : v < 35) (hx : x.takeWhile pzSig = []) (hy : y.takeWhile pzSig = []) (h : pzNo t ++ x = pzNo v ++ y) : t = v ∧ x = y := by
  obtain ⟨a1, a2⟩ := pz_no_tail t ht
  obtain ⟨b1, b2⟩ := pz_no_tail v hv
  have e : pzNo t = pzNo v := by
    rw [a2, b2] at h
    rw [List.cons_append, List.cons_append, List.cons.injEq] at h
    obtain ⟨h1, h2⟩ := h
    have h3 := congrArg (List.takeWhile pzSig) h2
    rw [pz_tw pzSig _ _ (List.all_eq_true.mp a1) hx, pz_tw pzSig _ _ (List.all_eq_true.mp b1) hy] at h3
    rw [a2, b2, h1, h3]
  refine ⟨pz_no_inj t ht v hv e, ?_⟩
  rw [e] at h
  exact List.append_cancel_left h
set_option maxRecDepth 10000 in
theorem pz_bwApp {n m : Nat} {x y : List Nat} (hn : n < 21) (hm : m < 21) (hx : x.takeWhile (fun x => x != 47) = []) (hy : y.takeWhile (fun x => x != 47) = []) (h : pzBw n ++ x = pzBw m ++ y) : n = m ∧ x = y := by
  have e : pzBw n = pzBw m := by
    have h3 := congrArg (List.takeWhile (fun x => x != 47)) h
    rw [pz_tw _ _ _ (List.all_eq_true.mp (pz_bw_ok n hn).1) hx, pz_tw _ _ _ (List.all_eq_true.mp (pz_bw_ok m hm).1) hy] at h3
    exact h3
  refine ⟨pz_bw_inj n hn m hm e, ?_⟩
  rw [e] at h
  exact List.append_cancel_left h
set_option maxRecDepth 10000 in
theorem pz_twBw {n : Nat} (hn : n < 21) {x : List Nat} (hx : x = [] ∨ ∃ z, x = 47 :: z) : (pzBw n ++ x).takeWhile pzSig = [] := by
  have h := (pz_bw_ok n hn).2
  cases hb : pzBw n with
  | nil =>
    rw [List.nil_append]
    rcases hx with rfl | ⟨z, rfl⟩ <;> rfl
  | cons a l =>
    rw [hb] at h
    rw [List.cons_append]
    by_cases ha : pzSig a = true
    · rw [List.takeWhile_cons_of_pos ha] at h; cases h
    · rw [List.takeWhile_cons_of_neg ha]
set_option maxRecDepth 10000 in
theorem pz_show_inj {t n b t' n' b' : Nat} (ht : t < 35) (hn : n < 21) (hb : b < 35) (ht' : t' < 35) (hn' : n' < 21) (hb' : b' < 35) (hp : pzPi b' = pzPi b) :
    pzShow t' n' b' = pzShow t n b ↔ (n' = n ∧ t' = t ∧ (pzPi b = pzPi t ∨ b' = b)) := by
  constructor
  · intro h
    unfold pzShow at h
    rw [List.append_assoc, List.append_assoc] at h
    have o1 : (if pzPi b = pzPi t then [] else 47 :: pzNo b) = [] ∨ ∃ z, (if pzPi b = pzPi t then [] else 47 :: pzNo b) = 47 :: z := by
      split
      · exact Or.inl rfl
      · exact Or.inr ⟨_, rfl⟩
    have o2 : (if pzPi b' = pzPi t' then [] else 47 :: pzNo b') = [] ∨ ∃ z, (if pzPi b' = pzPi t' then [] else 47 :: pzNo b') = 47 :: z := by
      split
      · exact Or.inl rfl
      · exact Or.inr ⟨_, rfl⟩
    obtain ⟨e1, h⟩ := pz_noApp ht' ht (pz_twBw hn' o2) (pz_twBw hn o1) h
    subst e1
    have p1 : ∀ x : List Nat, (x = [] ∨ ∃ z, x = 47 :: z) → x.takeWhile (fun x => x != 47) = [] := by
      intro x hx
      rcases hx with rfl | ⟨z, rfl⟩ <;> rfl
    obtain ⟨e2, h⟩ := pz_bwApp hn' hn (p1 _ o2) (p1 _ o1) h
    refine ⟨e2, rfl, ?_⟩
    rw [hp] at h
    by_cases hq : pzPi b = pzPi t'
    · exact Or.inl hq
    · rw [if_neg hq, if_neg hq, List.cons.injEq] at h
      exact Or.inr (pz_no_inj b' hb' b hb h.2)
  · rintro ⟨rfl, rfl, h⟩
    unfold pzShow
    rw [hp]
    rcases h with h | rfl
    · rw [if_pos h, if_pos h]
    · rfl
/-! the reference's copies -/
set_option maxRecDepth 10000 in
theorem pz_cp17 {had : Nat} (hh : had ≤ 12) (I : Nat → Int32) (c : Int32) : ∀ d k f (A : Nat → Nat → Int32), k + d = had → d < f → (∀ j, j < had → ∃ v, v < 128 ∧ A 7 j = pzN v) → (∀ j, j < k → A 31 j = A 7 j) →
    ∃ A', fX9_normal_17 BM f I A c (pzN had) (pzN k) = fX9_normal_17B BM (fun _ _ _ _ _ => none) I A' c (pzN had) (pzN had) ∧ (∀ j, j < had → A' 31 j = A 7 j) ∧ ∀ j, j ≠ 31 → A' j = A j
  | d, k, 0, A, _, hf, _, _ => by omega
  | 0, k, f + 1, A, e, hf, h7, h31 => by
    have : k = had := by omega
    subst this
    refine ⟨A, ?_, h31, fun _ _ => rfl⟩
    show fX9_normal_17B BM (fX9_normal_17 BM f) I A c (pzN k) (pzN k) = _
    have hle : pzN k ≤ pzN k := (pzN_le (by omega) (by omega)).mpr (Nat.le_refl _)
    unfold fX9_normal_17B
    rw [if_pos hle, if_pos hle]
  | d + 1, k, f + 1, A, e, hf, h7, h31 => by
    obtain ⟨v, hv, ev⟩ := h7 k (by omega)
    obtain ⟨A', g1, g2, g3⟩ := pz_cp17 hh I c d (k + 1) f (va_up A 31 (upd (A 31) k (pzN v))) (by omega) (by omega) (by rw [pz_va_ne _ _ (by decide)]; exact h7) (by
      intro j hj
      rw [pz_va_eq, pz_va_ne _ _ (by decide)]
      by_cases ej : j = k
      · subst ej; rw [pz_upd_eq, ev]
      · rw [pz_upd_ne _ _ ej, h31 j (by omega)])
    refine ⟨A', ?_, fun j hj => ?_, fun j hj => ?_⟩
    · rw [← g1]
      show fX9_normal_17B BM (fX9_normal_17 BM f) I A c (pzN had) (pzN k) = _
      unfold fX9_normal_17B
      rw [if_neg (by rw [pzN_le (by omega) (by omega)]; omega), pz_gd2 (by omega) (by omega), pz_gd2 (by omega) (by omega), pzN_clamp (by omega), ev, (pz_nar v hv).2, pzN_suc]
    · rw [g2 j hj, pz_va_ne _ _ (by decide)]
    · rw [g3 j hj, pz_va_ne _ _ hj]
set_option maxRecDepth 10000 in
theorem pz_cp67 {n : Nat} (hh : n ≤ 12) (I : Nat → Int32) (v2 : Int32) : ∀ d k f (A : Nat → Nat → Int32), k + d = n → d < f → (∀ j, j < n → ∃ v, v < 128 ∧ A 7 j = pzN v) → (∀ j, j < k → A 32 j = A 7 j) →
    ∃ A', fX9_normal_67 BM f I A v2 (pzN n) (pzN k) = fX9_normal_67B BM (fun _ _ _ _ _ => none) I A' v2 (pzN n) (pzN n) ∧ (∀ j, j < n → A' 32 j = A 7 j) ∧ ∀ j, j ≠ 32 → A' j = A j
  | d, k, 0, A, _, hf, _, _ => by omega
  | 0, k, f + 1, A, e, hf, h7, h31 => by
    have : k = n := by omega
    subst this
    refine ⟨A, ?_, h31, fun _ _ => rfl⟩
    show fX9_normal_67B BM (fX9_normal_67 BM f) I A v2 (pzN k) (pzN k) = _
    have hle : pzN k ≤ pzN k := (pzN_le (by omega) (by omega)).mpr (Nat.le_refl _)
    unfold fX9_normal_67B
    rw [if_pos hle, if_pos hle]
  | d + 1, k, f + 1, A, e, hf, h7, h31 => by
    obtain ⟨v, hv, ev⟩ := h7 k (by omega)
    obtain ⟨A', g1, g2, g3⟩ := pz_cp67 hh I v2 d (k + 1) f (va_up A 32 (upd (A 32) k (pzN v))) (by omega) (by omega) (by rw [pz_va_ne _ _ (by decide)]; exact h7) (by
      intro j hj
      rw [pz_va_eq, pz_va_ne _ _ (by decide)]
      by_cases ej : j = k
      · subst ej; rw [pz_upd_eq, ev]
      · rw [pz_upd_ne _ _ ej, h31 j (by omega)])
    refine ⟨A', ?_, fun j hj => ?_, fun j hj => ?_⟩
    · rw [← g1]
      show fX9_normal_67B BM (fX9_normal_67 BM f) I A v2 (pzN n) (pzN k) = _
      unfold fX9_normal_67B
      rw [if_neg (by rw [pzN_le (by omega) (by omega)]; omega), pz_gd2 (by omega) (by omega), pz_gd2 (by omega) (by omega), pzN_clamp (by omega), ev, (pz_nar v hv).2, pzN_suc]
    · rw [g2 j hj, pz_va_ne _ _ (by decide)]
    · rw [g3 j hj, pz_va_ne _ _ hj]
set_option maxRecDepth 10000 in
theorem pz_cp188 {had : Nat} (hh : had ≤ 12) (I : Nat → Int32) (v4 : Int32) : ∀ d k f (A : Nat → Nat → Int32), k + d = had → d < f → (∀ j, j < had → ∃ v, v < 128 ∧ A 31 j = pzN v) → (∀ j, j < k → A 7 j = A 31 j) →
    ∃ A', fX9_normal_188 BM f I A (pzN had) v4 (pzN k) = some (if v4 = 0 then 0 else 1, I, A') ∧ (∀ j, j < had → A' 7 j = A 31 j) ∧ ∀ j, j ≠ 7 → A' j = A j
  | d, k, 0, A, _, hf, _, _ => by omega
  | 0, k, f + 1, A, e, hf, h7, h31 => by
    have : k = had := by omega
    subst this
    refine ⟨A, ?_, h31, fun _ _ => rfl⟩
    show fX9_normal_188B BM (fX9_normal_188 BM f) I A (pzN k) v4 (pzN k) = _
    unfold fX9_normal_188B
    rw [if_pos (by rw [pzN_le (by omega) (by omega)]; omega)]
    by_cases h : v4 = 0
    · rw [if_pos h, if_pos h]
    · rw [if_neg h, if_neg h]
  | d + 1, k, f + 1, A, e, hf, h7, h31 => by
    obtain ⟨v, hv, ev⟩ := h7 k (by omega)
    obtain ⟨A', g1, g2, g3⟩ := pz_cp188 hh I v4 d (k + 1) f (va_up A 7 (upd (A 7) k (pzN v))) (by omega) (by omega) (by rw [pz_va_ne _ _ (by decide)]; exact h7) (by
      intro j hj
      rw [pz_va_eq, pz_va_ne _ _ (by decide)]
      by_cases ej : j = k
      · subst ej; rw [pz_upd_eq, ev]
      · rw [pz_upd_ne _ _ ej, h31 j (by omega)])
    refine ⟨A', ?_, fun j hj => ?_, fun j hj => ?_⟩
    · rw [← g1]
      show fX9_normal_188B BM (fX9_normal_188 BM f) I A (pzN had) v4 (pzN k) = _
      unfold fX9_normal_188B
      rw [if_neg (by rw [pzN_le (by omega) (by omega)]; omega), pz_gd2 (by omega) (by omega), pz_gd2 (by omega) (by omega), pzN_clamp (by omega), ev, (pz_nar v hv).2, pzN_suc]
    · rw [g2 j hj, pz_va_ne _ _ (by decide)]
    · rw [g3 j hj, pz_va_ne _ _ hj]
set_option maxRecDepth 10000 in
theorem pz_cmp139 (I : Nat → Int32) (A : Nat → Nat → Int32) (v2 : Int32) {l m : List Nat} (hl : l.length ≤ 12) (l128 : ∀ x, x ∈ l → x < 128) (m128 : ∀ x, x ∈ m → x < 128) (h7 : ∀ j, j < m.length → A 7 j = pzN (m.getD j 0)) (h32 : ∀ j, j < l.length → A 32 j = pzN (l.getD j 0)) :
    ∀ d k f v, v ≤ 1 → (v = 1 → m.length = l.length) → k + d = l.length → d < f → fX9_normal_139 BM f I A v2 (pzN l.length) (pzN v) (pzN k) = fX9_normal_188 BM FU (upd I 8 v2) A v2 (if v = 1 ∧ m.drop k = l.drop k then 1 else 0) 0
  | d, k, 0, v, _, _, _, hf => by omega
  | 0, k, f + 1, v, hv, hvl, e, hf => by
    show fX9_normal_139B BM (fX9_normal_139 BM f) I A v2 (pzN l.length) (pzN v) (pzN k) = _
    unfold fX9_normal_139B
    rw [if_pos (by rw [pzN_le (by omega) (by omega)]; omega)]
    by_cases h : v = 1
    · subst h
      have := hvl rfl
      rw [if_pos]
      · rfl
      · exact ⟨rfl, by rw [List.drop_eq_nil_of_le (by omega), List.drop_eq_nil_of_le (by omega)]⟩
    · have : v = 0 := by omega
      subst this
      rw [if_neg (by omega)]
      rfl
  | d + 1, k, f + 1, v, hv, hvl, e, hf => by
    have ih := pz_cmp139 I A v2 hl l128 m128 h7 h32 d (k + 1) f
    show fX9_normal_139B BM (fX9_normal_139 BM f) I A v2 (pzN l.length) (pzN v) (pzN k) = _
    unfold fX9_normal_139B
    rw [if_neg (by rw [pzN_le (by omega) (by omega)]; omega)]
    by_cases h : v = 1
    · subst h
      have hml := hvl rfl
      have hkl : k < l.length := by omega
      have hkm : k < m.length := by omega
      have i1 : l.getD k 0 < 128 := l128 _ (by rw [pz_getD_get hkl]; exact List.getElem_mem hkl)
      have i2 : m.getD k 0 < 128 := m128 _ (by rw [pz_getD_get hkm]; exact List.getElem_mem hkm)
      have key : m.drop k = l.drop k ↔ m.getD k 0 = l.getD k 0 ∧ m.drop (k + 1) = l.drop (k + 1) := by
        rw [List.drop_eq_getElem_cons hkl, List.drop_eq_getElem_cons hkm, pz_getD_get hkl, pz_getD_get hkm, List.cons.injEq]
      rw [if_neg (by decide), pz_gd2 (by omega) (by omega), pz_gd2 (by omega) (by omega), pzN_clamp (by omega), h7 k hkm, h32 k hkl, pzN_suc]
      by_cases hq : m.getD k 0 = l.getD k 0
      · rw [if_pos (by rw [hq])]
        refine (ih 1 (by omega) hvl (by omega) (by omega)).trans ?_
        by_cases hc2 : m.drop k = l.drop k
        · rw [if_pos ⟨rfl, (key.mp hc2).2⟩, if_pos ⟨rfl, hc2⟩]
        · rw [if_neg (fun x => hc2 (key.mpr ⟨hq, x.2⟩)), if_neg (fun x => hc2 x.2)]
      · rw [if_neg (by rw [pzN_inj (by omega) (by omega)]; exact hq)]
        refine (ih 0 (by omega) (by omega) (by omega) (by omega)).trans ?_
        rw [if_neg (by omega), if_neg (fun x => hq (key.mp x.2).1)]
    · have : v = 0 := by omega
      subst this
      rw [if_pos (by rfl), if_neg (by omega)]
      rfl
set_option maxRecDepth 10000 in
theorem pz_setBit {p s b : Nat} (hb : b < 12) : (pzSet p s (1 <<< b)).testBit b = true ∧ pzSet p s (1 <<< b) < 4096 := by
  constructor
  · rw [pzSet_or, Nat.testBit_or, Nat.testBit_shiftLeft]; simp
  · have h : ∀ (l : List Nat) (a : Nat), a < 4096 → l.foldl (fun a i => a ||| 1 <<< ((p + pzH i) % 12)) a < 4096 := by
      intro l
      induction l with
      | nil => intro a h; exact h
      | cons x l ih => intro a h; exact ih _ (pz_lt4096 h (Nat.mod_lt _ (by omega)))
    have := pz_lt4096 (a := 0) (by omega) hb
    rw [Nat.zero_or] at this
    exact h _ _ this
set_option maxRecDepth 10000 in
theorem pzF_head (set bass : Nat) : (pzF (pzMe set bass) 240 0 < 240 → 0 < (pzFl set bass 240).length ∧ (pzFl set bass 240).getD 0 0 = pzF (pzMe set bass) 240 0) ∧ (¬ pzF (pzMe set bass) 240 0 < 240 → (pzFl set bass 240).length = 0) := by
  have gen : ∀ d k, (pzF (pzMe set bass) d k < k + d → ∃ r, (List.range' k d).filter (pzMe set bass) = pzF (pzMe set bass) d k :: r) ∧ (¬ pzF (pzMe set bass) d k < k + d → (List.range' k d).filter (pzMe set bass) = []) := by
    intro d
    induction d with
    | zero => intro k; exact ⟨fun h => by simp [pzF] at h, fun _ => rfl⟩
    | succ d ih =>
      intro k
      rw [List.range'_succ]
      unfold pzF
      by_cases h : pzMe set bass k = true
      · rw [if_pos h, List.filter_cons_of_pos h]
        exact ⟨fun _ => ⟨_, rfl⟩, fun h => by omega⟩
      · rw [if_neg h, List.filter_cons_of_neg h]
        have := ih (k + 1)
        rw [show k + (d + 1) = k + 1 + d by omega]
        exact this
  have g := gen 240 0
  rw [Nat.zero_add] at g
  unfold pzFl
  rw [List.range_eq_range']
  constructor
  · intro h
    obtain ⟨r, e⟩ := g.1 h
    rw [e]
    exact ⟨by simp, rfl⟩
  · intro h
    rw [g.2 h]
    rfl
set_option maxRecDepth 10000 in
theorem pz_hS8 : hS8 pzRel := by
  intro c u x h
  obtain ⟨r0, r1, r2, r3, r4, hB, hBs⟩ := id h
  unfold cS8 mS8 fX8_normal fX9_normal
  rcases pz_at BM h x with ⟨i, t, s, b, z, hi, h100, rfl, hk, hc, e1, e2⟩ | ⟨e1, e2⟩
  · obtain ⟨had, hh, s1, s2, s3⟩ := r4
    obtain ⟨ht, hb, hs, hz, a0, a1, a2, a3, a4, a5, ar⟩ := id hc
    obtain ⟨k0, k1, k2, k3⟩ := id hk
    have pb := pzPi_lt b
    have pt := pzPi_lt t
    have hn := pzBn_le s
    obtain ⟨sb1, sb2⟩ := pz_setBit (p := pzPi t) (s := s) pb
    generalize hset : pzSet (pzPi t) s (1 <<< pzPi b) = set at *
    -- the reference
    obtain ⟨A1, g1, g2, g3⟩ := pz_cp17 hh u.1 (pzN i) had 0 FU u.2 (by omega) (by unfold FU; omega) (fun j hj => (s3 j hj).2) (fun j hj => by omega)
    have hc1 := pzC_congr hc (g3 2 (by decide)) (g3 3 (by decide)) (g3 4 (by decide)) (g3 5 (by decide))
    have hB1 := pzB_congr hB (g3 13 (by decide)) (g3 14 (by decide)) (g3 15 (by decide))
    obtain ⟨I2, A2, j1, ⟨j2, j3⟩, j4, j5⟩ := pz_finds sb2 sb1 pb BM u.1 A1 hB1
    have hc2 := pzC_congr hc1 (j5 2 (by decide)) (j5 3 (by decide)) (j5 4 (by decide)) (j5 5 (by decide))
    have hB2 := pzB_congr hB1 (j5 13 (by decide)) (j5 14 (by decide)) (j5 15 (by decide))
    obtain ⟨I3, A3, w1, w2, w3⟩ := pz_writes (I := I2) h100 hc2 hB2
    obtain ⟨o1, o2⟩ := pz_show_ok ht (n := pzBn s) (by omega) hb
    have hU7 : ∀ j, j < (pzShow t (pzBn s) b).length → ∃ v, v < 128 ∧ A3 7 j = pzN v := fun j hj => ⟨_, o2 _ (by rw [pz_getD_get hj]; exact List.getElem_mem hj), w2.2 j hj⟩
    obtain ⟨A4, c1, c2, c3⟩ := pz_cp67 o1 I3 (pzN had) (pzShow t (pzBn s) b).length 0 FU A3 (by omega) (by unfold FU; omega) hU7 (fun j hj => by omega)
    have hle : ∀ n, n ≤ 12 → pzN n ≤ pzN n := fun n h => (pzN_le (by omega) (by omega)).mpr (Nat.le_refl _)
    have hM : fX9_normal_17 BM FU u.1 u.2 (pzN i) (pzN had) 0 = fX9_normal_67B BM (fun _ _ _ _ _ => none) I3 A4 (pzN had) (pzN (pzShow t (pzBn s) b).length) (pzN (pzShow t (pzBn s) b).length) := by
      refine g1.trans ?_
      unfold fX9_normal_17B
      rw [if_pos (hle had hh), pz_set BM u.1 h100 hc1, Option.bind_some, pz_bass BM u.1 h100 hc1, Option.bind_some, hset, j1]
      simp only [Option.bind_some, w1]
      rw [w2.1]
      exact c1
    have q31 : A4 31 = A1 31 := (c3 31 (by decide)).trans ((w3.2 31 (by decide)).trans (j5 31 (by decide)))
    have q29 : A4 29 = A2 29 := (c3 29 (by decide)).trans (w3.2 29 (by decide))
    have q30 : I3 30 = I2 30 := w3.1 30 (by decide)
    have h31 : ∀ j, j < had → ∃ v, v < 128 ∧ A1 31 j = pzN v := fun j hj => by
      obtain ⟨v, hv, ev⟩ := (s3 j hj).2
      exact ⟨v, hv, by rw [g2 j hj, ev]⟩
    -- what is kept
    have fin : ∀ (I5 : Nat → Int32) (A5 A6 : Nat → Nat → Int32), (∀ j, j ≠ 8 → I5 j = I3 j) → (∀ j, j ≠ 7 → A5 j = A4 j) → (∀ j, j < had → A6 7 j = A5 31 j) → (∀ j, j ≠ 7 → A6 j = A5 j) → pzRel c (upd I5 8 (pzN had), A6) := by
      intro I5 A5 A6 f1 f2 f3 f4
      have fa : ∀ j, j ≠ 7 → j ≠ 32 → j ≠ 29 → j ≠ 31 → A6 j = u.2 j := fun j n7 n32 n29 n31 => (f4 j n7).trans ((f2 j n7).trans ((c3 j n32).trans ((w3.2 j n7).trans ((j5 j n29).trans (g3 j n31)))))
      have fi : ∀ j, j ≠ 8 → j ≠ 30 → upd I5 8 (pzN had) j = u.1 j := fun j n8 n30 => (pz_upd_ne _ _ n8).trans ((f1 j n8).trans ((w3.1 j n8).trans (j4 j n30)))
      unfold pzRel
      dsimp only
      rw [fi 6 (by decide) (by decide), fi 1 (by decide) (by decide), fi 10 (by decide) (by decide), fi 12 (by decide) (by decide), pz_upd_eq, fa 0 (by decide) (by decide) (by decide) (by decide), fa 9 (by decide) (by decide) (by decide) (by decide), fa 11 (by decide) (by decide) (by decide) (by decide)]
      refine ⟨pzR0_congr r0 (fa 2 (by decide) (by decide) (by decide) (by decide)) (fa 3 (by decide) (by decide) (by decide) (by decide)) (fa 4 (by decide) (by decide) (by decide) (by decide)) (fa 5 (by decide) (by decide) (by decide) (by decide)), r1, r2, r3, ?_, pzB_congr hB (fa 13 (by decide) (by decide) (by decide) (by decide)) (fa 14 (by decide) (by decide) (by decide) (by decide)) (fa 15 (by decide) (by decide) (by decide) (by decide)), hBs⟩
      refine ⟨had, hh, s1, rfl, fun j hj => ?_⟩
      have : A6 7 j = u.2 7 j := by rw [f3 j hj, f2 31 (by decide), q31, g2 j hj]
      rw [this]
      exact s3 j hj
    -- both
    rw [e1, e2, Option.bind_some, if_neg (show ¬ (1 : Int32) = 0 by decide), pzN_clamp (by omega), k2, pz_pitch b hb, Option.bind_some, pz_cpitches ht hb hs.1 hk, Option.bind_some, hset, pz_first hBs sb2 pb, Option.bind_some, s2]
    rw [show (0 : Int32) = pzN 0 from rfl] at hM
    have hd := pzF_head set (pzPi b)
    by_cases hF : pzF (pzMe set (pzPi b)) 240 0 < 240
    · obtain ⟨hl0, hd0⟩ := hd.1 hF
      generalize pzF (pzMe set (pzPi b)) 240 0 = p at *
      have h20 : p % 20 < 20 := Nat.mod_lt _ (by omega)
      have hr : (pzPi b + p / 20) % 12 < 12 := Nat.mod_lt _ (by omega)
      obtain ⟨v1, v2, _⟩ := pz_sp hr h20
      obtain ⟨q1, q2, _⟩ := pz_sp pb (b := 0) (by omega)
      have hnm : pzName (A4 29) 0 (pzPi b) p := by
        have := j3 0 hl0
        rw [hd0] at this
        rw [q29]; exact this
      obtain ⟨I5, A5, y1, y2, y3⟩ := pz_showsName29 (I := I3) (k := 0) (by omega) pb hF hnm
      obtain ⟨z1, z2⟩ := pz_show_ok v1 (n := p % 20) (by omega) q1
      have l240 := pzFl_len set (pzPi b) 240
      have hinj := pz_show_inj ht (n := pzBn s) (by omega) hb v1 (n' := p % 20) (by omega) q1 q2
      have hA32 : ∀ j, j < (pzShow t (pzBn s) b).length → A5 32 j = pzN ((pzShow t (pzBn s) b).getD j 0) := by
        intro j hj
        rw [y3.2 32 (by decide), c2 j hj, w2.2 j hj]
      -- the reference's answer
      have hM2 : ∃ A6, fX9_normal_67B BM (fun _ _ _ _ _ => none) I3 A4 (pzN had) (pzN (pzShow t (pzBn s) b).length) (pzN (pzShow t (pzBn s) b).length) = some (if pzNt (pzPi b) p = pzShow t (pzBn s) b then 1 else 0, upd I5 8 (pzN had), A6) ∧ (∀ j, j < had → A6 7 j = A5 31 j) ∧ ∀ j, j ≠ 7 → A6 j = A5 j := by
        unfold fX9_normal_67B
        rw [if_pos (hle _ o1), if_neg (by rw [q30, j2, show (0 : Int32) = pzN 0 from rfl, pzN_le (by omega) (by omega)]; omega)]
        unfold fX9_normal_105
        rw [if_neg (by decide)]
        rw [show pzN (5 * 0) = (0 : Int32) from rfl] at y1
        rw [y1]
        simp only [Option.bind_some]
        have h5 : ∀ j, j < had → ∃ v, v < 128 ∧ A5 31 j = pzN v := by
          intro j hj
          rw [y3.2 31 (by decide), q31]
          exact h31 j hj
        have go : ∀ v, v ≤ 1 → (v = 1 → (pzNt (pzPi b) p).length = (pzShow t (pzBn s) b).length) → (v = 0 → (pzNt (pzPi b) p).length ≠ (pzShow t (pzBn s) b).length) → ∃ A6, fX9_normal_139 BM FU I5 A5 (pzN had) (pzN (pzShow t (pzBn s) b).length) (pzN v) (pzN 0) = some (if pzNt (pzPi b) p = pzShow t (pzBn s) b then 1 else 0, upd I5 8 (pzN had), A6) ∧ (∀ j, j < had → A6 7 j = A5 31 j) ∧ ∀ j, j ≠ 7 → A6 j = A5 j := by
          intro v hv hv1 hv0
          have := pz_cmp139 I5 A5 (pzN had) (l := pzShow t (pzBn s) b) (m := pzNt (pzPi b) p) o1 o2 z2 y2.2 hA32 (pzShow t (pzBn s) b).length 0 FU v hv hv1 (by omega) (by unfold FU; omega)
          rw [this]
          obtain ⟨A6, x1, x2, x3⟩ := pz_cp188 hh (upd I5 8 (pzN had)) (if v = 1 ∧ (pzNt (pzPi b) p).drop 0 = (pzShow t (pzBn s) b).drop 0 then 1 else 0) had 0 FU A5 (by omega) (by unfold FU; omega) h5 (fun j hj => by omega)
          refine ⟨A6, x1.trans ?_, x2, x3⟩
          rw [List.drop_zero, List.drop_zero]
          by_cases hq : pzNt (pzPi b) p = pzShow t (pzBn s) b
          · have : v = 1 := by
              have := hv0
              by_cases h0 : v = 0
              · exact absurd (by rw [hq]) (hv0 h0)
              · omega
            have hi : (if v = 1 ∧ pzNt (pzPi b) p = pzShow t (pzBn s) b then (1 : Int32) else 0) = 1 := if_pos ⟨this, hq⟩
            rw [hi, if_pos hq]
            rfl
          · have hi : (if v = 1 ∧ pzNt (pzPi b) p = pzShow t (pzBn s) b then (1 : Int32) else 0) = 0 := if_neg (fun x => hq x.2)
            rw [hi, if_neg hq]
            rfl
        rw [y2.1]
        by_cases hlen : (pzNt (pzPi b) p).length = (pzShow t (pzBn s) b).length
        · rw [if_pos (by rw [hlen])]
          exact go 1 (by omega) (fun _ => hlen) (by omega)
        · rw [if_neg (by rw [pzN_inj (by unfold pzNt; omega) (by omega)]; exact hlen)]
          exact go 0 (by omega) (by omega) (fun _ => hlen)
      obtain ⟨A6, x1, x2, x3⟩ := hM2
      refine ⟨if pzNt (pzPi b) p = pzShow t (pzBn s) b then 1 else 0, c, (upd I5 8 (pzN had), A6), ?_, hM.trans x1, fin I5 A5 A6 y3.1 y3.2 x2 x3⟩
      rw [if_pos hF, if_neg (pzN_ne1 (by omega))]
      unfold fX1_body
      rw [k1, pz_withSteps hs.1]
      simp only [Option.bind_some]
      rw [pz_bodyOf8 hF, pz_rootOf8 pb hF, Option.bind_some, k0, pz_pitch t ht, Option.bind_some, pz_bassNote8 pb, Option.bind_some]
      unfold pzNt
      by_cases hq : pzShow (pzSp ((pzPi b + p / 20) % 12) (p % 20)) (p % 20) (pzSp (pzPi b) 0) = pzShow t (pzBn s) b
      · obtain ⟨n1, n2, n3⟩ := hinj.mp hq
        rw [if_pos (by rw [n1]), if_pos (by rw [n2]), if_pos hq]
        rcases n3 with n3 | n3
        · rw [if_pos (by rw [n3])]; rfl
        · by_cases n4 : pzPi b = pzPi t
          · rw [if_pos (by rw [n4])]; rfl
          · rw [if_neg (by rw [pzN_inj (by omega) (by omega)]; exact n4), if_pos (by rw [n3])]; rfl
      · rw [if_neg hq]
        by_cases n1 : p % 20 = pzBn s
        · rw [if_pos (by rw [n1])]
          by_cases n2 : pzSp ((pzPi b + p / 20) % 12) (p % 20) = t
          · rw [if_pos (by rw [n2])]
            have n3 : ¬ (pzPi b = pzPi t ∨ pzSp (pzPi b) 0 = b) := fun x => hq (hinj.mpr ⟨n1, n2, x⟩)
            rw [if_neg (by rw [pzN_inj (by omega) (by omega)]; exact fun x => n3 (Or.inl x)), if_neg (by rw [pzN_inj (by omega) (by omega)]; exact fun x => n3 (Or.inr x))]
            rfl
          · rw [if_neg (by rw [pzN_inj (by omega) (by omega)]; exact n2)]; rfl
        · rw [if_neg (by rw [pzN_inj (by omega) (by omega)]; exact n1)]; rfl
    · have hl0 := hd.2 hF
      obtain ⟨A6, x1, x2, x3⟩ := pz_cp188 hh (upd I3 8 (pzN had)) 0 had 0 FU A4 (by omega) (by unfold FU; omega) (by rw [q31]; exact h31) (fun j hj => by omega)
      refine ⟨0, c, (upd I3 8 (pzN had), A6), ?_, hM.trans ?_, fin I3 A4 A6 (fun _ _ => rfl) (fun _ _ => rfl) x2 x3⟩
      · rw [if_neg hF, if_pos rfl]; rfl
      · unfold fX9_normal_67B
        rw [if_pos (hle _ o1), if_pos (by rw [q30, j2, hl0]; decide)]
        unfold fX9_normal_105
        rw [if_pos rfl]
        exact x1
  · rw [e1, e2]
    exact ⟨-1, c, u, rfl, rfl, h⟩
