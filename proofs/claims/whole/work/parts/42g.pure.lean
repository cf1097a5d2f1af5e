/-! the text that is read -/
def pzTc (I : Nat → Int32) (A : Nat → Nat → Int32) (b : Nat → Nat) (n p : Nat) : Prop := n ≤ 40 ∧ p ≤ n ∧ I 1 = pzN n ∧ I 2 = pzN p ∧ ∀ k, k < n → A 0 k = pzN (b k) ∧ b k < 256
def pzTr (I : Nat → Int32) (A : Nat → Nat → Int32) (b : Nat → Nat) (n p : Nat) : Prop := n ≤ 40 ∧ p ≤ n ∧ I 22 = pzN n ∧ I 23 = pzN p ∧ ∀ k, k < n → A 21 k = (pzN (b k)).toInt8.toInt32 ∧ b k < 256
set_option maxRecDepth 10000 in
theorem pz_s8a : ∀ v, v < 128 → (pzN v).toInt8.toInt32 = pzN v := by decide +kernel
set_option maxRecDepth 10000 in
theorem pz_s8b : ∀ v, v < 256 → 128 ≤ v → (pzN v).toInt8.toInt32 < 0 := by decide +kernel
set_option maxRecDepth 10000 in
theorem pz_s8 {v c : Nat} (hv : v < 256) (hc : c < 128) : ((pzN v).toInt8.toInt32 = pzN c) ↔ v = c := by
  by_cases h : v < 128
  · rw [pz_s8a v h, pzN_inj (by omega) (by omega)]
  · constructor
    · intro e
      have := pz_s8b v hv (by omega)
      rw [e] at this
      exact absurd this (fun x => (pzN_not_neg (by omega)).mp x)
    · intro e; omega
def pzSt (b : Nat → Nat) (n p : Nat) (w : List Nat) : Bool := decide (p + w.length ≤ n) && (List.range w.length).all (fun k => b (p + k) == w.getD k 0)
set_option maxRecDepth 10000 in
theorem pzSt_iff {b : Nat → Nat} {n p : Nat} {w : List Nat} : pzSt b n p w = true ↔ p + w.length ≤ n ∧ ∀ k, k < w.length → b (p + k) = w.getD k 0 := by
  unfold pzSt
  rw [Bool.and_eq_true, decide_eq_true_eq, List.all_eq_true]
  constructor
  · rintro ⟨h1, h2⟩
    refine ⟨h1, fun k hk => ?_⟩
    have := h2 k (List.mem_range.mpr hk)
    simpa using this
  · rintro ⟨h1, h2⟩
    refine ⟨h1, fun k hk => ?_⟩
    have := h2 k (List.mem_range.mp hk)
    simpa using this
set_option maxRecDepth 10000 in
theorem pz_byteAt {I : Nat → Int32} {A : Nat → Nat → Int32} {b : Nat → Nat} {n p : Nat} (h : pzTc I A b n p) {x : Nat} (hx : x < 1000) : fX5_byteAt I A (pzN x) = some (if x < n then pzN (b x) else -1) := by
  obtain ⟨h1, h2, h3, h4, h5⟩ := h
  unfold fX5_byteAt
  rw [if_neg (fun q => (pzN_not_neg (by omega)).mp q), h3]
  by_cases hn : x < n
  · rw [if_neg (by rw [pzN_le (by omega) (by omega)]; omega), if_neg (by rw [show (40 : Int32) = pzN 40 from rfl, pzN_le (by omega) (by omega)]; omega), pz_gd2 (by omega) (by omega), pzN_clamp (by omega), (h5 x hn).1, if_pos hn]
  · rw [if_pos (by rw [pzN_le (by omega) (by omega)]; omega), if_neg hn]
/-! the class's stands -/
set_option maxRecDepth 10000 in
theorem pz_cst {I : Nat → Int32} {A : Nat → Nat → Int32} {b : Nat → Nat} {n p : Nat} (h : pzTc I A b n p) {i : Nat} (hi : i < 10) {s e : Nat} (he : e ≤ jN i) : ∀ d k f, k + d = e → d < f → s ≤ k →
    fX5_stands_3 I A i f (pzN s) (pzN e) (pzN k) = some (pzSm ((List.range' k d).all (fun j => decide (p + (j - s) < n) && (b (p + (j - s)) == (pzStr i).getD j 0))))
  | d, k, 0, _, hf, _ => by omega
  | 0, k, f + 1, e1, hf, hs => by
    obtain ⟨c1, c2, c3⟩ := pz_chr i hi
    show fX5_stands_3B I A i (fX5_stands_3 I A i f) (pzN s) (pzN e) (pzN k) = _
    unfold fX5_stands_3B
    rw [if_pos (by rw [pzN_le (by omega) (by omega)]; omega)]
    rfl
  | d + 1, k, f + 1, e1, hf, hs => by
    obtain ⟨c1, c2, c3⟩ := pz_chr i hi
    obtain ⟨c4, c5⟩ := c3 k (by omega)
    have h40 := h.1
    have hpn := h.2.1
    show fX5_stands_3B I A i (fX5_stands_3 I A i f) (pzN s) (pzN e) (pzN k) = _
    unfold fX5_stands_3B
    rw [if_neg (by rw [pzN_le (by omega) (by omega)]; omega), h.2.2.2.1, pzN_add, pzN_sub (by omega), show p + k - s = p + (k - s) by omega, pz_byteAt h (by omega), Option.bind_some, pz_gd2 (by omega) (by omega), pzN_clamp (by omega), c4, pzN_suc, List.range'_succ, List.all_cons]
    by_cases hn : p + (k - s) < n
    · rw [if_pos hn]
      have hb := (h.2.2.2.2 _ hn).2
      by_cases hq : b (p + (k - s)) = (pzStr i).getD k 0
      · rw [if_pos (by rw [hq]), pz_cst h hi he d (k + 1) f (by omega) (by omega) (by omega)]
        have : (decide (p + (k - s) < n) && (b (p + (k - s)) == (pzStr i).getD k 0)) = true := by rw [hq]; simpa using hn
        rw [this, Bool.true_and]
      · rw [if_neg (by rw [pzN_inj (by omega) (by omega)]; exact hq)]
        have : (decide (p + (k - s) < n) && (b (p + (k - s)) == (pzStr i).getD k 0)) = false := by rw [show (b (p + (k - s)) == (pzStr i).getD k 0) = false from beq_eq_false_iff_ne.mpr hq, Bool.and_false]
        rw [this, Bool.false_and]
        rfl
    · rw [if_neg hn, if_neg]
      · have : (decide (p + (k - s) < n) && (b (p + (k - s)) == (pzStr i).getD k 0)) = false := by simp [hn]
        rw [this, Bool.false_and]
        rfl
      · intro q
        exact pzN_ne1 (n := (pzStr i).getD k 0) (by omega) q.symm
def pzWd (i s e : Nat) : List Nat := ((pzStr i).drop s).take (e - s)
set_option maxRecDepth 10000 in
theorem pz_cstands {I : Nat → Int32} {A : Nat → Nat → Int32} {b : Nat → Nat} {n p : Nat} (h : pzTc I A b n p) {i : Nat} (hi : i < 10) {s e : Nat} (he : e ≤ jN i) (hs : s < e) : fX5_stands I A i (pzN s) (pzN e) = some (pzSm (pzSt b n p (pzWd i s e))) := by
  obtain ⟨c1, c2, c3⟩ := pz_chr i hi
  unfold fX5_stands
  rw [pz_cst h hi he (e - s) s FU (by omega) (by unfold FU; omega) (by omega)]
  congr 2
  have hl : (pzWd i s e).length = e - s := by unfold pzWd; rw [List.length_take, List.length_drop]; omega
  have hg : ∀ k, k < e - s → (pzWd i s e).getD k 0 = (pzStr i).getD (s + k) 0 := by
    intro k hk
    unfold pzWd
    rw [List.getD_eq_getElem?_getD, List.getD_eq_getElem?_getD, List.getElem?_take_of_lt hk, List.getElem?_drop]
  rw [Bool.eq_iff_iff, pzSt_iff, List.all_eq_true, hl]
  constructor
  · intro hh
    refine ⟨?_, fun k hk => ?_⟩
    · have := hh (e - 1) (by rw [List.mem_range'_1]; omega)
      rw [Bool.and_eq_true, decide_eq_true_eq] at this
      omega
    · have := hh (s + k) (by rw [List.mem_range'_1]; omega)
      rw [Bool.and_eq_true, decide_eq_true_eq, show s + k - s = k by omega] at this
      rw [hg k hk]
      simpa using this.2
  · rintro ⟨h1, h2⟩ j hj
    rw [List.mem_range'_1] at hj
    have := h2 (j - s) (by omega)
    rw [hg _ (by omega), show s + (j - s) = j by omega] at this
    rw [Bool.and_eq_true, decide_eq_true_eq]
    exact ⟨by omega, by simpa using this⟩
/-! the class's longest word -/
def pzWo : List Nat → Nat → Nat → Nat → List (Nat × Nat × Nat)
  | [], w, s, i => [(w, s, i)]
  | c :: cs, w, s, i => if c = 32 then (w, s, i) :: pzWo cs (w + 1) (i + 1) (i + 1) else pzWo cs w s (i + 1)
def pzRu (stn : Nat → Nat → Bool) (a : Option Nat × Nat) (x : Nat × Nat × Nat) : Option Nat × Nat := if x.2.2 - x.2.1 ≤ a.2 then a else if stn x.2.1 x.2.2 then (some x.1, x.2.2 - x.2.1) else a
set_option maxRecDepth 10000 in
theorem pz_rl {I : Nat → Int32} {A : Nat → Nat → Int32} {b : Nat → Nat} {n p : Nat} (h : pzTc I A b n p) {i : Nat} (hi : i < 10) : ∀ d k f (o : Option Nat) (sz w s : Nat), k + d = jN i → d + 1 < f → s ≤ k → w ≤ k → sz ≤ 100 →
    fX5_readLongest_13 i f I A (pzO1 o) (pzN sz) (pzN w) (pzN s) (pzN k) = some (pzO1 ((pzWo ((pzStr i).drop k) w s k).foldl (pzRu (fun s e => pzSt b n p (pzWd i s e))) (o, sz)).1, upd I 2 (pzN (p + ((pzWo ((pzStr i).drop k) w s k).foldl (pzRu (fun s e => pzSt b n p (pzWd i s e))) (o, sz)).2)), A)
  | d, k, 0, o, sz, w, s, _, hf, _, _, _ => by omega
  | 0, k, 1, o, sz, w, s, _, hf, _, _, _ => by omega
  | 0, k, f + 2, o, sz, w, s, e, hf, hs, hw, hz => by
    obtain ⟨c1, c2, c3⟩ := pz_chr i hi
    have hk : k = jN i := by omega
    rw [List.drop_eq_nil_of_le (by omega)]
    show fX5_readLongest_13B i (fX5_readLongest_13 i (f + 1)) I A (pzO1 o) (pzN sz) (pzN w) (pzN s) (pzN k) = _
    have exit : ∀ (o : Option Nat) (sz w s : Nat), fX5_readLongest_13 i (f + 1) I A (pzO1 o) (pzN sz) (pzN w) (pzN s) (pzN (k + 1)) = some (pzO1 o, upd I 2 (pzN (p + sz)), A) := by
      intro o sz w s
      show fX5_readLongest_13B i (fX5_readLongest_13 i f) I A (pzO1 o) (pzN sz) (pzN w) (pzN s) (pzN (k + 1)) = _
      unfold fX5_readLongest_13B
      rw [show Int32.ofNat (jN i) = pzN (jN i) from rfl, if_pos (by rw [pzN_lt (by omega) (by omega)]; omega), h.2.2.2.1, pzN_add]
    unfold fX5_readLongest_13B fX5_readLongest_45 fX5_readLongest_75
    rw [show Int32.ofNat (jN i) = pzN (jN i) from rfl, if_neg (by rw [pzN_lt (by omega) (by omega)]; omega), if_pos (by rw [pzN_le (by omega) (by omega)]; omega), pzN_sub hs, pzN_suc, pzN_suc]
    show _ = some (pzO1 (pzRu (fun s e => pzSt b n p (pzWd i s e)) (o, sz) (w, s, k)).1, upd I 2 (pzN (p + (pzRu (fun s e => pzSt b n p (pzWd i s e)) (o, sz) (w, s, k)).2)), A)
    have hru : pzRu (fun s e => pzSt b n p (pzWd i s e)) (o, sz) (w, s, k) = if k - s ≤ sz then (o, sz) else if pzSt b n p (pzWd i s k) = true then (some w, k - s) else (o, sz) := rfl
    rw [hru]
    by_cases hle : k - s ≤ sz
    · rw [if_pos (by rw [pzN_le (by omega) (by omega)]; exact hle), if_pos hle]
      exact exit o sz (w + 1) (k + 1)
    · rw [if_neg (by rw [pzN_le (by omega) (by omega)]; exact hle), if_neg hle, pz_cstands h hi (by omega) (by omega), Option.bind_some]
      by_cases hst : pzSt b n p (pzWd i s k) = true
      · rw [hst, if_neg (show ¬ pzSm true = 0 by decide), if_pos rfl]
        exact exit (some w) (k - s) (w + 1) (k + 1)
      · have hst2 : pzSt b n p (pzWd i s k) = false := by simpa using hst
        rw [hst2, if_pos (show pzSm false = 0 from rfl), if_neg (by decide)]
        exact exit o sz (w + 1) (k + 1)
  | d + 1, k, f + 1, o, sz, w, s, e, hf, hs, hw, hz => by
    obtain ⟨c1, c2, c3⟩ := pz_chr i hi
    obtain ⟨c4, c5⟩ := c3 k (by omega)
    have hk : k < (pzStr i).length := by omega
    have hd : (pzStr i).drop k = (pzStr i).getD k 0 :: (pzStr i).drop (k + 1) := by rw [List.drop_eq_getElem_cons hk, pz_getD_get hk]
    rw [hd]
    show fX5_readLongest_13B i (fX5_readLongest_13 i f) I A (pzO1 o) (pzN sz) (pzN w) (pzN s) (pzN k) = _
    unfold fX5_readLongest_13B
    rw [show Int32.ofNat (jN i) = pzN (jN i) from rfl, if_neg (by rw [pzN_lt (by omega) (by omega)]; omega), if_neg (by rw [pzN_le (by omega) (by omega)]; omega), pz_gd2 (by omega) (by omega), pzN_clamp (by omega), c4]
    unfold pzWo
    by_cases h32 : (pzStr i).getD k 0 = 32
    · rw [if_pos (by rw [h32]; rfl), if_pos h32, List.foldl_cons]
      unfold fX5_readLongest_45 fX5_readLongest_75
      rw [pzN_sub hs, pzN_suc, pzN_suc]
      have ih := fun o sz => pz_rl h hi d (k + 1) f o sz (w + 1) (k + 1) (by omega) (by omega) (by omega) (by omega)
      have hru : pzRu (fun s e => pzSt b n p (pzWd i s e)) (o, sz) (w, s, k) = if k - s ≤ sz then (o, sz) else if pzSt b n p (pzWd i s k) = true then (some w, k - s) else (o, sz) := rfl
      rw [hru]
      by_cases hle : k - s ≤ sz
      · rw [if_pos (by rw [pzN_le (by omega) (by omega)]; exact hle), if_pos hle]
        exact ih o sz hz
      · rw [if_neg (by rw [pzN_le (by omega) (by omega)]; exact hle), if_neg hle, pz_cstands h hi (by omega) (by omega), Option.bind_some]
        by_cases hst : pzSt b n p (pzWd i s k) = true
        · rw [hst, if_neg (show ¬ pzSm true = 0 by decide), if_pos rfl]
          exact ih (some w) (k - s) (by omega)
        · have hst2 : pzSt b n p (pzWd i s k) = false := by simpa using hst
          rw [hst2, if_pos (show pzSm false = 0 from rfl), if_neg (by decide)]
          exact ih o sz hz
    · rw [if_neg (by rw [show (32 : Int32) = pzN 32 from rfl, pzN_inj (by omega) (by omega)]; exact h32), if_neg h32, pzN_suc]
      exact pz_rl h hi d (k + 1) f o sz w s (by omega) (by omega) (by omega) (by omega) hz
def pzRi (stn : Nat → Nat → Bool) (a : Option Nat × Nat) (dn : List (Nat × Nat × Nat)) : Prop :=
  (a = (none, 0) ∧ ∀ x, x ∈ dn → stn x.2.1 x.2.2 = false) ∨ ∃ x, x ∈ dn ∧ a = (some x.1, x.2.2 - x.2.1) ∧ stn x.2.1 x.2.2 = true ∧ ∀ y, y ∈ dn → stn y.2.1 y.2.2 = true → y.2.2 - y.2.1 ≤ x.2.2 - x.2.1
set_option maxRecDepth 10000 in
theorem pz_ri (stn : Nat → Nat → Bool) : ∀ (L dn : List (Nat × Nat × Nat)) (a : Option Nat × Nat), (∀ x, x ∈ L → x.2.1 < x.2.2) → pzRi stn a dn → pzRi stn (L.foldl (pzRu stn) a) (dn ++ L)
  | [], dn, a, _, h => by rw [List.append_nil]; exact h
  | x :: L, dn, a, hne, h => by
    have hx := hne x (by simp)
    rw [List.foldl_cons, show dn ++ x :: L = (dn ++ [x]) ++ L by simp]
    apply pz_ri stn L (dn ++ [x]) _ (fun y hy => hne y (by simp [hy]))
    unfold pzRu
    by_cases hs : stn x.2.1 x.2.2 = true
    · rcases h with ⟨h1, h2⟩ | ⟨y, y1, y2, y3, y4⟩
      · subst h1
        dsimp only
        rw [if_neg (by omega), if_pos hs]
        refine Or.inr ⟨x, by simp, rfl, hs, fun z hz hz2 => ?_⟩
        rw [List.mem_append, List.mem_singleton] at hz
        rcases hz with hz | hz
        · rw [h2 z hz] at hz2; cases hz2
        · subst hz; exact Nat.le_refl _
      · subst y2
        dsimp only
        by_cases hle : x.2.2 - x.2.1 ≤ y.2.2 - y.2.1
        · rw [if_pos hle]
          refine Or.inr ⟨y, by simp [y1], rfl, y3, fun z hz hz2 => ?_⟩
          rw [List.mem_append, List.mem_singleton] at hz
          rcases hz with hz | hz
          · exact y4 z hz hz2
          · subst hz; exact hle
        · rw [if_neg hle, if_pos hs]
          refine Or.inr ⟨x, by simp, rfl, hs, fun z hz hz2 => ?_⟩
          rw [List.mem_append, List.mem_singleton] at hz
          rcases hz with hz | hz
          · have := y4 z hz hz2; omega
          · subst hz; exact Nat.le_refl _
    · have hs2 : stn x.2.1 x.2.2 = false := by simpa using hs
      rw [if_neg hs]
      have e : (if x.2.2 - x.2.1 ≤ a.2 then a else a) = a := by split <;> rfl
      rw [e]
      rcases h with ⟨h1, h2⟩ | ⟨y, y1, y2, y3, y4⟩
      · refine Or.inl ⟨h1, fun z hz => ?_⟩
        rw [List.mem_append, List.mem_singleton] at hz
        rcases hz with hz | hz
        · exact h2 z hz
        · subst hz; exact hs2
      · refine Or.inr ⟨y, by simp [y1], y2, y3, fun z hz hz2 => ?_⟩
        rw [List.mem_append, List.mem_singleton] at hz
        rcases hz with hz | hz
        · exact y4 z hz hz2
        · subst hz; rw [hs2] at hz2; cases hz2
def pzTw (i j : Nat) : List Nat := ((pzWo (pzStr i) 0 0 0).map (fun x => pzWd i x.2.1 x.2.2)).getD j []
def pzTm (i : Nat) : Nat := (pzWo (pzStr i) 0 0 0).length
set_option maxRecDepth 10000 in
theorem pz_tb1 : ∀ i, i < 10 → 5 ≤ i → i < 8 → (pzWo (pzStr i) 0 0 0).all (fun x => decide (x.1 < pzTm i ∧ pzWd i x.2.1 x.2.2 = pzTw i x.1 ∧ x.2.1 < x.2.2 ∧ x.2.2 ≤ jN i ∧ (pzTw i x.1).length = x.2.2 - x.2.1)) = true ∧ (List.range (pzTm i)).all (fun j => decide (((pzWo (pzStr i) 0 0 0).getD j (0, 0, 0)).1 = j)) = true := by decide +kernel
set_option maxRecDepth 10000 in
theorem pz_tb2 : ∀ i, i < 8 → 5 ≤ i → ∀ j, j < pzTm i → ∀ k, k < pzTm i → pzTw i j = pzTw i k → j = k := by decide +kernel
/-- which word: the longest that stands -/
def pzLo (b : Nat → Nat) (n p i : Nat) (o : Option Nat) : Prop := match o with
  | none => ∀ j, j < pzTm i → pzSt b n p (pzTw i j) = false
  | some j => j < pzTm i ∧ pzSt b n p (pzTw i j) = true ∧ ∀ k, k < pzTm i → pzSt b n p (pzTw i k) = true → (pzTw i k).length ≤ (pzTw i j).length
def pzLw (i : Nat) (o : Option Nat) : Nat := match o with
  | none => 0
  | some j => (pzTw i j).length
set_option maxRecDepth 10000 in
theorem pzLo_uniq {b : Nat → Nat} {n p i : Nat} (h5 : 5 ≤ i) (h8 : i < 8) {o o' : Option Nat} (h : pzLo b n p i o) (h' : pzLo b n p i o') : o = o' := by
  cases o with
  | none =>
    cases o' with
    | none => rfl
    | some j => have := h j h'.1; rw [h'.2.1] at this; cases this
  | some j =>
    cases o' with
    | none => have := h' j h.1; rw [h.2.1] at this; cases this
    | some k =>
      have l1 := h.2.2 k h'.1 h'.2.1
      have l2 := h'.2.2 j h.1 h.2.1
      have s1 := pzSt_iff.mp h.2.1
      have s2 := pzSt_iff.mp h'.2.1
      have : pzTw i j = pzTw i k := by
        apply pz_getD_ext (by omega)
        intro m hm
        rw [← s1.2 m (by omega), ← s2.2 m hm]
      rw [pz_tb2 i h8 h5 j h.1 k h'.1 this]
set_option maxRecDepth 10000 in
theorem pz_cLongest {I : Nat → Int32} {A : Nat → Nat → Int32} {b : Nat → Nat} {n p : Nat} (h : pzTc I A b n p) {i : Nat} (h5 : 5 ≤ i) (h8 : i < 8) : ∃ o, pzLo b n p i o ∧ fX5_readLongest I A i = some (pzO1 o, upd I 2 (pzN (p + pzLw i o)), A) := by
  obtain ⟨c1, c2, c3⟩ := pz_chr i (by omega)
  obtain ⟨t1, t2⟩ := pz_tb1 i (by omega) h5 h8
  have t1' : ∀ x, x ∈ pzWo (pzStr i) 0 0 0 → x.1 < pzTm i ∧ pzWd i x.2.1 x.2.2 = pzTw i x.1 ∧ x.2.1 < x.2.2 ∧ x.2.2 ≤ jN i ∧ (pzTw i x.1).length = x.2.2 - x.2.1 := by
    intro x hx
    have := List.all_eq_true.mp t1 x hx
    simpa using this
  have t2' : ∀ j, j < pzTm i → ∃ x, x ∈ pzWo (pzStr i) 0 0 0 ∧ x.1 = j := by
    intro j hj
    have := List.all_eq_true.mp t2 j (List.mem_range.mpr hj)
    have hj2 : j < (pzWo (pzStr i) 0 0 0).length := hj
    refine ⟨(pzWo (pzStr i) 0 0 0)[j], List.getElem_mem hj2, ?_⟩
    rw [List.getD_eq_getElem?_getD, List.getElem?_eq_getElem hj2] at this
    simpa using this
  have e := pz_rl h (i := i) (by omega) (jN i) 0 FU none 0 0 0 (by omega) (by unfold FU; omega) (by omega) (by omega) (by omega)
  rw [List.drop_zero] at e
  have r := pz_ri (fun s e => pzSt b n p (pzWd i s e)) (pzWo (pzStr i) 0 0 0) [] (none, 0) (fun x hx => (t1' x hx).2.2.1) (Or.inl ⟨rfl, fun x hx => by cases hx⟩)
  rw [List.nil_append] at r
  rcases r with ⟨r1, r2⟩ | ⟨x, x1, x2, x3, x4⟩
  · refine ⟨none, ?_, ?_⟩
    · intro j hj
      obtain ⟨x, hx, rfl⟩ := t2' j hj
      rw [← (t1' x hx).2.1]
      exact r2 x hx
    · rw [r1] at e
      exact e
  · obtain ⟨y1, y2, y3, y4, y5⟩ := t1' x x1
    refine ⟨some x.1, ⟨y1, by rw [← y2]; exact x3, fun k hk hk2 => ?_⟩, ?_⟩
    · obtain ⟨z, hz, rfl⟩ := t2' k hk
      have z2 := t1' z hz
      rw [z2.2.2.2.2, y5]
      exact x4 z hz (by show pzSt b n p (pzWd i z.2.1 z.2.2) = true; rw [z2.2.1]; exact hk2)
    · rw [x2] at e
      show _ = some (pzO1 (some x.1), upd I 2 (pzN (p + (pzTw i x.1).length)), A)
      rw [y5]
      exact e
/-! the reference's words -/
set_option maxRecDepth 10000 in
theorem pz_mst {I : Nat → Int32} {A : Nat → Nat → Int32} {b : Nat → Nat} {n p : Nat} (h : pzTr I A b n p) {wd : Int64} {bs : List Nat} (hp : p + bs.length ≤ n) (hb : ∀ k, k < bs.length → fX9_byteOf wd (pzN k) = some (pzN (bs.getD k 0)) ∧ bs.getD k 0 < 128) : ∀ d k f, k + d = bs.length → d + 1 < f →
    fX9_stands_28 BM I A f wd (pzN bs.length) 1 (pzN k) = some (pzSm ((List.range' k d).all (fun j => b (p + j) == bs.getD j 0)))
  | d, k, 0, _, hf => by omega
  | 0, k, f + 1, e1, hf => by
    have h40 := h.1
    show fX9_stands_28B BM I A (fX9_stands_28 BM I A f) wd (pzN bs.length) 1 (pzN k) = _
    unfold fX9_stands_28B
    rw [if_pos (by rw [pzN_le (by omega) (by omega)]; omega)]
    rfl
  | d + 1, k, f + 2, e1, hf => by
    have h40 := h.1
    obtain ⟨g1, g2⟩ := hb k (by omega)
    obtain ⟨g3, g4⟩ := h.2.2.2.2 (p + k) (by omega)
    show fX9_stands_28B BM I A (fX9_stands_28 BM I A (f + 1)) wd (pzN bs.length) 1 (pzN k) = _
    unfold fX9_stands_28B
    rw [if_neg (by rw [pzN_le (by omega) (by omega)]; omega), if_neg (show ¬ (1 : Int32) = 0 by decide), h.2.2.2.1, pzN_add, pz_gd2 (by omega) (by omega), g1, Option.bind_some, pzN_clamp (by omega), g3, pzN_suc, List.range'_succ, List.all_cons]
    by_cases hq : b (p + k) = bs.getD k 0
    · rw [if_pos ((pz_s8 g4 g2).mpr hq), pz_mst h hp hb d (k + 1) (f + 1) (by omega) (by omega)]
      have : (b (p + k) == bs.getD k 0) = true := by rw [hq]; exact beq_self_eq_true _
      rw [this, Bool.true_and]
    · rw [if_neg (fun x => hq ((pz_s8 g4 g2).mp x))]
      have : (b (p + k) == bs.getD k 0) = false := beq_eq_false_iff_ne.mpr hq
      rw [this, Bool.false_and]
      show fX9_stands_28B BM I A (fX9_stands_28 BM I A f) wd (pzN bs.length) 0 (pzN (k + 1)) = _
      unfold fX9_stands_28B
      by_cases hh : pzN bs.length ≤ pzN (k + 1)
      · rw [if_pos hh]; rfl
      · rw [if_neg hh, if_pos rfl]; rfl
set_option maxRecDepth 10000 in
theorem pz_mstands {I : Nat → Int32} {A : Nat → Nat → Int32} {b : Nat → Nat} {n p : Nat} (h : pzTr I A b n p) {wd : Int64} {bs : List Nat} (hl : bs.length ≤ 20) (hn : fX9_lengthOf wd = some (pzN bs.length)) (hb : ∀ k, k < bs.length → fX9_byteOf wd (pzN k) = some (pzN (bs.getD k 0)) ∧ bs.getD k 0 < 128) : fX9_stands BM I A wd = some (pzSm (pzSt b n p bs)) := by
  have h40 := h.1
  have hpn := h.2.1
  unfold fX9_stands
  rw [hn, Option.bind_some, h.2.2.1, h.2.2.2.1, pzN_add]
  by_cases hp : p + bs.length ≤ n
  · rw [if_neg (by rw [pzN_lt (by omega) (by omega)]; omega)]
    refine (pz_mst h hp hb bs.length 0 FU (by omega) (by unfold FU; omega)).trans ?_
    congr 2
    unfold pzSt
    rw [← List.range_eq_range', decide_eq_true hp, Bool.true_and]
  · rw [if_pos (by rw [pzN_lt (by omega) (by omega)]; omega)]
    have : pzSt b n p bs = false := by
      unfold pzSt
      rw [decide_eq_false hp, Bool.false_and]
    rw [this]
    show fX9_stands_28B BM I A (fX9_stands_28 BM I A 3999) wd (pzN bs.length) 0 0 = _
    unfold fX9_stands_28B
    by_cases hh : pzN bs.length ≤ 0
    · rw [if_pos hh]; rfl
    · rw [if_neg hh, if_pos rfl]; rfl
def pzPm (i k : Nat) : Nat := if i = 5 then (if k = 0 then 1 else if k = 1 then 0 else k) else k
set_option maxRecDepth 10000 in
theorem pz_pm : ∀ i, i < 8 → 5 ≤ i → (∀ k, k < pzTm i → pzPm i k < pzTm i ∧ pzPm i (pzPm i k) = k) ∧ pzTm i ≤ 14 := by decide +kernel
set_option maxRecDepth 10000 in
theorem pz_wr16 : pzTm 6 = 7 ∧ ∀ k, k < 7 → fX9_lengthOf (BM 16 k) = some (pzN (pzTw 6 (pzPm 6 k)).length) ∧ (pzTw 6 (pzPm 6 k)).length ≤ 5 ∧ ∀ j, j < (pzTw 6 (pzPm 6 k)).length → fX9_byteOf (BM 16 k) (pzN j) = some (pzN ((pzTw 6 (pzPm 6 k)).getD j 0)) ∧ (pzTw 6 (pzPm 6 k)).getD j 0 < 128 := by decide +kernel
set_option maxRecDepth 10000 in
theorem pz_wr17 : pzTm 5 = 14 ∧ ∀ k, k < 14 → fX9_lengthOf (BM 17 k) = some (pzN (pzTw 5 (pzPm 5 k)).length) ∧ (pzTw 5 (pzPm 5 k)).length ≤ 5 ∧ ∀ j, j < (pzTw 5 (pzPm 5 k)).length → fX9_byteOf (BM 17 k) (pzN j) = some (pzN ((pzTw 5 (pzPm 5 k)).getD j 0)) ∧ (pzTw 5 (pzPm 5 k)).getD j 0 < 128 := by decide +kernel
set_option maxRecDepth 10000 in
theorem pz_wr18 : pzTm 7 = 13 ∧ ∀ k, k < 13 → fX9_lengthOf (BM 18 k) = some (pzN (pzTw 7 (pzPm 7 k)).length) ∧ (pzTw 7 (pzPm 7 k)).length ≤ 5 ∧ ∀ j, j < (pzTw 7 (pzPm 7 k)).length → fX9_byteOf (BM 18 k) (pzN j) = some (pzN ((pzTw 7 (pzPm 7 k)).getD j 0)) ∧ (pzTw 7 (pzPm 7 k)).getD j 0 < 128 := by decide +kernel
def pzO3 (o : Option Nat) : Int32 := match o with
  | none => -2
  | some k => pzN k
/-- the reference's best so far, by its own numbers -/
def pzLq (b : Nat → Nat) (n p i m : Nat) (o : Option Nat) : Prop := match o with
  | none => ∀ j, j < m → pzSt b n p (pzTw i (pzPm i j)) = false
  | some j => j < m ∧ pzSt b n p (pzTw i (pzPm i j)) = true ∧ ∀ k, k < m → pzSt b n p (pzTw i (pzPm i k)) = true → (pzTw i (pzPm i k)).length ≤ (pzTw i (pzPm i j)).length
set_option maxRecDepth 10000 in
theorem pz_mwordK {I : Nat → Int32} {A : Nat → Nat → Int32} {b : Nat → Nat} {n p : Nat} (h : pzTr I A b n p) : ∀ d k f (o : Option Nat), k + d = 7 → d < f → pzLq b n p 6 k o →
    ∃ o', fX9_word_vkinds_5 BM I A f (pzO3 o) (pzN k) = some (pzO3 o') ∧ pzLq b n p 6 7 o'
  | d, k, 0, o, _, hf, _ => by omega
  | 0, k, f + 1, o, e, hf, hq => by
    have : k = 7 := by omega
    subst this
    refine ⟨o, ?_, hq⟩
    show fX9_word_vkinds_5B BM I A (fX9_word_vkinds_5 BM I A f) (pzO3 o) (pzN 7) = _
    unfold fX9_word_vkinds_5B
    rw [if_pos (by decide)]
  | d + 1, k, f + 1, o, e, hf, hq => by
    obtain ⟨w1, w2⟩ := pz_wr16
    obtain ⟨w3, w4, w5⟩ := w2 k (by omega)
    show ∃ o', fX9_word_vkinds_5B BM I A (fX9_word_vkinds_5 BM I A f) (pzO3 o) (pzN k) = _ ∧ _
    unfold fX9_word_vkinds_5B
    rw [if_neg (by rw [show (7 : Int32) = pzN 7 from rfl, pzN_le (by omega) (by omega)]; omega), pz_gd2 (by omega) (by omega)]
    simp only [pzN_clamp (show k < 2147483648 by omega)]
    rw [pz_mstands h (by omega) w3 w5, Option.bind_some, pzN_suc]
    have ih := fun o => pz_mwordK h d (k + 1) f o (by omega) (by omega)
    by_cases hs : pzSt b n p (pzTw 6 (pzPm 6 k)) = true
    · rw [hs, if_neg (show ¬ pzSm true = 0 by decide)]
      cases o with
      | none =>
        rw [if_pos (show pzO3 none = -2 from rfl)]
        refine ih (some k) ⟨by omega, hs, fun j hj hj2 => ?_⟩
        by_cases ej : j = k
        · subst ej; exact Nat.le_refl _
        · have := hq j (by omega); rw [hj2] at this; cases this
      | some m =>
        obtain ⟨q1, q2, q3⟩ := hq
        obtain ⟨v3, v4, v5⟩ := w2 m (by omega)
        rw [show pzO3 (some m) = pzN m from rfl, if_neg (pzN_ne2 (by omega)), pz_gd2 (by omega) (by omega), w3, Option.bind_some, pz_gd2 (by omega) (by omega), pzN_clamp (n := m) (by omega), v3, Option.bind_some]
        by_cases hle : (pzTw 6 (pzPm 6 k)).length ≤ (pzTw 6 (pzPm 6 m)).length
        · rw [if_pos (by rw [pzN_le (by omega) (by omega)]; exact hle)]
          refine ih (some m) ⟨by omega, q2, fun j hj hj2 => ?_⟩
          by_cases ej : j = k
          · subst ej; exact hle
          · exact q3 j (by omega) hj2
        · rw [if_neg (by rw [pzN_le (by omega) (by omega)]; exact hle)]
          refine ih (some k) ⟨by omega, hs, fun j hj hj2 => ?_⟩
          by_cases ej : j = k
          · subst ej; exact Nat.le_refl _
          · have := q3 j (by omega) hj2; omega
    · have hs2 : pzSt b n p (pzTw 6 (pzPm 6 k)) = false := by simpa using hs
      rw [hs2, if_pos (show pzSm false = 0 from rfl)]
      cases o with
      | none =>
        refine ih none (fun j hj => ?_)
        by_cases ej : j = k
        · subst ej; exact hs2
        · exact hq j (by omega)
      | some m =>
        obtain ⟨q1, q2, q3⟩ := hq
        refine ih (some m) ⟨by omega, q2, fun j hj hj2 => ?_⟩
        by_cases ej : j = k
        · subst ej; rw [hs2] at hj2; cases hj2
        · exact q3 j (by omega) hj2
set_option maxRecDepth 10000 in
theorem pz_wordK {I : Nat → Int32} {A : Nat → Nat → Int32} {b : Nat → Nat} {n p : Nat} (h : pzTr I A b n p) {o : Option Nat} (ho : pzLo b n p 6 o) : fX9_word_vkinds BM I A = some (pzO3 (o.map (pzPm 6))) := by
  unfold fX9_word_vkinds
  obtain ⟨o', e, hq⟩ := pz_mwordK h 7 0 FU none (by omega) (by unfold FU; omega) (fun j hj => by omega)
  refine e.trans ?_
  obtain ⟨m1, m2⟩ := pz_pm 6 (by omega) (by omega)
  have hm : pzTm 6 = 7 := pz_wr16.1
  have : pzLo b n p 6 (o'.map (pzPm 6)) := by
    cases o' with
    | none =>
      intro j hj
      have := hq (pzPm 6 j) (by rw [← hm]; exact (m1 j hj).1)
      rw [(m1 j hj).2] at this
      exact this
    | some k =>
      obtain ⟨q1, q2, q3⟩ := hq
      refine ⟨(m1 k (by omega)).1, q2, fun j hj hj2 => ?_⟩
      have := q3 (pzPm 6 j) (by rw [← hm]; exact (m1 j hj).1)
      rw [(m1 j hj).2] at this
      exact this hj2
  have u := pzLo_uniq (by omega) (by omega) ho this
  subst u
  congr 2
  cases o' with
  | none => rfl
  | some k => show some k = some (pzPm 6 (pzPm 6 k)); rw [(m1 k (by have := hq.1; omega)).2]
set_option maxRecDepth 10000 in
theorem pz_mwordS {I : Nat → Int32} {A : Nat → Nat → Int32} {b : Nat → Nat} {n p : Nat} (h : pzTr I A b n p) : ∀ d k f (o : Option Nat), k + d = 14 → d < f → pzLq b n p 5 k o →
    ∃ o', fX9_word_vsizes_5 BM I A f (pzO3 o) (pzN k) = some (pzO3 o') ∧ pzLq b n p 5 14 o'
  | d, k, 0, o, _, hf, _ => by omega
  | 0, k, f + 1, o, e, hf, hq => by
    have : k = 14 := by omega
    subst this
    refine ⟨o, ?_, hq⟩
    show fX9_word_vsizes_5B BM I A (fX9_word_vsizes_5 BM I A f) (pzO3 o) (pzN 14) = _
    unfold fX9_word_vsizes_5B
    rw [if_pos (by decide)]
  | d + 1, k, f + 1, o, e, hf, hq => by
    obtain ⟨w1, w2⟩ := pz_wr17
    obtain ⟨w3, w4, w5⟩ := w2 k (by omega)
    show ∃ o', fX9_word_vsizes_5B BM I A (fX9_word_vsizes_5 BM I A f) (pzO3 o) (pzN k) = _ ∧ _
    unfold fX9_word_vsizes_5B
    rw [if_neg (by rw [show (14 : Int32) = pzN 14 from rfl, pzN_le (by omega) (by omega)]; omega), pz_gd2 (by omega) (by omega)]
    simp only [pzN_clamp (show k < 2147483648 by omega)]
    rw [pz_mstands h (by omega) w3 w5, Option.bind_some, pzN_suc]
    have ih := fun o => pz_mwordS h d (k + 1) f o (by omega) (by omega)
    by_cases hs : pzSt b n p (pzTw 5 (pzPm 5 k)) = true
    · rw [hs, if_neg (show ¬ pzSm true = 0 by decide)]
      cases o with
      | none =>
        rw [if_pos (show pzO3 none = -2 from rfl)]
        refine ih (some k) ⟨by omega, hs, fun j hj hj2 => ?_⟩
        by_cases ej : j = k
        · subst ej; exact Nat.le_refl _
        · have := hq j (by omega); rw [hj2] at this; cases this
      | some m =>
        obtain ⟨q1, q2, q3⟩ := hq
        obtain ⟨v3, v4, v5⟩ := w2 m (by omega)
        rw [show pzO3 (some m) = pzN m from rfl, if_neg (pzN_ne2 (by omega)), pz_gd2 (by omega) (by omega), w3, Option.bind_some, pz_gd2 (by omega) (by omega), pzN_clamp (n := m) (by omega), v3, Option.bind_some]
        by_cases hle : (pzTw 5 (pzPm 5 k)).length ≤ (pzTw 5 (pzPm 5 m)).length
        · rw [if_pos (by rw [pzN_le (by omega) (by omega)]; exact hle)]
          refine ih (some m) ⟨by omega, q2, fun j hj hj2 => ?_⟩
          by_cases ej : j = k
          · subst ej; exact hle
          · exact q3 j (by omega) hj2
        · rw [if_neg (by rw [pzN_le (by omega) (by omega)]; exact hle)]
          refine ih (some k) ⟨by omega, hs, fun j hj hj2 => ?_⟩
          by_cases ej : j = k
          · subst ej; exact Nat.le_refl _
          · have := q3 j (by omega) hj2; omega
    · have hs2 : pzSt b n p (pzTw 5 (pzPm 5 k)) = false := by simpa using hs
      rw [hs2, if_pos (show pzSm false = 0 from rfl)]
      cases o with
      | none =>
        refine ih none (fun j hj => ?_)
        by_cases ej : j = k
        · subst ej; exact hs2
        · exact hq j (by omega)
      | some m =>
        obtain ⟨q1, q2, q3⟩ := hq
        refine ih (some m) ⟨by omega, q2, fun j hj hj2 => ?_⟩
        by_cases ej : j = k
        · subst ej; rw [hs2] at hj2; cases hj2
        · exact q3 j (by omega) hj2
set_option maxRecDepth 10000 in
theorem pz_wordS {I : Nat → Int32} {A : Nat → Nat → Int32} {b : Nat → Nat} {n p : Nat} (h : pzTr I A b n p) {o : Option Nat} (ho : pzLo b n p 5 o) : fX9_word_vsizes BM I A = some (pzO3 (o.map (pzPm 5))) := by
  unfold fX9_word_vsizes
  obtain ⟨o', e, hq⟩ := pz_mwordS h 14 0 FU none (by omega) (by unfold FU; omega) (fun j hj => by omega)
  refine e.trans ?_
  obtain ⟨m1, m2⟩ := pz_pm 5 (by omega) (by omega)
  have hm : pzTm 5 = 14 := pz_wr17.1
  have : pzLo b n p 5 (o'.map (pzPm 5)) := by
    cases o' with
    | none =>
      intro j hj
      have := hq (pzPm 5 j) (by rw [← hm]; exact (m1 j hj).1)
      rw [(m1 j hj).2] at this
      exact this
    | some k =>
      obtain ⟨q1, q2, q3⟩ := hq
      refine ⟨(m1 k (by omega)).1, q2, fun j hj hj2 => ?_⟩
      have := q3 (pzPm 5 j) (by rw [← hm]; exact (m1 j hj).1)
      rw [(m1 j hj).2] at this
      exact this hj2
  have u := pzLo_uniq (by omega) (by omega) ho this
  subst u
  congr 2
  cases o' with
  | none => rfl
  | some k => show some k = some (pzPm 5 (pzPm 5 k)); rw [(m1 k (by have := hq.1; omega)).2]
set_option maxRecDepth 10000 in
theorem pz_mwordC {I : Nat → Int32} {A : Nat → Nat → Int32} {b : Nat → Nat} {n p : Nat} (h : pzTr I A b n p) : ∀ d k f (o : Option Nat), k + d = 13 → d < f → pzLq b n p 7 k o →
    ∃ o', fX9_word_vchanges_5 BM I A f (pzO3 o) (pzN k) = some (pzO3 o') ∧ pzLq b n p 7 13 o'
  | d, k, 0, o, _, hf, _ => by omega
  | 0, k, f + 1, o, e, hf, hq => by
    have : k = 13 := by omega
    subst this
    refine ⟨o, ?_, hq⟩
    show fX9_word_vchanges_5B BM I A (fX9_word_vchanges_5 BM I A f) (pzO3 o) (pzN 13) = _
    unfold fX9_word_vchanges_5B
    rw [if_pos (by decide)]
  | d + 1, k, f + 1, o, e, hf, hq => by
    obtain ⟨w1, w2⟩ := pz_wr18
    obtain ⟨w3, w4, w5⟩ := w2 k (by omega)
    show ∃ o', fX9_word_vchanges_5B BM I A (fX9_word_vchanges_5 BM I A f) (pzO3 o) (pzN k) = _ ∧ _
    unfold fX9_word_vchanges_5B
    rw [if_neg (by rw [show (13 : Int32) = pzN 13 from rfl, pzN_le (by omega) (by omega)]; omega), pz_gd2 (by omega) (by omega)]
    simp only [pzN_clamp (show k < 2147483648 by omega)]
    rw [pz_mstands h (by omega) w3 w5, Option.bind_some, pzN_suc]
    have ih := fun o => pz_mwordC h d (k + 1) f o (by omega) (by omega)
    by_cases hs : pzSt b n p (pzTw 7 (pzPm 7 k)) = true
    · rw [hs, if_neg (show ¬ pzSm true = 0 by decide)]
      cases o with
      | none =>
        rw [if_pos (show pzO3 none = -2 from rfl)]
        refine ih (some k) ⟨by omega, hs, fun j hj hj2 => ?_⟩
        by_cases ej : j = k
        · subst ej; exact Nat.le_refl _
        · have := hq j (by omega); rw [hj2] at this; cases this
      | some m =>
        obtain ⟨q1, q2, q3⟩ := hq
        obtain ⟨v3, v4, v5⟩ := w2 m (by omega)
        rw [show pzO3 (some m) = pzN m from rfl, if_neg (pzN_ne2 (by omega)), pz_gd2 (by omega) (by omega), w3, Option.bind_some, pz_gd2 (by omega) (by omega), pzN_clamp (n := m) (by omega), v3, Option.bind_some]
        by_cases hle : (pzTw 7 (pzPm 7 k)).length ≤ (pzTw 7 (pzPm 7 m)).length
        · rw [if_pos (by rw [pzN_le (by omega) (by omega)]; exact hle)]
          refine ih (some m) ⟨by omega, q2, fun j hj hj2 => ?_⟩
          by_cases ej : j = k
          · subst ej; exact hle
          · exact q3 j (by omega) hj2
        · rw [if_neg (by rw [pzN_le (by omega) (by omega)]; exact hle)]
          refine ih (some k) ⟨by omega, hs, fun j hj hj2 => ?_⟩
          by_cases ej : j = k
          · subst ej; exact Nat.le_refl _
          · have := q3 j (by omega) hj2; omega
    · have hs2 : pzSt b n p (pzTw 7 (pzPm 7 k)) = false := by simpa using hs
      rw [hs2, if_pos (show pzSm false = 0 from rfl)]
      cases o with
      | none =>
        refine ih none (fun j hj => ?_)
        by_cases ej : j = k
        · subst ej; exact hs2
        · exact hq j (by omega)
      | some m =>
        obtain ⟨q1, q2, q3⟩ := hq
        refine ih (some m) ⟨by omega, q2, fun j hj hj2 => ?_⟩
        by_cases ej : j = k
        · subst ej; rw [hs2] at hj2; cases hj2
        · exact q3 j (by omega) hj2
set_option maxRecDepth 10000 in
theorem pz_wordC {I : Nat → Int32} {A : Nat → Nat → Int32} {b : Nat → Nat} {n p : Nat} (h : pzTr I A b n p) {o : Option Nat} (ho : pzLo b n p 7 o) : fX9_word_vchanges BM I A = some (pzO3 (o.map (pzPm 7))) := by
  unfold fX9_word_vchanges
  obtain ⟨o', e, hq⟩ := pz_mwordC h 13 0 FU none (by omega) (by unfold FU; omega) (fun j hj => by omega)
  refine e.trans ?_
  obtain ⟨m1, m2⟩ := pz_pm 7 (by omega) (by omega)
  have hm : pzTm 7 = 13 := pz_wr18.1
  have : pzLo b n p 7 (o'.map (pzPm 7)) := by
    cases o' with
    | none =>
      intro j hj
      have := hq (pzPm 7 j) (by rw [← hm]; exact (m1 j hj).1)
      rw [(m1 j hj).2] at this
      exact this
    | some k =>
      obtain ⟨q1, q2, q3⟩ := hq
      refine ⟨(m1 k (by omega)).1, q2, fun j hj hj2 => ?_⟩
      have := q3 (pzPm 7 j) (by rw [← hm]; exact (m1 j hj).1)
      rw [(m1 j hj).2] at this
      exact this hj2
  have u := pzLo_uniq (by omega) (by omega) ho this
  subst u
  congr 2
  cases o' with
  | none => rfl
  | some k => show some k = some (pzPm 7 (pzPm 7 k)); rw [(m1 k (by have := hq.1; omega)).2]
/-! the reference's list of steps -/
def pzMk (n : Nat) (f : Nat → Nat) : List Nat := (List.range n).map f
set_option maxRecDepth 10000 in
theorem pzMk_len (n : Nat) (f : Nat → Nat) : (pzMk n f).length = n := by unfold pzMk; rw [List.length_map, List.length_range]
set_option maxRecDepth 10000 in
theorem pzMk_getD {n : Nat} (f : Nat → Nat) {k : Nat} (h : k < n) : (pzMk n f).getD k 0 = f k := by
  unfold pzMk
  rw [List.getD_eq_getElem?_getD, List.getElem?_map, List.getElem?_range h]; rfl
set_option maxRecDepth 10000 in
theorem pz_mem {l : List Nat} {y : Nat} : y ∈ l ↔ ∃ i, i < l.length ∧ l.getD i 0 = y := by
  constructor
  · intro h
    obtain ⟨i, hi, e⟩ := List.getElem_of_mem h
    exact ⟨i, hi, by rw [pz_getD_get hi]; exact e⟩
  · rintro ⟨i, hi, rfl⟩
    rw [pz_getD_get hi]; exact List.getElem_mem hi
def pzNd (l : List Nat) : Prop := (∀ i j, i < l.length → j < l.length → l.getD i 0 = l.getD j 0 → i = j) ∧ ∀ i, i < l.length → l.getD i 0 < 19
def pzLi (I : Nat → Int32) (A : Nat → Nat → Int32) (l : List Nat) : Prop := I 26 = pzN l.length ∧ ∀ k, k < l.length → A 24 k = pzN (pzH (l.getD k 0)) ∧ A 25 k = pzN (pzD (l.getD k 0))
def pzFb (I : Nat → Int32) (A : Nat → Nat → Int32) (I' : Nat → Int32) (A' : Nat → Nat → Int32) : Prop := (∀ j, j ≠ 26 → I' j = I j) ∧ ∀ j, j ≠ 24 → j ≠ 25 → A' j = A j
set_option maxRecDepth 10000 in
theorem pzFb_refl (I : Nat → Int32) (A : Nat → Nat → Int32) : pzFb I A I A := ⟨fun _ _ => rfl, fun _ _ _ => rfl⟩
set_option maxRecDepth 10000 in
theorem pzFb_trans {I A I' A' I'' A''} (h : pzFb I A I' A') (g : pzFb I' A' I'' A'') : pzFb I A I'' A'' := ⟨fun j hj => (g.1 j hj).trans (h.1 j hj), fun j h1 h2 => (g.2 j h1 h2).trans (h.2 j h1 h2)⟩
set_option maxRecDepth 10000 in
theorem pz_comes {I : Nat → Int32} {A : Nat → Nat → Int32} {l : List Nat} (h : pzLi I A l) (hl : l.length < 16) (x : Nat) : ∃ I' A', fX9_comes BM I A (pzN (pzD x)) (pzN (pzH x)) = some (I', A') ∧ pzLi I' A' (l ++ [x]) ∧ pzFb I A I' A' := by
  obtain ⟨h1, h2⟩ := h
  unfold fX9_comes
  rw [h1, pz_gd2 (by omega) (by omega), pz_gd2 (by omega) (by omega), pzN_clamp (by omega), pzN_suc]
  refine ⟨_, _, rfl, ⟨?_, fun k hk => ?_⟩, fun j hj => pz_upd_ne _ _ hj, fun j h24 h25 => ?_⟩
  · rw [pz_upd_eq, List.length_append]; rfl
  · rw [List.length_append] at hk
    rw [pz_va_eq, pz_va_ne _ _ (by decide), pz_va_eq, pz_getD_app]
    by_cases e : k = l.length
    · subst e; rw [pz_upd_eq, pz_upd_eq, if_neg (by omega), if_pos rfl]; exact ⟨rfl, rfl⟩
    · have hk2 : k < l.length := by simp at hk; omega
      rw [pz_upd_ne _ _ e, pz_upd_ne _ _ e, if_pos hk2]; exact h2 k hk2
  · rw [pz_va_ne _ _ h24, pz_va_ne _ _ h25]
set_option maxRecDepth 10000 in
theorem pz_goes {I : Nat → Int32} {A : Nat → Nat → Int32} {l : List Nat} (h : pzLi I A l) (hn : pzNd l) (hl : l.length ≤ 16) {k : Nat} (hk : k < l.length) :
    ∃ I' A' l', fX9_goes BM I A (pzN k) = some (I', A') ∧ pzLi I' A' l' ∧ pzNd l' ∧ (∀ y, y ∈ l' ↔ y ∈ l ∧ y ≠ l.getD k 0) ∧ pzFb I A I' A' := by
  obtain ⟨h1, h2⟩ := h
  unfold fX9_goes
  rw [h1, show (1 : Int32) = pzN 1 from rfl, pzN_sub (by omega), pz_gd2 (by omega) (by omega), pz_gd2 (by omega) (by omega), pz_gd2 (by omega) (by omega), pz_gd2 (by omega) (by omega), pzN_clamp (n := k) (by omega), pzN_clamp (n := l.length - 1) (by omega)]
  refine ⟨_, _, pzMk (l.length - 1) (fun j => if j = k then l.getD (l.length - 1) 0 else l.getD j 0), rfl, ⟨?_, fun j hj => ?_⟩, ⟨fun i j hi hj e => ?_, fun i hi => ?_⟩, fun y => ?_, fun j hj => pz_upd_ne _ _ hj, fun j h24 h25 => ?_⟩
  · rw [pz_upd_eq, pzMk_len]
  · rw [pzMk_len] at hj
    rw [pzMk_getD _ hj, pz_va_eq, pz_va_ne _ _ (by decide), pz_va_eq]
    by_cases e : j = k
    · subst e; rw [pz_upd_eq, pz_upd_eq, if_pos rfl]; exact h2 _ (by omega)
    · rw [pz_upd_ne _ _ e, pz_upd_ne _ _ e, if_neg e]; exact h2 j (by omega)
  · rw [pzMk_len] at hi hj
    rw [pzMk_getD _ hi, pzMk_getD _ hj] at e
    by_cases ei : i = k
    · by_cases ej : j = k
      · omega
      · rw [if_pos ei, if_neg ej] at e
        have := hn.1 _ _ (by omega) (by omega) e
        omega
    · by_cases ej : j = k
      · rw [if_neg ei, if_pos ej] at e
        have := hn.1 _ _ (by omega) (by omega) e
        omega
      · rw [if_neg ei, if_neg ej] at e
        exact hn.1 _ _ (by omega) (by omega) e
  · rw [pzMk_len] at hi
    rw [pzMk_getD _ hi]
    split
    · exact hn.2 _ (by omega)
    · exact hn.2 _ (by omega)
  · rw [pz_mem, pz_mem, pzMk_len]
    constructor
    · rintro ⟨i, hi, e⟩
      rw [pzMk_getD _ hi] at e
      by_cases ei : i = k
      · rw [if_pos ei] at e
        refine ⟨⟨_, by omega, e⟩, fun q => ?_⟩
        rw [← e] at q
        have := hn.1 _ _ (by omega) (by omega) q
        omega
      · rw [if_neg ei] at e
        refine ⟨⟨i, by omega, e⟩, fun q => ?_⟩
        rw [← e] at q
        exact ei (hn.1 _ _ (by omega) (by omega) q)
    · rintro ⟨⟨i, hi, e⟩, hne⟩
      have hik : i ≠ k := fun q => hne (by rw [← e, q])
      by_cases hl1 : i < l.length - 1
      · exact ⟨i, hl1, by rw [pzMk_getD _ hl1, if_neg hik]; exact e⟩
      · have : i = l.length - 1 := by omega
        refine ⟨k, by omega, ?_⟩
        rw [pzMk_getD _ (by omega), if_pos rfl, ← this]; exact e
  · rw [pz_va_ne _ _ h24, pz_va_ne _ _ h25]
set_option maxRecDepth 10000 in
theorem pz_placeOfDegree {I : Nat → Int32} {A : Nat → Nat → Int32} {l : List Nat} (h : pzLi I A l) (hn : pzNd l) (hl : l.length ≤ 16) {d : Nat} (hd : d < 100) :
    (fX9_placeOfDegree BM I A (pzN d) = some (-2) ∧ ∀ y, y ∈ l → pzD y ≠ d) ∨ ∃ k, k < l.length ∧ fX9_placeOfDegree BM I A (pzN d) = some (pzN k) ∧ pzD (l.getD k 0) = d := by
  obtain ⟨h1, h2⟩ := h
  unfold fX9_placeOfDegree
  have e := pz_find (fun f k => fX9_placeOfDegree_2 BM I A f (pzN d) (pzN k)) (fun k => pzD (l.getD k 0) == d) l.length (fun k => some (pzN k)) (some (-2)) ?_ ?_ ?_ l.length 0 FU (by omega) (by unfold FU; omega)
  · obtain ⟨f1, f2, f3, f4⟩ := pzF_spec (fun k => pzD (l.getD k 0) == d) l.length 0
    by_cases hlt : pzF (fun k => pzD (l.getD k 0) == d) l.length 0 < l.length
    · rw [if_pos hlt] at e
      refine Or.inr ⟨_, hlt, e, ?_⟩
      have := f3 (by omega)
      simpa using this
    · rw [if_neg hlt] at e
      refine Or.inl ⟨e, fun y hy => ?_⟩
      obtain ⟨i, hi, rfl⟩ := pz_mem.mp hy
      have := f4 i (by omega) (by omega)
      simpa using this
  · intro f k hk hp
    show fX9_placeOfDegree_2B BM I A (fX9_placeOfDegree_2 BM I A f) (pzN d) (pzN k) = _
    unfold fX9_placeOfDegree_2B
    rw [h1, if_neg (by rw [pzN_le (by omega) (by omega)]; omega), pz_gd2 (by omega) (by omega), pzN_clamp (by omega), (h2 k hk).2, if_pos]
    rw [show pzD (l.getD k 0) = d by simpa using hp]
  · intro f k hk hp
    have hD := (pz_HD _ (hn.2 k hk)).2.2.2.1
    show fX9_placeOfDegree_2B BM I A (fX9_placeOfDegree_2 BM I A f) (pzN d) (pzN k) = _
    unfold fX9_placeOfDegree_2B
    rw [h1, if_neg (by rw [pzN_le (by omega) (by omega)]; omega), pz_gd2 (by omega) (by omega), pzN_clamp (by omega), (h2 k hk).2, if_neg, pzN_suc]
    rw [pzN_inj (by omega) (by omega)]
    simpa using hp
  · intro f
    show fX9_placeOfDegree_2B BM I A (fX9_placeOfDegree_2 BM I A f) (pzN d) (pzN l.length) = _
    unfold fX9_placeOfDegree_2B
    rw [h1, if_pos ((pzN_le (by omega) (by omega)).mpr (Nat.le_refl _))]
set_option maxRecDepth 10000 in
theorem pz_placeOf {I : Nat → Int32} {A : Nat → Nat → Int32} {l : List Nat} (h : pzLi I A l) (hn : pzNd l) (hl : l.length ≤ 16) {x : Nat} (hx : x < 19) :
    (fX9_placeOf BM I A (pzN (pzD x)) (pzN (pzH x)) = some (-2) ∧ ¬ x ∈ l) ∨ ∃ k, k < l.length ∧ fX9_placeOf BM I A (pzN (pzD x)) (pzN (pzH x)) = some (pzN k) ∧ l.getD k 0 = x := by
  obtain ⟨h1, h2⟩ := h
  unfold fX9_placeOf
  have hxd := (pz_HD x hx).2.2
  have e := pz_find (fun f k => fX9_placeOf_2 BM I A f (pzN (pzD x)) (pzN (pzH x)) (pzN k)) (fun k => l.getD k 0 == x) l.length (fun k => some (pzN k)) (some (-2)) ?_ ?_ ?_ l.length 0 FU (by omega) (by unfold FU; omega)
  · obtain ⟨f1, f2, f3, f4⟩ := pzF_spec (fun k => l.getD k 0 == x) l.length 0
    by_cases hlt : pzF (fun k => l.getD k 0 == x) l.length 0 < l.length
    · rw [if_pos hlt] at e
      refine Or.inr ⟨_, hlt, e, ?_⟩
      have := f3 (by omega)
      simpa using this
    · rw [if_neg hlt] at e
      refine Or.inl ⟨e, fun hy => ?_⟩
      obtain ⟨i, hi, hxi⟩ := pz_mem.mp hy
      have := f4 i (by omega) (by omega)
      rw [hxi] at this
      simp at this
  · intro f k hk hp
    have hp : l.getD k 0 = x := by simpa using hp
    show fX9_placeOf_2B BM I A (fX9_placeOf_2 BM I A f) (pzN (pzD x)) (pzN (pzH x)) (pzN k) = _
    unfold fX9_placeOf_2B
    rw [h1, if_neg (by rw [pzN_le (by omega) (by omega)]; omega), pz_gd2 (by omega) (by omega), pz_gd2 (by omega) (by omega), pzN_clamp (by omega), (h2 k hk).1, (h2 k hk).2, hp, if_pos rfl, if_pos rfl]
  · intro f k hk hp
    have hp : ¬ l.getD k 0 = x := by simpa using hp
    have hD := (pz_HD _ (hn.2 k hk)).2.2
    show fX9_placeOf_2B BM I A (fX9_placeOf_2 BM I A f) (pzN (pzD x)) (pzN (pzH x)) (pzN k) = _
    unfold fX9_placeOf_2B
    rw [h1, if_neg (by rw [pzN_le (by omega) (by omega)]; omega), pz_gd2 (by omega) (by omega), pz_gd2 (by omega) (by omega), pzN_clamp (by omega), (h2 k hk).1, (h2 k hk).2, pzN_suc]
    by_cases hd : pzD (l.getD k 0) = pzD x
    · rw [if_pos (by rw [hd]), if_neg]
      rw [pzN_inj (by omega) (by omega)]
      intro hh
      exact hp (pz_HDinj _ (hn.2 k hk) _ hx hh hd)
    · rw [if_neg (by rw [pzN_inj (by omega) (by omega)]; exact hd)]
  · intro f
    show fX9_placeOf_2B BM I A (fX9_placeOf_2 BM I A f) (pzN (pzD x)) (pzN (pzH x)) (pzN l.length) = _
    unfold fX9_placeOf_2B
    rw [h1, if_pos ((pzN_le (by omega) (by omega)).mpr (Nat.le_refl _))]
set_option maxRecDepth 10000 in
theorem pz_placeOfNo {I : Nat → Int32} {A : Nat → Nat → Int32} {l : List Nat} (h : pzLi I A l) (hn : pzNd l) (hl : l.length ≤ 16) (d : Int32) : fX9_placeOf BM I A d (-2) = some (-2) := by
  obtain ⟨h1, h2⟩ := h
  unfold fX9_placeOf
  have e := pz_find (fun f k => fX9_placeOf_2 BM I A f d (-2) (pzN k)) (fun k => false) l.length (fun k => some (pzN k)) (some (-2)) ?_ ?_ ?_ l.length 0 FU (by omega) (by unfold FU; omega)
  · obtain ⟨f1, f2, f3, f4⟩ := pzF_spec (fun k => false) l.length 0
    by_cases hlt : pzF (fun k => false) l.length 0 < l.length
    · have := f3 (by omega); cases this
    · rw [if_neg hlt] at e; exact e
  · intro f k hk hp; cases hp
  · intro f k hk hp
    have hD := (pz_HD _ (hn.2 k hk)).2.2
    show fX9_placeOf_2B BM I A (fX9_placeOf_2 BM I A f) d (-2) (pzN k) = _
    unfold fX9_placeOf_2B
    rw [h1, if_neg (by rw [pzN_le (by omega) (by omega)]; omega), pz_gd2 (by omega) (by omega), pz_gd2 (by omega) (by omega), pzN_clamp (by omega), (h2 k hk).1, (h2 k hk).2, if_neg (pzN_ne2 (n := pzH (l.getD k 0)) (by omega)), pzN_suc]
    split <;> rfl
  · intro f
    show fX9_placeOf_2B BM I A (fX9_placeOf_2 BM I A f) d (-2) (pzN l.length) = _
    unfold fX9_placeOf_2B
    rw [h1, if_pos ((pzN_le (by omega) (by omega)).mpr (Nat.le_refl _))]
/-! becomes and brings -/
set_option maxRecDepth 10000 in
theorem pz_becomes {I : Nat → Int32} {A : Nat → Nat → Int32} {l : List Nat} (h : pzLi I A l) (hn : pzNd l) (hl : l.length ≤ 16) {d x : Nat} (hd : d < 100) (hx : x < 19) :
    (fX9_becomes BM I A (pzN d) (pzN (pzD x)) (pzN (pzH x)) = some (0, I, A) ∧ ((∀ y, y ∈ l → pzD y ≠ d) ∨ x ∈ l)) ∨
    ∃ A' l' y, fX9_becomes BM I A (pzN d) (pzN (pzD x)) (pzN (pzH x)) = some (1, I, A') ∧ ¬ x ∈ l ∧ y ∈ l ∧ pzD y = d ∧ pzLi I A' l' ∧ pzNd l' ∧ (∀ w, w ∈ l' ↔ (w ∈ l ∧ w ≠ y) ∨ w = x) ∧ pzFb I A I A' := by
  unfold fX9_becomes
  rcases pz_placeOfDegree h hn hl hd with ⟨e1, e2⟩ | ⟨k, hk, e1, e2⟩
  · rw [e1, Option.bind_some, if_pos rfl]
    exact Or.inl ⟨rfl, Or.inl e2⟩
  · rw [e1, Option.bind_some, if_neg (pzN_ne2 (by omega))]
    rcases pz_placeOf h hn hl hx with ⟨g1, g2⟩ | ⟨m, hm, g1, g2⟩
    · right
      rw [g1, Option.bind_some, if_pos rfl, pz_gd2 (by omega) (by omega), pz_gd2 (by omega) (by omega), pzN_clamp (by omega)]
      refine ⟨_, pzMk l.length (fun j => if j = k then x else l.getD j 0), l.getD k 0, rfl, g2, pz_mem.mpr ⟨k, hk, rfl⟩, e2, ⟨?_, fun j hj => ?_⟩, ⟨fun i j hi hj e => ?_, fun i hi => ?_⟩, fun w => ?_, fun _ _ => rfl, fun j h24 h25 => ?_⟩
      · rw [pzMk_len]; exact h.1
      · rw [pzMk_len] at hj
        rw [pzMk_getD _ hj, pz_va_eq, pz_va_ne _ _ (by decide), pz_va_eq]
        by_cases e : j = k
        · subst e; rw [pz_upd_eq, pz_upd_eq, if_pos rfl]; exact ⟨rfl, rfl⟩
        · rw [pz_upd_ne _ _ e, pz_upd_ne _ _ e, if_neg e]; exact h.2 j hj
      · rw [pzMk_len] at hi hj
        rw [pzMk_getD _ hi, pzMk_getD _ hj] at e
        by_cases ei : i = k
        · by_cases ej : j = k
          · omega
          · rw [if_pos ei, if_neg ej] at e
            exact absurd (pz_mem.mpr ⟨j, hj, e.symm⟩) g2
        · by_cases ej : j = k
          · rw [if_neg ei, if_pos ej] at e
            exact absurd (pz_mem.mpr ⟨i, hi, e⟩) g2
          · rw [if_neg ei, if_neg ej] at e
            exact hn.1 _ _ hi hj e
      · rw [pzMk_len] at hi
        rw [pzMk_getD _ hi]
        split
        · exact hx
        · exact hn.2 _ hi
      · rw [pz_mem, pz_mem, pzMk_len]
        constructor
        · rintro ⟨i, hi, e⟩
          rw [pzMk_getD _ hi] at e
          by_cases ei : i = k
          · rw [if_pos ei] at e; exact Or.inr e.symm
          · rw [if_neg ei] at e
            refine Or.inl ⟨⟨i, hi, e⟩, fun q => ?_⟩
            rw [← e] at q
            exact ei (hn.1 _ _ hi hk q)
        · rintro (⟨⟨i, hi, e⟩, hne⟩ | e)
          · have hik : i ≠ k := fun q => hne (by rw [← e, q])
            exact ⟨i, hi, by rw [pzMk_getD _ hi, if_neg hik]; exact e⟩
          · exact ⟨k, hk, by rw [pzMk_getD _ hk, if_pos rfl, e]⟩
      · rw [pz_va_ne _ _ h24, pz_va_ne _ _ h25]
    · left
      rw [g1, Option.bind_some, if_neg (pzN_ne2 (by omega))]
      exact ⟨rfl, Or.inr (pz_mem.mpr ⟨m, hm, g2⟩)⟩
set_option maxRecDepth 10000 in
theorem pz_bringEnd {I : Nat → Int32} {A : Nat → Nat → Int32} {l : List Nat} (h : pzLi I A l) (hn : pzNd l) (hl : l.length < 16) {x : Nat} (hx : x < 19) (hxl : ¬ x ∈ l) :
    ∃ I' A' l', fX9_brings_34 BM I A (pzN (pzD x)) (pzN (pzH x)) = some (1, I', A') ∧ pzLi I' A' l' ∧ pzNd l' ∧ (∀ w, w ∈ l' ↔ w ∈ l ∨ w = x) ∧ pzFb I A I' A' := by
  unfold fX9_brings_34
  obtain ⟨I1, A1, e1, L1, F1⟩ := pz_comes h hl x
  rw [e1]
  refine ⟨I1, A1, l ++ [x], rfl, L1, ⟨fun i j hi hj e => ?_, fun i hi => ?_⟩, fun w => by simp, F1⟩
  · rw [List.length_append] at hi hj
    simp only [List.length_cons, List.length_nil] at hi hj
    rw [pz_getD_app, pz_getD_app] at e
    by_cases ei : i < l.length
    · by_cases ej : j < l.length
      · rw [if_pos ei, if_pos ej] at e; exact hn.1 _ _ ei ej e
      · rw [if_pos ei, if_neg ej, if_pos (by omega)] at e
        exact absurd (pz_mem.mpr ⟨i, ei, e⟩) hxl
    · by_cases ej : j < l.length
      · rw [if_neg ei, if_pos (by omega), if_pos ej] at e
        exact absurd (pz_mem.mpr ⟨j, ej, e.symm⟩) hxl
      · omega
  · rw [List.length_append] at hi
    simp only [List.length_cons, List.length_nil] at hi
    rw [pz_getD_app]
    by_cases ei : i < l.length
    · rw [if_pos ei]; exact hn.2 _ ei
    · rw [if_neg ei, if_pos (by omega)]; exact hx
def pzMm (l : List Nat) (s : Nat) : Prop := s < 524288 ∧ ∀ i, i < 19 → (s.testBit i = true ↔ i ∈ l)
def pzU1 (d : Nat) (l : List Nat) : Prop := ∀ a b, a ∈ l → b ∈ l → pzD a = d → pzD b = d → a = b
set_option maxRecDepth 10000 in
theorem pz_d35 : ∀ i, i < 19 → (pzD i = 3 ↔ i = 2 ∨ i = 3) ∧ (pzD i = 5 ↔ i = 5 ∨ i = 6 ∨ i = 7) := by decide +kernel
set_option maxRecDepth 10000 in
theorem pz_l19 {l : List Nat} (h : pzNd l) {y : Nat} (hy : y ∈ l) : y < 19 := by
  obtain ⟨i, hi, rfl⟩ := pz_mem.mp hy
  exact h.2 i hi
set_option maxRecDepth 10000 in
theorem pz_okU {l : List Nat} {s : Nat} (hn : pzNd l) (hm : pzMm l s) : pzOk s ↔ pzU1 3 l ∧ pzU1 5 l := by
  obtain ⟨h1, h2⟩ := hm
  unfold pzOk
  rw [h2 2 (by omega), h2 3 (by omega), h2 5 (by omega), h2 6 (by omega), h2 7 (by omega)]
  constructor
  · rintro ⟨_, g1, g2, g3, g4⟩
    constructor
    · intro a b ha hb da db
      have := (pz_d35 a (pz_l19 hn ha)).1.mp da
      have := (pz_d35 b (pz_l19 hn hb)).1.mp db
      rcases ‹a = 2 ∨ a = 3› with rfl | rfl <;> rcases ‹b = 2 ∨ b = 3› with rfl | rfl
      · rfl
      · exact absurd ⟨ha, hb⟩ g1
      · exact absurd ⟨hb, ha⟩ g1
      · rfl
    · intro a b ha hb da db
      have qa := (pz_d35 a (pz_l19 hn ha)).2.mp da
      have qb := (pz_d35 b (pz_l19 hn hb)).2.mp db
      rcases qa with rfl | rfl | rfl <;> rcases qb with rfl | rfl | rfl
      · rfl
      · exact absurd ⟨ha, hb⟩ g2
      · exact absurd ⟨ha, hb⟩ g3
      · exact absurd ⟨hb, ha⟩ g2
      · rfl
      · exact absurd ⟨ha, hb⟩ g4
      · exact absurd ⟨hb, ha⟩ g3
      · exact absurd ⟨hb, ha⟩ g4
      · rfl
  · rintro ⟨u3, u5⟩
    refine ⟨h1, fun q => ?_, fun q => ?_, fun q => ?_, fun q => ?_⟩
    · have := u3 2 3 q.1 q.2 (by decide) (by decide); omega
    · have := u5 5 6 q.1 q.2 (by decide) (by decide); omega
    · have := u5 5 7 q.1 q.2 (by decide) (by decide); omega
    · have := u5 6 7 q.1 q.2 (by decide) (by decide); omega
set_option maxRecDepth 10000 in
theorem pz_pigeon : ∀ (l m : List Nat), l.Nodup → (∀ x, x ∈ l → x ∈ m) → l.length ≤ m.length
  | [], m, _, _ => Nat.zero_le _
  | x :: l, m, hn, hs => by
    have hx : x ∈ m := hs x (by simp)
    have hn2 := List.nodup_cons.mp hn
    have := pz_pigeon l (m.erase x) hn2.2 (fun y hy => (List.mem_erase_of_ne (fun e => hn2.1 (by rw [← e]; exact hy))).mpr (hs y (by simp [hy])))
    rw [List.length_erase_of_mem hx] at this
    have : 0 < m.length := List.length_pos_of_mem hx
    rw [List.length_cons]
    omega
set_option maxRecDepth 10000 in
theorem pz_nodup {l : List Nat} (h : pzNd l) : l.Nodup := by
  unfold List.Nodup
  rw [List.pairwise_iff_getElem]
  intro i j hi hj hij e
  have := h.1 i j hi hj (by rw [pz_getD_get hi, pz_getD_get hj]; exact e)
  omega
set_option maxRecDepth 10000 in
theorem pz_lenOk {l : List Nat} {s : Nat} (hn : pzNd l) (hm : pzMm l s) (hs : pzOk s) : l.length ≤ 16 := by
  refine Nat.le_trans (pz_pigeon l (pzP s) (pz_nodup hn) (fun x hx => ?_)) (pz_len16 hs)
  have := pz_l19 hn hx
  exact pzP_mem.mpr ⟨this, (hm.2 x this).mpr hx⟩
/-! the class's tables -/
def pzNe (c : Nat) : Nat := [12, 12, 12, 224, 224, 0, 0, 0, 0, 0, 0, 12, 224].getD c 0
def pzTa (c : Nat) : Nat := [12, 12, 12, 224, 224, 8192, 8192, 32768, 262144, 0, 0, 12, 224].getD c 0
def pzBr (c : Nat) : Nat := [2, 16, 16, 32, 128, 4096, 16384, 65536, 131072, 8192, 32768, 0, 0].getD c 0
set_option maxRecDepth 10000 in
theorem pz_tab : ∀ c, c < 13 → fX8_entry (sN 6) (sF 6) (pzN c) = some (pzN (pzNe c)) ∧ fX8_entry (sN 8) (sF 8) (pzN c) = some (pzN (pzTa c)) ∧ fX8_entry (sN 4) (sF 4) (pzN c) = some (pzN (pzBr c)) ∧ pzNe c < 524288 ∧ pzTa c < 524288 ∧ pzBr c < 524288 := by decide +kernel
def pzBad (c s : Nat) : Bool := (!(pzNe c == 0) && (s &&& pzNe c == 0)) || !(s &&& pzBr c == 0)
def pzNx (c s : Nat) : Nat := (s &&& (pzTa c ^^^ 4294967295)) ||| pzBr c
set_option maxRecDepth 10000 in
theorem pz_isWrong {I : Nat → Int32} {A : Nat → Nat → Int32} {s c : Nat} (hI : I 3 = pzN s) (hs : s < 524288) (hc : c < 13) : fX5_isWrong I A (pzN c) = some (pzSm (pzBad c s)) := by
  obtain ⟨t1, t2, t3, t4, t5, t6⟩ := pz_tab c hc
  unfold fX5_isWrong fX5_isWrong_26
  have b1 : s &&& pzNe c < 524288 := Nat.lt_of_le_of_lt Nat.and_le_left hs
  have b2 : s &&& pzBr c < 524288 := Nat.lt_of_le_of_lt Nat.and_le_left hs
  rw [t1, Option.bind_some, t3, Option.bind_some, hI, pzN_and, pzN_and, if_pos (rfl : (0 : Int32) = 0), if_neg (show ¬ (1 : Int32) = 0 by decide)]
  have z : ∀ x, x < 524288 → (pzN x = 0 ↔ x = 0) := fun x hx => pzN_inj (b := 0) (by omega) (by omega)
  unfold pzBad
  by_cases h2 : s &&& pzBr c = 0
  · have e2 : (s &&& pzBr c == 0) = true := by simpa using h2
    rw [if_pos ((z _ b2).mpr h2), e2, Bool.not_true, Bool.or_false]
    by_cases h1 : pzNe c = 0
    · have e1 : (pzNe c == 0) = true := by simpa using h1
      rw [if_pos ((z _ t4).mpr h1), e1]
      rfl
    · have e1 : (pzNe c == 0) = false := by simpa using h1
      rw [if_neg (fun x => h1 ((z _ t4).mp x)), e1]
      by_cases h3 : s &&& pzNe c = 0
      · have e3 : (s &&& pzNe c == 0) = true := by simpa using h3
        rw [if_pos ((z _ b1).mpr h3), e3]; rfl
      · have e3 : (s &&& pzNe c == 0) = false := by simpa using h3
        rw [if_neg (fun x => h3 ((z _ b1).mp x)), e3]; rfl
  · have e2 : (s &&& pzBr c == 0) = false := by simpa using h2
    rw [if_neg (fun x => h2 ((z _ b2).mp x)), e2, Bool.not_false, Bool.or_true]
    by_cases h1 : pzNe c = 0
    · rw [if_pos ((z _ t4).mpr h1)]; rfl
    · rw [if_neg (fun x => h1 ((z _ t4).mp x))]
      by_cases h3 : s &&& pzNe c = 0
      · rw [if_pos ((z _ b1).mpr h3)]; rfl
      · rw [if_neg (fun x => h3 ((z _ b1).mp x))]; rfl
set_option maxRecDepth 10000 in
theorem pz_and0 {s m : Nat} (hm : m < 524288) : s &&& m = 0 ↔ ∀ i, i < 19 → m.testBit i = true → ¬ s.testBit i = true := by
  constructor
  · intro h i hi h1 h2
    have := congrArg (fun x => x.testBit i) h
    simp only [Nat.testBit_and, h1, h2, Nat.zero_testBit] at this
    cases this
  · intro h
    apply Nat.eq_of_testBit_eq
    intro i
    rw [Nat.testBit_and, Nat.zero_testBit]
    by_cases hi : i < 19
    · by_cases h1 : m.testBit i = true
      · have := h i hi h1
        simp only [Bool.not_eq_true] at this
        rw [this, Bool.false_and]
      · simp only [Bool.not_eq_true] at h1
        rw [h1, Bool.and_false]
    · have hp : 2 ^ 19 ≤ 2 ^ i := Nat.pow_le_pow_right (by omega) (by omega)
      rw [Nat.testBit_lt_two_pow (Nat.lt_of_lt_of_le hm hp), Bool.and_false]
set_option maxRecDepth 10000 in
theorem pz_nx {s c : Nat} (hs : s < 524288) (hc : c < 13) : pzNx c s < 524288 ∧ ∀ i, i < 19 → ((pzNx c s).testBit i = true ↔ (s.testBit i = true ∧ ¬ (pzTa c).testBit i = true) ∨ (pzBr c).testBit i = true) := by
  obtain ⟨t1, t2, t3, t4, t5, t6⟩ := pz_tab c hc
  unfold pzNx
  constructor
  · exact Nat.or_lt_two_pow (n := 19) (Nat.lt_of_le_of_lt Nat.and_le_left hs) t6
  · intro i hi
    have h32 : ∀ i, i < 19 → (4294967295 : Nat).testBit i = true := by decide +kernel
    rw [Nat.testBit_or, Nat.testBit_and, Nat.testBit_xor, h32 i hi, Bool.or_eq_true, Bool.and_eq_true]
    cases (pzTa c).testBit i <;> simp
set_option maxRecDepth 10000 in
theorem pz_bad {c s : Nat} : pzBad c s = true ↔ (¬ pzNe c = 0 ∧ s &&& pzNe c = 0) ∨ ¬ s &&& pzBr c = 0 := by
  unfold pzBad
  rw [Bool.or_eq_true, Bool.and_eq_true]
  simp
/-! a change, on both sides -/
def pzCg (I : Nat → Int32) (A : Nat → Nat → Int32) (c s : Nat) (r : Option (Int32 × (Nat → Int32) × (Nat → Nat → Int32))) : Prop :=
  (pzBad c s = true ∧ ∃ I' A', r = some (0, I', A') ∧ pzFb I A I' A') ∨ (pzBad c s = false ∧ ∃ I' A' l', r = some (1, I', A') ∧ pzLi I' A' l' ∧ pzNd l' ∧ pzMm l' (pzNx c s) ∧ pzOk (pzNx c s) ∧ pzFb I A I' A')
set_option maxRecDepth 10000 in
theorem pz_chB {I : Nat → Int32} {A : Nat → Nat → Int32} {l : List Nat} {c s d x : Nat} (hc : c < 13) (h : pzLi I A l) (hn : pzNd l) (hm : pzMm l s) (hs : pzOk s) (hd : d = 3 ∨ d = 5) (hx : x < 19)
    (f1 : ∀ i, i < 19 → ((pzNe c).testBit i = true ↔ pzD i = d)) (f2 : ∀ i, i < 19 → ((pzTa c).testBit i = true ↔ pzD i = d)) (f3 : ∀ i, i < 19 → ((pzBr c).testBit i = true ↔ i = x)) (f4 : pzNe c ≠ 0) (f5 : pzD x = 3 → False) (f6 : pzD x = 5 → d = 5) :
    pzCg I A c s (fX9_becomes BM I A (pzN d) (pzN (pzD x)) (pzN (pzH x))) := by
  obtain ⟨t1, t2, t3, t4, t5, t6⟩ := pz_tab c hc
  have hl := pz_lenOk hn hm hs
  obtain ⟨u3, u5⟩ := (pz_okU hn hm).mp hs
  have ud : pzU1 d l := by rcases hd with rfl | rfl; exact u3; exact u5
  rcases pz_becomes h hn hl (d := d) (by omega) hx with ⟨e, hb⟩ | ⟨A', l', y, e, g1, g2, g3, g4, g5, g6, g7⟩
  · left
    refine ⟨?_, I, A, e, pzFb_refl I A⟩
    rw [pz_bad]
    rcases hb with hb | hb
    · refine Or.inl ⟨f4, (pz_and0 t4).mpr (fun i hi h1 h2 => ?_)⟩
      exact hb i ((hm.2 i hi).mp h2) ((f1 i hi).mp h1)
    · refine Or.inr (fun q => ?_)
      exact (pz_and0 t6).mp q x hx ((f3 x hx).mpr rfl) ((hm.2 x hx).mpr hb)
  · right
    have hy := pz_l19 hn g2
    refine ⟨?_, I, A', l', e, g4, g5, ⟨(pz_nx hm.1 hc).1, fun i hi => ?_⟩, ?_, g7⟩
    · have : ¬ pzBad c s = true := by
        rw [pz_bad]
        rintro (q | q)
        · exact (pz_and0 t4).mp q.2 y hy ((f1 y hy).mpr g3) ((hm.2 y hy).mpr g2)
        · apply q
          rw [pz_and0 t6]
          intro i hi h1 h2
          have := (f3 i hi).mp h1
          subst this
          exact g1 ((hm.2 i hi).mp h2)
      simpa using this
    · rw [(pz_nx hm.1 hc).2 i hi, g6, f2 i hi, f3 i hi, hm.2 i hi]
      constructor
      · rintro (q | q)
        · exact Or.inl ⟨q.1, fun e => q.2 (by rw [e]; exact g3)⟩
        · exact Or.inr q
      · rintro (q | q)
        · exact Or.inl ⟨q.1, fun e => q.2 (ud i y q.1 g2 e g3)⟩
        · exact Or.inr q
    · have hm' : pzMm l' (pzNx c s) := ⟨(pz_nx hm.1 hc).1, fun i hi => by
        rw [(pz_nx hm.1 hc).2 i hi, g6, f2 i hi, f3 i hi, hm.2 i hi]
        constructor
        · rintro (q | q)
          · exact Or.inl ⟨q.1, fun e => q.2 (by rw [e]; exact g3)⟩
          · exact Or.inr q
        · rintro (q | q)
          · exact Or.inl ⟨q.1, fun e => q.2 (ud i y q.1 g2 e g3)⟩
          · exact Or.inr q⟩
      rw [pz_okU g5 hm']
      have gen : ∀ d', (pzD x = d' → d' = d) → pzU1 d' l → pzU1 d' l' := by
        intro d' hdx hu a b ha hb da db
        rcases (g6 a).mp ha with ⟨a1, a2⟩ | rfl
        · rcases (g6 b).mp hb with ⟨b1, b2⟩ | rfl
          · exact hu a b a1 b1 da db
          · have := hdx db
            subst this
            exact absurd (hu a y a1 g2 da g3) a2
        · rcases (g6 b).mp hb with ⟨b1, b2⟩ | rfl
          · have := hdx da
            subst this
            exact absurd (hu b y b1 g2 db g3) b2
          · rfl
      exact ⟨gen 3 (fun q => (f5 q).elim) u3, gen 5 (fun q => (f6 q).symm) u5⟩
set_option maxRecDepth 10000 in
theorem pz_brings {I : Nat → Int32} {A : Nat → Nat → Int32} {l : List Nat} {c s x : Nat} (hc : c < 13) (h : pzLi I A l) (hn : pzNd l) (hm : pzMm l s) (hs : pzOk s) (hx : x < 19) (o : Option Nat) (ho : ∀ i, o = some i → i < 19 ∧ pzD i = pzD x ∧ i ≠ x)
    (f1 : pzNe c = 0) (f2 : ∀ i, i < 19 → ((pzTa c).testBit i = true ↔ o = some i)) (f3 : ∀ i, i < 19 → ((pzBr c).testBit i = true ↔ i = x)) (f5 : pzD x ≠ 3) (f6 : pzD x ≠ 5) (ins : Int32) (hins : ins = match o with | none => -2 | some i => pzN (pzH i)) :
    pzCg I A c s (fX9_brings BM I A (pzN (pzD x)) (pzN (pzH x)) ins) := by
  obtain ⟨t1, t2, t3, t4, t5, t6⟩ := pz_tab c hc
  have hl := pz_lenOk hn hm hs
  obtain ⟨u3, u5⟩ := (pz_okU hn hm).mp hs
  unfold fX9_brings
  rcases pz_placeOf h hn hl hx with ⟨g1, g2⟩ | ⟨m, hmm, g1, g2⟩
  · rw [g1, Option.bind_some, if_pos rfl]
    right
    have nb : pzBad c s = false := by
      have : ¬ pzBad c s = true := by
        rw [pz_bad]
        rintro (q | q)
        · exact q.1 f1
        · apply q
          rw [pz_and0 t6]
          intro i hi h1 h2
          have := (f3 i hi).mp h1
          subst this
          exact g2 ((hm.2 i hi).mp h2)
      simpa using this
    -- the end: a list without what goes
    have fin : ∀ (I1 : Nat → Int32) (A1 : Nat → Nat → Int32) (l1 : List Nat), pzLi I1 A1 l1 → pzNd l1 → (∀ y, y ∈ l1 ↔ y ∈ l ∧ o ≠ some y) → pzFb I A I1 A1 → l1.length < 16 → pzBad c s = false ∧ ∃ I' A' l', fX9_brings_34 BM I1 A1 (pzN (pzD x)) (pzN (pzH x)) = some (1, I', A') ∧ pzLi I' A' l' ∧ pzNd l' ∧ pzMm l' (pzNx c s) ∧ pzOk (pzNx c s) ∧ pzFb I A I' A' := by
      intro I1 A1 l1 L1 N1 M1 F1 hl1
      obtain ⟨I2, A2, l2, e2, L2, N2, M2, F2⟩ := pz_bringEnd L1 N1 hl1 hx (fun q => g2 ((M1 x).mp q).1)
      have hm' : pzMm l2 (pzNx c s) := ⟨(pz_nx hm.1 hc).1, fun i hi => by
        rw [(pz_nx hm.1 hc).2 i hi, M2, M1, f2 i hi, f3 i hi, hm.2 i hi]⟩
      refine ⟨nb, I2, A2, l2, e2, L2, N2, hm', ?_, pzFb_trans F1 F2⟩
      rw [pz_okU N2 hm']
      have gen : ∀ d', pzD x ≠ d' → pzU1 d' l → pzU1 d' l2 := by
        intro d' hdx hu a b ha hb da db
        have pa : a ∈ l := by
          rcases (M2 a).mp ha with q | q
          · exact ((M1 a).mp q).1
          · rw [q] at da; exact absurd da hdx
        have pb : b ∈ l := by
          rcases (M2 b).mp hb with q | q
          · exact ((M1 b).mp q).1
          · rw [q] at db; exact absurd db hdx
        exact hu a b pa pb da db
      exact ⟨gen 3 f5 u3, gen 5 f6 u5⟩
    -- the new mask's list would be at most 16 long, so there is room
    have room : ∀ (l1 : List Nat), pzNd l1 → (∀ y, y ∈ l1 ↔ y ∈ l ∧ o ≠ some y) → l1.length < 16 := by
      intro l1 N1 M1
      -- l1 with x is a list of an ok mask
      have hsub : (x :: l1).length ≤ (pzP (pzNx c s)).length := by
        apply pz_pigeon
        · exact List.nodup_cons.mpr ⟨fun q => g2 ((M1 x).mp q).1, pz_nodup N1⟩
        · intro y hy
          rw [List.mem_cons] at hy
          have hy19 : y < 19 := by
            rcases hy with rfl | hy
            · exact hx
            · exact pz_l19 N1 hy
          rw [pzP_mem]
          refine ⟨hy19, ?_⟩
          rw [(pz_nx hm.1 hc).2 y hy19, f2 y hy19, f3 y hy19, hm.2 y hy19]
          rcases hy with q | q
          · exact Or.inr q
          · exact Or.inl ((M1 y).mp q)
      have hok : pzOk (pzNx c s) := by
        have e : ∀ i, i < 19 → (i ≠ x) → ((pzNx c s).testBit i = true → s.testBit i = true) := by
          intro i hi hne q
          rw [(pz_nx hm.1 hc).2 i hi, f3 i hi] at q
          rcases q with q | q
          · exact q.1
          · exact absurd q hne
        have x2 : 2 ≠ x := fun q => f5 (by rw [← q]; decide)
        have x3 : 3 ≠ x := fun q => f5 (by rw [← q]; decide)
        have x5 : 5 ≠ x := fun q => f6 (by rw [← q]; decide)
        have x6 : 6 ≠ x := fun q => f6 (by rw [← q]; decide)
        have x7 : 7 ≠ x := fun q => f6 (by rw [← q]; decide)
        refine ⟨(pz_nx hm.1 hc).1, fun q => hs.2.1 ⟨e 2 (by omega) x2 q.1, e 3 (by omega) x3 q.2⟩, fun q => hs.2.2.1 ⟨e 5 (by omega) x5 q.1, e 6 (by omega) x6 q.2⟩, fun q => hs.2.2.2.1 ⟨e 5 (by omega) x5 q.1, e 7 (by omega) x7 q.2⟩, fun q => hs.2.2.2.2 ⟨e 6 (by omega) x6 q.1, e 7 (by omega) x7 q.2⟩⟩
      have := pz_len16 hok
      rw [List.length_cons] at hsub
      omega
    cases o with
    | none =>
      rw [hins, pz_placeOfNo h hn hl, Option.bind_some, if_pos rfl]
      have M1 : ∀ y, y ∈ l ↔ y ∈ l ∧ (none : Option Nat) ≠ some y := fun y => ⟨fun q => ⟨q, by simp⟩, fun q => q.1⟩
      exact fin I A l h hn M1 (pzFb_refl I A) (room l hn M1)
    | some i =>
      obtain ⟨o1, o2, o3⟩ := ho i rfl
      rw [hins, ← o2]
      rcases pz_placeOf h hn hl o1 with ⟨k1, k2⟩ | ⟨m, hmm, k1, k2⟩
      · rw [k1, Option.bind_some, if_pos rfl, o2]
        have M1 : ∀ y, y ∈ l ↔ y ∈ l ∧ some i ≠ some y := fun y => ⟨fun q => ⟨q, fun e => k2 (by rw [Option.some.inj e]; exact q)⟩, fun q => q.1⟩
        exact fin I A l h hn M1 (pzFb_refl I A) (room l hn M1)
      · rw [k1, Option.bind_some, if_neg (pzN_ne2 (by omega)), o2]
        obtain ⟨I1, A1, l1, e1, L1, N1, M1, F1⟩ := pz_goes h hn hl hmm
        rw [e1]
        rw [k2] at M1
        have M1' : ∀ y, y ∈ l1 ↔ y ∈ l ∧ some i ≠ some y := fun y => by
          rw [M1 y]
          exact ⟨fun q => ⟨q.1, fun e => q.2 (Option.some.inj e).symm⟩, fun q => ⟨q.1, fun e => q.2 (by rw [e])⟩⟩
        exact fin I1 A1 l1 L1 N1 M1' F1 (room l1 N1 M1')
  · left
    rw [g1, Option.bind_some, if_neg (pzN_ne2 (by omega))]
    refine ⟨?_, I, A, rfl, pzFb_refl I A⟩
    rw [pz_bad]
    refine Or.inr (fun q => ?_)
    exact (pz_and0 t6).mp q x hx ((f3 x hx).mpr rfl) ((hm.2 x hx).mpr (pz_mem.mpr ⟨m, hmm, g2⟩))
set_option maxRecDepth 10000 in
theorem pz_chN {I : Nat → Int32} {A : Nat → Nat → Int32} {l : List Nat} {c s d : Nat} (hc : c < 13) (h : pzLi I A l) (hn : pzNd l) (hm : pzMm l s) (hs : pzOk s) (hd : d = 3 ∨ d = 5)
    (f1 : ∀ i, i < 19 → ((pzNe c).testBit i = true ↔ pzD i = d)) (f2 : ∀ i, i < 19 → ((pzTa c).testBit i = true ↔ pzD i = d)) (f3 : pzBr c = 0) (f4 : pzNe c ≠ 0) :
    pzCg I A c s (fX9_changes_164 BM I A (pzN d)) := by
  obtain ⟨t1, t2, t3, t4, t5, t6⟩ := pz_tab c hc
  have hl := pz_lenOk hn hm hs
  obtain ⟨u3, u5⟩ := (pz_okU hn hm).mp hs
  have ud : pzU1 d l := by rcases hd with rfl | rfl; exact u3; exact u5
  unfold fX9_changes_164
  rcases pz_placeOfDegree h hn hl (d := d) (by omega) with ⟨e1, e2⟩ | ⟨k, hk, e1, e2⟩
  · rw [e1, Option.bind_some, if_pos rfl]
    unfold fX9_changes_179
    rw [if_pos rfl]
    refine Or.inl ⟨?_, I, A, rfl, pzFb_refl I A⟩
    rw [pz_bad]
    refine Or.inl ⟨f4, (pz_and0 t4).mpr (fun i hi h1 h2 => ?_)⟩
    exact e2 i ((hm.2 i hi).mp h2) ((f1 i hi).mp h1)
  · rw [e1, Option.bind_some, if_neg (pzN_ne2 (by omega))]
    obtain ⟨I1, A1, l1, g1, L1, N1, M1, F1⟩ := pz_goes h hn hl hk
    rw [g1]
    have hy : l.getD k 0 ∈ l := pz_mem.mpr ⟨k, hk, rfl⟩
    have hy19 := pz_l19 hn hy
    have hb0 : ∀ i, ¬ (pzBr c).testBit i = true := by intro i; rw [f3, Nat.zero_testBit]; decide
    have hm' : pzMm l1 (pzNx c s) := ⟨(pz_nx hm.1 hc).1, fun i hi => by
      rw [(pz_nx hm.1 hc).2 i hi, M1, f2 i hi, hm.2 i hi]
      constructor
      · rintro (q | q)
        · exact ⟨q.1, fun e => q.2 (by rw [e]; exact e2)⟩
        · exact absurd q (hb0 i)
      · rintro ⟨q1, q2⟩
        exact Or.inl ⟨q1, fun e => q2 (ud i _ q1 hy e e2)⟩⟩
    refine Or.inr ⟨?_, I1, A1, l1, ?_, L1, N1, hm', ?_, F1⟩
    · have : ¬ pzBad c s = true := by
        rw [pz_bad]
        rintro (q | q)
        · exact (pz_and0 t4).mp q.2 _ hy19 ((f1 _ hy19).mpr e2) ((hm.2 _ hy19).mpr hy)
        · apply q
          rw [f3, Nat.and_zero]
      simpa using this
    · show fX9_changes_179 BM I1 A1 (pzN k) = _
      unfold fX9_changes_179
      rw [if_neg (pzN_ne2 (by omega))]
    · rw [pz_okU N1 hm']
      have gen : ∀ d', pzU1 d' l → pzU1 d' l1 := fun d' hu a b ha hb da db => hu a b ((M1 a).mp ha).1 ((M1 b).mp hb).1 da db
      exact ⟨gen 3 u3, gen 5 u5⟩
def pzWp (x : Int32 × (Nat → Int32) × (Nat → Nat → Int32)) : Option (Int32 × (Nat → Int32) × (Nat → Nat → Int32)) := if x.1 = 0 ∨ x.1 = 1 then some x else none
set_option maxRecDepth 10000 in
theorem pz_wrap {I : Nat → Int32} {A : Nat → Nat → Int32} {c s : Nat} {r : Option (Int32 × (Nat → Int32) × (Nat → Nat → Int32))} (h : pzCg I A c s r) : pzCg I A c s (r.bind pzWp) := by
  rcases h with ⟨h1, I', A', rfl, h2⟩ | ⟨h1, I', A', l', rfl, h2⟩
  · exact Or.inl ⟨h1, I', A', rfl, h2⟩
  · exact Or.inr ⟨h1, I', A', l', rfl, h2⟩
set_option maxRecDepth 10000 in
theorem pz_changes {I : Nat → Int32} {A : Nat → Nat → Int32} {l : List Nat} {c s : Nat} (hc : c < 13) (h : pzLi I A l) (hn : pzNd l) (hm : pzMm l s) (hs : pzOk s) : pzCg I A c s (fX9_changes BM I A (pzN c)) := by
  have hcs : c = 0 ∨ c = 1 ∨ c = 2 ∨ c = 3 ∨ c = 4 ∨ c = 5 ∨ c = 6 ∨ c = 7 ∨ c = 8 ∨ c = 9 ∨ c = 10 ∨ c = 11 ∨ c = 12 := by omega
  rcases hcs with rfl | rfl | rfl | rfl | rfl | rfl | rfl | rfl | rfl | rfl | rfl | rfl | rfl
  · have e : fX9_changes BM I A (pzN 0) = (fX9_becomes BM I A (pzN 3) (pzN (pzD 1)) (pzN (pzH 1))).bind pzWp := rfl
    rw [e]
    exact pz_wrap (pz_chB (by omega) h hn hm hs (Or.inl rfl) (by omega) (by decide +kernel) (by decide +kernel) (by decide +kernel) (by decide) (by decide) (by decide))
  · have e : fX9_changes BM I A (pzN 1) = (fX9_becomes BM I A (pzN 3) (pzN (pzD 4)) (pzN (pzH 4))).bind pzWp := rfl
    rw [e]
    exact pz_wrap (pz_chB (by omega) h hn hm hs (Or.inl rfl) (by omega) (by decide +kernel) (by decide +kernel) (by decide +kernel) (by decide) (by decide) (by decide))
  · have e : fX9_changes BM I A (pzN 2) = (fX9_becomes BM I A (pzN 3) (pzN (pzD 4)) (pzN (pzH 4))).bind pzWp := rfl
    rw [e]
    exact pz_wrap (pz_chB (by omega) h hn hm hs (Or.inl rfl) (by omega) (by decide +kernel) (by decide +kernel) (by decide +kernel) (by decide) (by decide) (by decide))
  · have e : fX9_changes BM I A (pzN 3) = (fX9_becomes BM I A (pzN 5) (pzN (pzD 5)) (pzN (pzH 5))).bind pzWp := rfl
    rw [e]
    exact pz_wrap (pz_chB (by omega) h hn hm hs (Or.inr rfl) (by omega) (by decide +kernel) (by decide +kernel) (by decide +kernel) (by decide) (by decide) (by decide))
  · have e : fX9_changes BM I A (pzN 4) = (fX9_becomes BM I A (pzN 5) (pzN (pzD 7)) (pzN (pzH 7))).bind pzWp := rfl
    rw [e]
    exact pz_wrap (pz_chB (by omega) h hn hm hs (Or.inr rfl) (by omega) (by decide +kernel) (by decide +kernel) (by decide +kernel) (by decide) (by decide) (by decide))
  · have e : fX9_changes BM I A (pzN 5) = (fX9_brings BM I A (pzN (pzD 12)) (pzN (pzH 12)) (pzN (pzH 13))).bind pzWp := rfl
    rw [e]
    exact pz_wrap (pz_brings (by omega) h hn hm hs (by omega) (some 13) (fun i hi => by cases hi; decide) (by decide) (by decide +kernel) (by decide +kernel) (by decide) (by decide) _ rfl)
  · have e : fX9_changes BM I A (pzN 6) = (fX9_brings BM I A (pzN (pzD 14)) (pzN (pzH 14)) (pzN (pzH 13))).bind pzWp := rfl
    rw [e]
    exact pz_wrap (pz_brings (by omega) h hn hm hs (by omega) (some 13) (fun i hi => by cases hi; decide) (by decide) (by decide +kernel) (by decide +kernel) (by decide) (by decide) _ rfl)
  · have e : fX9_changes BM I A (pzN 7) = (fX9_brings BM I A (pzN (pzD 16)) (pzN (pzH 16)) (pzN (pzH 15))).bind pzWp := rfl
    rw [e]
    exact pz_wrap (pz_brings (by omega) h hn hm hs (by omega) (some 15) (fun i hi => by cases hi; decide) (by decide) (by decide +kernel) (by decide +kernel) (by decide) (by decide) _ rfl)
  · have e : fX9_changes BM I A (pzN 8) = (fX9_brings BM I A (pzN (pzD 17)) (pzN (pzH 17)) (pzN (pzH 18))).bind pzWp := rfl
    rw [e]
    exact pz_wrap (pz_brings (by omega) h hn hm hs (by omega) (some 18) (fun i hi => by cases hi; decide) (by decide) (by decide +kernel) (by decide +kernel) (by decide) (by decide) _ rfl)
  · have e : fX9_changes BM I A (pzN 9) = (fX9_brings BM I A (pzN (pzD 13)) (pzN (pzH 13)) (-2)).bind pzWp := rfl
    rw [e]
    exact pz_wrap (pz_brings (by omega) h hn hm hs (by omega) none (fun i hi => by cases hi) (by decide) (by decide +kernel) (by decide +kernel) (by decide) (by decide) _ rfl)
  · have e : fX9_changes BM I A (pzN 10) = (fX9_brings BM I A (pzN (pzD 15)) (pzN (pzH 15)) (-2)).bind pzWp := rfl
    rw [e]
    exact pz_wrap (pz_brings (by omega) h hn hm hs (by omega) none (fun i hi => by cases hi) (by decide) (by decide +kernel) (by decide +kernel) (by decide) (by decide) _ rfl)
  · have e : fX9_changes BM I A (pzN 11) = fX9_changes_164 BM I A (pzN 3) := rfl
    rw [e]
    exact pz_chN (by omega) h hn hm hs (Or.inl rfl) (by decide +kernel) (by decide +kernel) (by decide) (by decide)
  · have e : fX9_changes BM I A (pzN 12) = fX9_changes_164 BM I A (pzN 5) := rfl
    rw [e]
    exact pz_chN (by omega) h hn hm hs (Or.inr rfl) (by decide +kernel) (by decide +kernel) (by decide) (by decide)
