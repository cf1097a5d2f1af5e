set_option maxRecDepth 10000 in
theorem pz_foldAny (q : Nat → Bool) : ∀ (l : List Nat) (a : Bool), l.foldl (fun a i => a || q i) a = (a || l.any q)
  | [], a => by simp
  | x :: l, a => by rw [List.foldl_cons, pz_foldAny q l, List.any_cons, Bool.or_assoc]
set_option maxRecDepth 10000 in
theorem pz_any1 {q : Nat → Bool} {m : Nat} (hm : m < 19) (hq : ∀ i, i < 19 → (q i = true ↔ i = m)) (s : Nat) : (pzP s).any q = s.testBit m := by
  by_cases h : s.testBit m = true
  · rw [h, List.any_eq_true]
    exact ⟨m, pzP_mem.mpr ⟨hm, h⟩, (hq m hm).mpr rfl⟩
  · have : ¬ (pzP s).any q = true := by
      rw [List.any_eq_true]
      rintro ⟨i, hi, hqi⟩
      have hi2 := pzP_mem.mp hi
      have := (hq i hi2.1).mp hqi
      subst this
      exact h hi2.2
    simp only [Bool.not_eq_true] at h this
    rw [h, this]
set_option maxRecDepth 10000 in
theorem pz_hasHalf {A : Nat → Nat → Int32} {c t s b z : Nat} (B : Nat → Nat → Int64) (I : Nat → Int32) (hc : c < 100) (h : pzC A c t s b z) {hf : Nat} (hh : hf < 30) : fX9_hasHalf B I A (pzN c) (pzN hf) = some (pzSm ((pzP s).any (fun i => pzH i == hf))) := by
  obtain ⟨ht, hb, hs, hz, a0, a1, a2, a3, a4, a5, ar⟩ := h
  have hl := pz_len16 hs
  unfold fX9_hasHalf
  have e := pz_cnt (fun f k (a : Bool) => fX9_hasHalf_5 B I A f (pzN c) (pzN hf) (pzSm a) (pzN k)) (fun _ _ => True) (pzP s).length (fun k a => a || (pzH ((pzP s).getD k 0) == hf)) (fun a => some (pzSm a)) (fun _ _ _ _ => trivial) ?_ ?_ (pzP s).length 0 false FU (by omega) (by unfold FU; omega) trivial
  · have e2 := pzI_list (fun i a => a || (pzH i == hf)) (pzP s) false
    rw [e2, pz_foldAny, Bool.false_or] at e
    exact e
  · intro f k a hk _
    have hi := pzP_lt (pzP_getD hk)
    obtain ⟨_, _, hH, hD, _⟩ := pz_HD _ hi
    show fX9_hasHalf_5B B I A (fX9_hasHalf_5 B I A f) (pzN c) (pzN hf) (pzSm a) (pzN k) = _
    unfold fX9_hasHalf_5B
    rw [pz_gd2 (by omega) (by omega), pzN_clamp (by omega), a5, if_neg (by rw [pzN_le (by omega) (by omega)]; omega), pzN_suc, show (16 : Int32) = pzN 16 from rfl, pzN_mul, pzN_add, pz_gd2 (by omega) (by omega), pzN_clamp (by omega), (ar k hk).1]
    by_cases hq : pzH ((pzP s).getD k 0) = hf
    · rw [if_pos (by rw [hq])]
      have : (pzH ((pzP s).getD k 0) == hf) = true := by simpa using hq
      rw [this]
      cases a <;> rfl
    · rw [if_neg (by rw [pzN_inj (by omega) (by omega)]; exact hq)]
      have : (pzH ((pzP s).getD k 0) == hf) = false := by simpa using hq
      rw [this]
      cases a <;> rfl
  · intro f a _
    show fX9_hasHalf_5B B I A (fX9_hasHalf_5 B I A f) (pzN c) (pzN hf) (pzSm a) (pzN (pzP s).length) = _
    unfold fX9_hasHalf_5B
    rw [pz_gd2 (by omega) (by omega), pzN_clamp (by omega), a5, if_pos (by rw [pzN_le (by omega) (by omega)]; omega)]
    cases a <;> rfl
set_option maxRecDepth 10000 in
theorem pz_h3 : ∀ i, i < 19 → ((pzH i == 3) = true ↔ i = 2) ∧ ((pzH i == 4) = true ↔ i = 3) ∧ ((pzH i == 6) = true ↔ i = 5) ∧ ((pzH i == 7) = true ↔ i = 6) ∧ ((pzH i == 8) = true ↔ i = 7) := by decide +kernel
set_option maxRecDepth 10000 in
theorem pz_has1 {f : Nat → Int32} {s m : Nat} (h1 : f 1 = pzN s) (hs : s < 524288) (hm : m < 19) : fX1_has f (pzN (1 <<< m)) = some (pzSm (s.testBit m)) := by
  unfold fX1_has
  have hlt : s &&& 1 <<< m < 2147483648 := Nat.lt_of_le_of_lt Nat.and_le_left (by omega)
  rw [h1, pzN_and]
  have key : s &&& 1 <<< m = 0 ↔ s.testBit m = false := by
    rw [Nat.one_shiftLeft]
    constructor
    · intro h
      have := congrArg (fun x => x.testBit m) h
      simp only [Nat.testBit_and, Nat.testBit_two_pow, Nat.zero_testBit] at this
      simpa using this
    · intro h
      apply Nat.eq_of_testBit_eq
      intro j
      rw [Nat.testBit_and, Nat.testBit_two_pow, Nat.zero_testBit]
      by_cases e : m = j
      · subst e; rw [h]; rfl
      · simp [e]
  by_cases h : s.testBit m = true
  · rw [h, if_neg]
    · rfl
    · rw [show (0 : Int32) = pzN 0 from rfl, pzN_inj hlt (by omega), key, h]; decide
  · simp only [Bool.not_eq_true] at h
    rw [h, if_pos]
    · rfl
    · rw [key.mpr h]; rfl
set_option maxRecDepth 10000 in
theorem pz_has7 {f : Nat → Int32} {s : Nat} (h1 : f 1 = pzN s) (hs : s < 524288) : fX1_has f 3584 = some (pzSm ((pzP s).any (fun i => pzD i == 7))) := by
  unfold fX1_has
  have hlt : s &&& 3584 < 2147483648 := Nat.lt_of_le_of_lt Nat.and_le_left (by omega)
  have h3584 : ∀ i, i < 19 → ((3584 : Nat).testBit i = true ↔ (pzD i == 7) = true) := by decide +kernel
  have h19 : ∀ i, ¬ i < 19 → (3584 : Nat).testBit i = false := by
    intro i hi
    apply Nat.testBit_lt_two_pow
    have : 2 ^ 19 ≤ 2 ^ i := Nat.pow_le_pow_right (by omega) (by omega)
    omega
  rw [h1, show (3584 : Int32) = pzN 3584 from rfl, pzN_and]
  by_cases h : (pzP s).any (fun i => pzD i == 7) = true
  · rw [h, if_neg]
    · rfl
    · rw [show (0 : Int32) = pzN 0 from rfl, pzN_inj hlt (by omega)]
      intro e
      rw [List.any_eq_true] at h
      obtain ⟨i, hi, hq⟩ := h
      have hi2 := pzP_mem.mp hi
      have : (s &&& 3584).testBit i = true := by rw [Nat.testBit_and, hi2.2, (h3584 i hi2.1).mpr hq]; rfl
      rw [e] at this
      simp at this
  · have e : s &&& 3584 = 0 := by
      apply Nat.eq_of_testBit_eq
      intro i
      rw [Nat.testBit_and, Nat.zero_testBit]
      by_cases hi : i < 19
      · by_cases hb : s.testBit i = true
        · have : ¬ (3584 : Nat).testBit i = true := by
            intro hh
            apply h
            rw [List.any_eq_true]
            exact ⟨i, pzP_mem.mpr ⟨hi, hb⟩, (h3584 i hi).mp hh⟩
          simp only [Bool.not_eq_true] at this
          rw [this, Bool.and_false]
        · simp only [Bool.not_eq_true] at hb
          rw [hb, Bool.false_and]
      · rw [h19 i hi, Bool.and_false]
    simp only [Bool.not_eq_true] at h
    rw [h, if_pos]
    · rfl
    · rw [e]; rfl
/-! numerals -/
def pzNu (sm : Bool) (d : Nat) : List Nat := pzSel sm d (pzStr 1) 0
set_option maxRecDepth 10000 in
theorem pz_nu : ∀ d, d < 12 → fX9_lengthOf (BM 20 d) = some (pzN (pzNu false d).length) ∧ (pzNu false d).length ≤ 4 ∧ (pzNu true d).length = (pzNu false d).length ∧ ∀ k, k < (pzNu false d).length → fX9_byteOf (BM 20 d) (pzN k) = some (pzN ((pzNu false d).getD k 0)) ∧ (pzNu false d).getD k 0 < 90 + 9 ∧ (pzNu true d).getD k 0 = (if (pzNu false d).getD k 0 = 98 then 98 else (pzNu false d).getD k 0 + 32) ∧ (pzNu true d).getD k 0 < 128 := by decide +kernel
set_option maxRecDepth 10000 in
theorem pz_nuLen (sm : Bool) {d : Nat} (hd : d < 12) : (pzNu sm d).length = (pzNu false d).length := by
  cases sm
  · rfl
  · exact (pz_nu d hd).2.2.1
set_option maxRecDepth 10000 in
theorem pz_numIn {d : Nat} (hd : d < 12) (sm : Bool) : ∀ n k f (I : Nat → Int32) (A : Nat → Nat → Int32) (l : List Nat), k + n = (pzNu false d).length → n < f → pzU I A l → l.length + n ≤ 64 →
    ∃ I' A', fX9_showsNumeral_13 BM f I A (pzN d) (pzSm sm) (pzN (pzNu false d).length) (pzN k) = some (I', A') ∧ pzU I' A' (l ++ (pzNu sm d).drop k) ∧ pzFr I A I' A'
  | n, k, 0, I, A, l, _, hf, _, _ => by omega
  | 0, k, f + 1, I, A, l, e, hf, hU, hl => by
    have hle := (pz_nu d hd).2.1
    show ∃ I' A', fX9_showsNumeral_13B BM (fX9_showsNumeral_13 BM f) I A (pzN d) (pzSm sm) (pzN (pzNu false d).length) (pzN k) = _ ∧ _
    unfold fX9_showsNumeral_13B
    rw [if_pos (by rw [pzN_le (by omega) (by omega)]; omega)]
    refine ⟨I, A, rfl, ?_, pzFr_refl I A⟩
    rw [List.drop_eq_nil_of_le (by rw [pz_nuLen sm hd]; omega), List.append_nil]
    exact hU
  | n + 1, k, f + 1, I, A, l, e, hf, hU, hl => by
    obtain ⟨n1, n2, n3, n4⟩ := pz_nu d hd
    obtain ⟨m1, m2, m3, m4⟩ := n4 k (by omega)
    have hk : k < (pzNu sm d).length := by rw [pz_nuLen sm hd]; omega
    show ∃ I' A', fX9_showsNumeral_13B BM (fX9_showsNumeral_13 BM f) I A (pzN d) (pzSm sm) (pzN (pzNu false d).length) (pzN k) = _ ∧ _
    unfold fX9_showsNumeral_13B
    rw [if_neg (by rw [pzN_le (by omega) (by omega)]; omega), pz_gd2 (by omega) (by omega), pzN_clamp (by omega), m1, Option.bind_some, pzN_suc]
    have fin : ∀ x, x < 128 → (pzNu sm d).getD k 0 = x → ∃ I' A', ((fX9_shows BM I A (pzN x)).bind fun (I', A') => fX9_showsNumeral_13 BM f I' A' (pzN d) (pzSm sm) (pzN (pzNu false d).length) (pzN (k + 1))) = some (I', A') ∧ pzU I' A' (l ++ (pzNu sm d).drop k) ∧ pzFr I A I' A' := by
      intro x hx hxe
      obtain ⟨I1, A1, e1, U1, F1⟩ := pz_shows BM hU (by omega) hx
      obtain ⟨I2, A2, e2, U2, F2⟩ := pz_numIn hd sm n (k + 1) f I1 A1 _ (by omega) (by omega) U1 (by rw [List.length_append]; simp; omega)
      refine ⟨I2, A2, by rw [e1]; exact e2, ?_, pzFr_trans F1 F2⟩
      rw [List.drop_eq_getElem_cons hk, ← pz_getD_get hk, hxe]
      simpa using U2
    cases sm with
    | false =>
      rw [if_pos (show pzSm false = 0 from rfl)]
      exact fin _ (by omega) rfl
    | true =>
      rw [if_neg (show ¬ pzSm true = 0 by decide)]
      by_cases h98 : (pzNu false d).getD k 0 = 98
      · rw [h98, if_pos (by rfl)]
        exact fin 98 (by omega) (by rw [m3, if_pos h98])
      · rw [if_neg (by rw [show (98 : Int32) = pzN 98 from rfl, pzN_inj (by omega) (by omega)]; exact h98), show (32 : Int32) = pzN 32 from rfl, pzN_add]
        rw [if_neg h98] at m3
        exact fin _ (by omega) m3
set_option maxRecDepth 10000 in
theorem pz_showsNumeral {I : Nat → Int32} {A : Nat → Nat → Int32} {l : List Nat} {d : Nat} (hd : d < 12) (sm : Bool) (hU : pzU I A l) (hl : l.length ≤ 20) :
    ∃ I' A', fX9_showsNumeral BM I A (pzN d) (pzSm sm) = some (I', A') ∧ pzU I' A' (l ++ pzNu sm d) ∧ pzFr I A I' A' := by
  obtain ⟨n1, n2, n3, n4⟩ := pz_nu d hd
  unfold fX9_showsNumeral
  rw [pz_gd2 (by omega) (by omega), pzN_clamp (by omega), n1, Option.bind_some]
  exact pz_numIn hd sm (pzNu false d).length 0 FU I A l (by omega) (by unfold FU; omega) hU (by omega)
set_option maxRecDepth 10000 in
theorem pz_md : ∀ r, r < 12 → ∀ k, k < 12 → fJ9_floorMod_7cf53 (pzN r - pzN k) 12 = pzN ((r + 12 - k) % 12) ∧ fX9_mod12 (pzN r - pzN k) = pzN ((r + 12 - k) % 12) := by decide +kernel
/-! the bass's degree -/
set_option maxRecDepth 10000 in
theorem pz_findF (p : Nat → Bool) : ∀ d k, (List.range' k d).find? p = if pzF p d k < k + d then some (pzF p d k) else none
  | 0, k => by simp [pzF]
  | d + 1, k => by
    rw [List.range'_succ]
    unfold pzF
    by_cases h : p k = true
    · rw [List.find?_cons_of_pos h, if_pos h, if_pos (by omega)]
    · rw [List.find?_cons_of_neg h, if_neg h, pz_findF p d (k + 1), show k + 1 + d = k + (d + 1) by omega]
def pzMt (t b i : Nat) : Bool := (pzPi t + pzH i) % 12 == pzPi b
def pzDb (t s b : Nat) : Option Nat := (pzP s).find? (pzMt t b)
def pzDc (o : Option Nat) : Int32 := match o with
  | none => 0
  | some i => pzN (pzD i)
def pzDm (o : Option Nat) (e : Int32) : Int32 := match o with
  | none => e
  | some i => pzN (pzD i)
set_option maxRecDepth 10000 in
theorem pz_degreeOfBass {f : Nat → Int32} {t s b z : Nat} (hk : pzK f t s b z) (ht : t < 35) (hb : b < 35) (hs : s < 524288) : fX1_degreeOfBass f = some (pzDc (pzDb t s b)) := by
  obtain ⟨k0, k1, k2, k3⟩ := hk
  have pt := pzPi_lt t
  have pb := pzPi_lt b
  have hdb : pzDb t s b = if pzF (fun i => s.testBit i && pzMt t b i) 19 0 < 19 then some (pzF (fun i => s.testBit i && pzMt t b i) 19 0) else none := by
    unfold pzDb pzP
    rw [List.find?_filter, List.range_eq_range', pz_findF]
    simp
  unfold fX1_degreeOfBass
  have e := pz_find (fun fu k => fX1_degreeOfBass_2 f fu (pzN k)) (fun i => s.testBit i && pzMt t b i) 19 (fun k => some (pzN (pzD k))) (some 0) ?_ ?_ ?_ 19 0 FU (by omega) (by unfold FU; omega)
  · refine e.trans ?_
    rw [hdb]
    by_cases h : pzF (fun i => s.testBit i && pzMt t b i) 19 0 < 19
    · rw [if_pos h, if_pos h]; rfl
    · rw [if_neg h, if_neg h]; rfl
  · intro fu k hk hp
    obtain ⟨hH1, hD1, hH, hD, _⟩ := pz_HD k hk
    rw [Bool.and_eq_true] at hp
    show fX1_degreeOfBass_2B f (fX1_degreeOfBass_2 f fu) (pzN k) = _
    unfold fX1_degreeOfBass_2B
    have hm : (pzPi t + pzH k) % 12 = pzPi b := by have := hp.2; unfold pzMt at this; simpa using this
    rw [if_neg (by rw [show (19 : Int32) = pzN 19 from rfl, pzN_le (by omega) (by omega)]; omega), k0, k1, k2, pz_isIn (by omega) (by omega), if_pos hp.1, if_neg (by decide), (pz_step t ht k hk).2.1, Option.bind_some, pz_pitch b hb, Option.bind_some, pzN_add, show (12 : Int32) = pzN 12 from rfl, pzN_jrem (by omega) (by omega), hm, if_pos rfl, hD1]
    rfl
  · intro fu k hk hp
    obtain ⟨hH1, hD1, hH, hD, _⟩ := pz_HD k hk
    show fX1_degreeOfBass_2B f (fX1_degreeOfBass_2 f fu) (pzN k) = _
    unfold fX1_degreeOfBass_2B
    rw [if_neg (by rw [show (19 : Int32) = pzN 19 from rfl, pzN_le (by omega) (by omega)]; omega), k0, k1, k2, pz_isIn (by omega) (by omega), pzN_suc]
    by_cases hbt : s.testBit k = true
    · have hm : ¬ (pzPi t + pzH k) % 12 = pzPi b := by
        rw [hbt, Bool.true_and] at hp
        unfold pzMt at hp
        simpa using hp
      have hlt : (pzPi t + pzH k) % 12 < 12 := Nat.mod_lt _ (by omega)
      rw [if_pos hbt, if_neg (by decide), (pz_step t ht k hk).2.1, Option.bind_some, pz_pitch b hb, Option.bind_some, pzN_add, show (12 : Int32) = pzN 12 from rfl, pzN_jrem (by omega) (by omega), if_neg (by rw [pzN_inj (by omega) (by omega)]; exact hm)]
    · rw [if_neg hbt, if_pos rfl]
  · intro fu
    show fX1_degreeOfBass_2B f (fX1_degreeOfBass_2 f fu) (pzN 19) = _
    unfold fX1_degreeOfBass_2B
    rw [if_pos (by decide)]
set_option maxRecDepth 10000 in
theorem pz_fig146 {A : Nat → Nat → Int32} {c t s b z : Nat} (I : Nat → Int32) (hc : c < 100) (h : pzC A c t s b z) (key : Int32) : ∀ k f (sv : Bool) (o : Int32), k ≤ (pzP s).length → k < f →
    fX9_figure_146 BM f I A (pzN c) key (pzSm sv) o (pzN k - 1) = fX9_figure_146B BM (fun _ _ _ _ _ _ _ => none) I A (pzN c) key (pzSm (sv || ((pzP s).take k).any (fun i => pzD i == 7))) (pzDm (((pzP s).take k).find? (pzMt t b)) o) (-1)
  | k, 0, sv, o, _, hf => by omega
  | 0, f + 1, sv, o, hk, hf => by
    show fX9_figure_146B BM (fX9_figure_146 BM f) I A (pzN c) key (pzSm sv) o (pzN 0 - 1) = _
    rw [List.take_zero, List.any_nil, Bool.or_false, List.find?_nil]
    unfold fX9_figure_146B
    rw [if_pos (show pzN 0 - 1 < 0 by decide), if_pos (show (-1 : Int32) < 0 by decide)]
    rfl
  | k + 1, f + 1, sv, o, hk, hf => by
    have hr := pz_root BM I hc h
    have hba := pz_bass BM I hc h
    obtain ⟨ht, hb, hs, hz, a0, a1, a2, a3, a4, a5, ar⟩ := id h
    have hl := pz_len16 hs
    have hkl : k < (pzP s).length := by omega
    have hi := pzP_lt (pzP_getD hkl)
    obtain ⟨_, _, hH, hD, _⟩ := pz_HD _ hi
    have pt := pzPi_lt t
    have pb := pzPi_lt b
    have ih := pz_fig146 I hc h key k f
    have htk : (pzP s).take (k + 1) = (pzP s).take k ++ [(pzP s).getD k 0] := by
      rw [List.take_add_one, List.getElem?_eq_getElem hkl, ← pz_getD_get hkl]; rfl
    rw [htk, List.any_append, List.find?_append, List.any_cons, List.any_nil, Bool.or_false]
    show fX9_figure_146B BM (fX9_figure_146 BM f) I A (pzN c) key (pzSm sv) o (pzN (k + 1) - 1) = _
    have e1 : pzN (k + 1) - 1 = pzN k := pzN_sub (a := k + 1) (b := 1) (by omega)
    have e2 : pzN k + (-1) = pzN k - 1 := by rw [Int32.sub_eq_add_neg]
    rw [e1]
    have h175 : ∀ q r, fX9_figure_175 BM (fX9_figure_146 BM f) I A (pzN c) key o (pzN k) q r = (if pzN ((pzPi t + pzH ((pzP s).getD k 0)) % 12) = pzN (pzPi b) then fX9_figure_146 BM f I A (pzN c) key (r ||| q) (pzN (pzD ((pzP s).getD k 0))) (pzN k - 1) else fX9_figure_146 BM f I A (pzN c) key (r ||| q) o (pzN k - 1)) := by
      intro q r
      unfold fX9_figure_175
      rw [hr, Option.bind_some, show (16 : Int32) = pzN 16 from rfl, pzN_mul, pzN_add, pz_gd2 (by omega) (by omega), hba, Option.bind_some, pz_gd2 (by omega) (by omega), pzN_clamp (by omega), (ar k hkl).1, (ar k hkl).2, e2, pzN_add, show (12 : Int32) = pzN 12 from rfl, pzN_jrem (by omega) (by omega)]
    have h146 : fX9_figure_146B BM (fX9_figure_146 BM f) I A (pzN c) key (pzSm sv) o (pzN k) = (if pzN (pzD ((pzP s).getD k 0)) = 7 then fX9_figure_175 BM (fX9_figure_146 BM f) I A (pzN c) key o (pzN k) 1 (pzSm sv) else fX9_figure_175 BM (fX9_figure_146 BM f) I A (pzN c) key o (pzN k) 0 (pzSm sv)) := by
      unfold fX9_figure_146B
      rw [if_neg (fun x => (pzN_not_neg (by omega)).mp x), show (16 : Int32) = pzN 16 from rfl, pzN_mul, pzN_add, pz_gd2 (by omega) (by omega), pzN_clamp (by omega), (ar k hkl).2]
    rw [h146, h175, h175]
    generalize (pzP s).getD k 0 = j at *
    have hlt : (pzPi t + pzH j) % 12 < 12 := Nat.mod_lt _ (by omega)
    have flag : ∀ q : Bool, (pzSm sv ||| pzSm q) = pzSm (sv || q) := by intro q; cases sv <;> cases q <;> rfl
    have fin : ∀ (q : Bool), (pzD j == 7) = q → (if pzN ((pzPi t + pzH j) % 12) = pzN (pzPi b) then fX9_figure_146 BM f I A (pzN c) key (pzSm sv ||| pzSm q) (pzN (pzD j)) (pzN k - 1) else fX9_figure_146 BM f I A (pzN c) key (pzSm sv ||| pzSm q) o (pzN k - 1)) = fX9_figure_146B BM (fun _ _ _ _ _ _ _ => none) I A (pzN c) key (pzSm (sv || (((pzP s).take k).any (fun i => pzD i == 7) || (pzD j == 7)))) (pzDm ((((pzP s).take k).find? (pzMt t b)).or ([j].find? (pzMt t b))) o) (-1) := by
      intro q hq
      rw [flag, hq]
      have eb : (sv || (((pzP s).take k).any (fun i => pzD i == 7) || q)) = ((sv || q) || ((pzP s).take k).any (fun i => pzD i == 7)) := by
        cases sv <;> cases q <;> simp
      rw [eb]
      by_cases hm : (pzPi t + pzH j) % 12 = pzPi b
      · have : pzMt t b j = true := by unfold pzMt; simpa using hm
        rw [if_pos (by rw [hm]), ih _ _ (by omega) (by omega), List.find?_cons_of_pos this]
        cases ((pzP s).take k).find? (pzMt t b) <;> rfl
      · have : ¬ pzMt t b j = true := by unfold pzMt; simpa using hm
        rw [if_neg (by rw [pzN_inj (by omega) (by omega)]; exact hm), ih _ _ (by omega) (by omega), List.find?_cons_of_neg this, List.find?_nil, Option.or_none]
    by_cases h7 : pzD j = 7
    · rw [if_pos (by rw [h7]; rfl)]
      exact fin true (by simpa using h7)
    · rw [if_neg (by rw [show (7 : Int32) = pzN 7 from rfl, pzN_inj (by omega) (by omega)]; exact h7)]
      exact fin false (by simpa using h7)
set_option maxRecDepth 10000 in
theorem pz_text2 {c : CS} {u : MSt} (h : pzRel c u) {J : Nat → Nat → Int32} {E : Nat → Nat → Nat → Int32} {I' : Nat → Int32} {A' : Nat → Nat → Int32} {l : List Nat} (hT : pzT (J 4) (E 4) l) (hJ : ∀ j, j ≠ 4 → J j = c.2.2.1 j) (hE : ∀ j, j ≠ 4 → E j = c.2.2.2.1 j) (hU : pzU I' A' l) (hF : pzFr u.1 u.2 I' A') (hl : l.length ≤ 12) (h128 : ∀ x, x ∈ l → x < 128) (L : Nat → Int64) :
    pzRel (c.1, c.2.1, J, E, L) (I', A') := by
  have e1 : va_up c.2.2.1 4 (J 4) = J := by
    funext j
    by_cases e : j = 4
    · subst e; rw [pz_va_eq]
    · rw [pz_va_ne _ _ e, hJ j e]
  have e2 : va_up c.2.2.2.1 4 (E 4) = E := by
    funext j
    by_cases e : j = 4
    · subst e; rw [pz_va_eq]
    · rw [pz_va_ne _ _ e, hE j e]
  have := pz_text h hT hU hF hl h128 L
  rw [e1, e2] at this
  exact this
def pzDn (o : Option Nat) : Nat := match o with
  | none => 0
  | some i => pzD i
def pzIw (sv : Bool) (d : Nat) : List Nat := pzSel false (d / 2) (pzStr (if sv then 2 else 3)) 0
def pzTl (sv : Bool) (d r : Nat) : List Nat := if d = 1 ∨ d = 3 ∨ d = 5 ∨ d = 7 then pzIw sv d else (if sv then [55] else []) ++ 47 :: pzNu false r
set_option maxRecDepth 10000 in
theorem pz_iwLen : ∀ d, d < 14 → (pzIw true d).length ≤ 2 ∧ (pzIw false d).length ≤ 2 := by decide +kernel
set_option maxRecDepth 10000 in
theorem pz_tlLen {sv : Bool} {d r : Nat} (hd : d < 14) (hr : r < 12) : (pzTl sv d r).length ≤ 6 := by
  have h1 := pz_iwLen d hd
  have h2 := (pz_nu r hr).2.1
  unfold pzTl
  split
  · cases sv
    · omega
    · omega
  · cases sv <;> simp <;> omega
set_option maxRecDepth 10000 in
theorem pz_cNum {nC : Nat} {ck J : Nat → Nat → Int32} {E : Nat → Nat → Nat → Int32} {L : Nat → Int64} {l : List Nat} {r key : Nat} (hr : r < 12) (hk : key < 12) (sm : Bool) (hT : pzT (J 4) (E 4) l) (hl : l.length ≤ 8) :
    ∃ I A, fX8_addNumeral nC ck J E L (pzN r - pzN key) (pzSm sm) = some (va_up J 4 I, va_up E 4 A, L) ∧ pzT I A (l ++ pzNu sm ((r + 12 - key) % 12)) := by
  have hd : (r + 12 - key) % 12 < 12 := Nat.mod_lt _ (by omega)
  have h2 := (pz_nu _ hd).2.1
  have h3 := pz_nuLen sm hd
  unfold fX8_addNumeral
  rw [(pz_md r hr key hk).1]
  obtain ⟨I1, A1, e1, T1⟩ := pz_addWord (i := 1) (by omega) (n := (r + 12 - key) % 12) (by omega) sm hT (by unfold pzNu at h2 h3; omega)
  exact ⟨I1, A1, by rw [e1]; rfl, T1⟩
set_option maxRecDepth 10000 in
theorem pz_cInv {nC : Nat} {ck J : Nat → Nat → Int32} {E : Nat → Nat → Nat → Int32} {L : Nat → Int64} {l : List Nat} {ki t s b z key : Nat} (hk : pzK (ck ki) t s b z) (ht : t < 35) (hb : b < 35) (hs : s < 524288) (hkey : key < 12) (hT : pzT (J 4) (E 4) l) (hl : l.length ≤ 6) :
    ∃ J' E', fX8_addInversion nC ck J E L ki (pzN key) = some (J', E', L) ∧ pzT (J' 4) (E' 4) (l ++ pzTl ((pzP s).any (fun i => pzD i == 7)) (pzDn (pzDb t s b)) ((pzPi b + 12 - key) % 12)) ∧ (∀ j, j ≠ 4 → J' j = J j) ∧ ∀ j, j ≠ 4 → E' j = E j := by
  have pb := pzPi_lt b
  unfold fX8_addInversion
  rw [pz_has7 hk.2.1 hs, Option.bind_some, pz_degreeOfBass hk ht hb hs, Option.bind_some, hk.2.2.1]
  generalize hsv : (pzP s).any (fun i => pzD i == 7) = sv
  have hdd : ∃ d, d < 14 ∧ pzDc (pzDb t s b) = pzN d ∧ (pzDn (pzDb t s b)) = d := by
    cases hdb : pzDb t s b with
    | none => exact ⟨0, by omega, rfl, rfl⟩
    | some i =>
      unfold pzDb at hdb
      have := pzP_lt (List.mem_of_find?_eq_some hdb)
      exact ⟨pzD i, by have := (pz_HD i this).2.2.2.1; omega, rfl, rfl⟩
  obtain ⟨d, hd, e1, e2⟩ := hdd
  rw [e1, e2]
  have hw := pz_iwLen d hd
  have word : ∀ (q : Bool), q = sv → ∃ I A, fX6_addWord (J 4) (E 4) (if q then 2 else 3) (pzN (d / 2)) 0 = some (I, A) ∧ pzT I A (l ++ pzIw sv d) := by
    intro q hq
    subst hq
    have := pz_addWord (i := if q then 2 else 3) (by cases q <;> decide) (n := d / 2) (by omega) false hT (by
      have : (pzIw q d).length ≤ 2 := by cases q; exact hw.2; exact hw.1
      unfold pzIw at this; omega)
    exact this
  have fr : ∀ (I : Nat → Int32) (A : Nat → Nat → Int32), (∀ j, j ≠ 4 → va_up J 4 I j = J j) ∧ ∀ j, j ≠ 4 → va_up E 4 A j = E j := fun I A => ⟨fun j hj => pz_va_ne _ _ hj, fun j hj => pz_va_ne _ _ hj⟩
  have inv : d = 1 ∨ d = 3 ∨ d = 5 ∨ d = 7 → ∃ J' E', (if pzSm sv = 0 then ((fX6_addWord (J 4) (E 4) 3 (pzN d / 2) 0).bind fun (I8, A9) => some (va_up J 4 I8, va_up E 4 A9, L)) else ((fX6_addWord (J 4) (E 4) 2 (pzN d / 2) 0).bind fun (I8, A9) => some (va_up J 4 I8, va_up E 4 A9, L))) = some (J', E', L) ∧ pzT (J' 4) (E' 4) (l ++ pzTl sv d ((pzPi b + 12 - key) % 12)) ∧ (∀ j, j ≠ 4 → J' j = J j) ∧ ∀ j, j ≠ 4 → E' j = E j := by
    intro hd4
    unfold pzTl
    rw [if_pos hd4, show (2 : Int32) = pzN 2 from rfl, pzN_div (by omega) (by omega)]
    cases sv with
    | false =>
      obtain ⟨I, A, g1, g2⟩ := word false rfl
      rw [if_pos (show pzSm false = 0 from rfl)]
      rw [if_neg (by decide)] at g1
      rw [g1]
      exact ⟨_, _, rfl, by rw [pz_va_eq, pz_va_eq]; exact g2, fr I A⟩
    | true =>
      obtain ⟨I, A, g1, g2⟩ := word true rfl
      rw [if_neg (show ¬ pzSm true = 0 by decide)]
      rw [if_pos rfl] at g1
      rw [g1]
      exact ⟨_, _, rfl, by rw [pz_va_eq, pz_va_eq]; exact g2, fr I A⟩
  have eqd : ∀ k, k < 14 → (pzN d = pzN k ↔ d = k) := fun k hk => pzN_inj (by omega) (by omega)
  by_cases d1 : d = 1
  · rw [if_pos (show pzN d = 1 by rw [d1]; rfl)]
    exact inv (Or.inl d1)
  rw [if_neg (show ¬ pzN d = 1 from fun x => d1 ((eqd 1 (by omega)).mp x))]
  by_cases d3 : d = 3
  · rw [if_pos (show pzN d = 3 by rw [d3]; rfl)]
    exact inv (Or.inr (Or.inl d3))
  rw [if_neg (show ¬ pzN d = 3 from fun x => d3 ((eqd 3 (by omega)).mp x))]
  by_cases d5 : d = 5
  · rw [if_pos (show pzN d = 5 by rw [d5]; rfl)]
    exact inv (Or.inr (Or.inr (Or.inl d5)))
  rw [if_neg (show ¬ pzN d = 5 from fun x => d5 ((eqd 5 (by omega)).mp x))]
  by_cases d7 : d = 7
  · rw [if_pos (show pzN d = 7 by rw [d7]; rfl)]
    exact inv (Or.inr (Or.inr (Or.inr d7)))
  rw [if_neg (show ¬ pzN d = 7 from fun x => d7 ((eqd 7 (by omega)).mp x))]
  unfold pzTl
  rw [if_neg (show ¬ (d = 1 ∨ d = 3 ∨ d = 5 ∨ d = 7) by omega)]
  have slash : ∀ (I : Nat → Int32) (A : Nat → Nat → Int32) (l1 : List Nat), pzT I A l1 → l1.length ≤ 7 → ∃ J' E', ((fX6_add I A 47).bind fun (I38, A39) => ((fX3_pitch (pzN b)).bind fun r41 => ((fX8_addNumeral nC ck (va_up J 4 I38) (va_up E 4 A39) L (r41 - pzN key) 0).bind fun (J44, E45, L46) => (some (J44, E45, L46))))) = some (J', E', L) ∧ pzT (J' 4) (E' 4) (l1 ++ 47 :: pzNu false ((pzPi b + 12 - key) % 12)) ∧ (∀ j, j ≠ 4 → J' j = J j) ∧ ∀ j, j ≠ 4 → E' j = E j := by
    intro I A l1 hT1 hl1
    obtain ⟨I1, A1, g1, T1⟩ := pz_add hT1 (by omega) 47
    obtain ⟨I2, A2, g2, T2⟩ := pz_cNum (nC := nC) (ck := ck) (J := va_up J 4 I1) (E := va_up E 4 A1) (L := L) pb hkey false (by rw [pz_va_eq, pz_va_eq]; exact T1) (by rw [List.length_append, List.length_cons, List.length_nil]; omega)
    rw [show (47 : Int32) = pzN 47 from rfl, g1]
    simp only [Option.bind_some, pz_pitch b hb]
    rw [show pzSm false = 0 from rfl] at g2
    rw [g2]
    refine ⟨va_up (va_up J 4 I1) 4 I2, va_up (va_up E 4 A1) 4 A2, rfl, ?_, fun j hj => ?_, fun j hj => ?_⟩
    · rw [pz_va_eq, pz_va_eq]; simpa using T2
    · rw [pz_va_ne _ _ hj, pz_va_ne _ _ hj]
    · rw [pz_va_ne _ _ hj, pz_va_ne _ _ hj]
  cases sv with
  | false =>
    rw [if_pos (show pzSm false = 0 from rfl)]
    have := slash (J 4) (E 4) l hT (by omega)
    simpa using this
  | true =>
    rw [if_neg (show ¬ pzSm true = 0 by decide)]
    obtain ⟨I1, A1, g1, T1⟩ := pz_add hT (by omega) 55
    rw [show (55 : Int32) = pzN 55 from rfl, g1]
    have := slash I1 A1 _ T1 (by rw [List.length_append, List.length_cons, List.length_nil]; omega)
    simpa using this
/-! the reference's tail -/
set_option maxRecDepth 10000 in
theorem pz_two {I : Nat → Int32} {A : Nat → Nat → Int32} {l : List Nat} {w : Nat} (hw : w < 100) (hU : pzU I A l) (hl : l.length ≤ 20) :
    ∃ I' A', fX9_figure_323 BM I A (pzN w) = some (I' 8, I', A') ∧ pzU I' A' (l ++ ((if 9 < w then [48 + w / 10] else []) ++ (if 0 < w then [48 + w % 10] else []))) ∧ pzFr I A I' A' := by
  have last : ∀ (I : Nat → Int32) (A : Nat → Nat → Int32) (l : List Nat), pzU I A l → l.length ≤ 30 → ∃ I' A', fX9_figure_344 BM I A (pzN w) = some (I' 8, I', A') ∧ pzU I' A' (l ++ (if 0 < w then [48 + w % 10] else [])) ∧ pzFr I A I' A' := by
    intro I A l hU hl
    unfold fX9_figure_344
    by_cases h : 0 < w
    · rw [if_neg (by rw [show (0 : Int32) = pzN 0 from rfl, pzN_le (by omega) (by omega)]; omega), show (48 : Int32) = pzN 48 from rfl, show (10 : Int32) = pzN 10 from rfl, pzN_jrem (by omega) (by omega), pzN_add, if_pos h]
      obtain ⟨I1, A1, e1, U1, F1⟩ := pz_shows BM hU (by omega) (x := 48 + w % 10) (by omega)
      rw [e1]
      exact ⟨I1, A1, rfl, U1, F1⟩
    · rw [if_pos (by rw [show (0 : Int32) = pzN 0 from rfl, pzN_le (by omega) (by omega)]; omega), if_neg h, List.append_nil]
      exact ⟨I, A, rfl, hU, pzFr_refl I A⟩
  unfold fX9_figure_323
  by_cases h : 9 < w
  · rw [if_neg (by rw [show (9 : Int32) = pzN 9 from rfl, pzN_le (by omega) (by omega)]; omega), show (48 : Int32) = pzN 48 from rfl, show (10 : Int32) = pzN 10 from rfl, pzN_div (by omega) (by omega), pzN_add, if_pos h]
    obtain ⟨I1, A1, e1, U1, F1⟩ := pz_shows BM hU (by omega) (x := 48 + w / 10) (by omega)
    obtain ⟨I2, A2, e2, U2, F2⟩ := last I1 A1 _ U1 (by rw [List.length_append]; simp; omega)
    rw [e1]
    refine ⟨I2, A2, e2, ?_, pzFr_trans F1 F2⟩
    rw [← List.append_assoc]; exact U2
  · rw [if_pos (by rw [show (9 : Int32) = pzN 9 from rfl, pzN_le (by omega) (by omega)]; omega), if_neg h, List.nil_append]
    exact last I A l hU (by omega)
set_option maxRecDepth 10000 in
theorem pz_mTail {I : Nat → Int32} {A : Nat → Nat → Int32} {l : List Nat} {c t s b z key : Nat} (hc : c < 100) (h : pzC A c t s b z) (hkey : key < 12) (sv : Bool) (o : Option Nat) (ho : ∀ i, o = some i → i < 19) (hU : pzU I A l) (hl : l.length ≤ 10) :
    ∃ I' A', fX9_figure_146B BM (fun _ _ _ _ _ _ _ => none) I A (pzN c) (pzN key) (pzSm sv) (pzDm o (-2)) (-1) = some (I' 8, I', A') ∧ pzU I' A' (l ++ pzTl sv (pzDn o) ((pzPi b + 12 - key) % 12)) ∧ pzFr I A I' A' := by
  have pb := pzPi_lt b
  have hd : (pzPi b + 12 - key) % 12 < 12 := Nat.mod_lt _ (by omega)
  have h2 := (pz_nu _ hd).2.1
  unfold fX9_figure_146B
  rw [if_pos (show (-1 : Int32) < 0 by decide)]
  have slash : ∀ (I : Nat → Int32) (A1 : Nat → Nat → Int32) (l1 : List Nat), pzC A1 c t s b z → pzU I A1 l1 → l1.length ≤ 12 → ∃ I' A', fX9_figure_375 BM I A1 (pzN c) (pzN key) = some (I' 8, I', A') ∧ pzU I' A' (l1 ++ 47 :: pzNu false ((pzPi b + 12 - key) % 12)) ∧ pzFr I A1 I' A' := by
    intro I A1 l1 hC hU1 hl1
    obtain ⟨I1, A2, g1, U1, F1⟩ := pz_shows BM hU1 (by omega) (x := 47) (by omega)
    have hC2 := pzC_congr hC (F1.2 2 (by decide)) (F1.2 3 (by decide)) (F1.2 4 (by decide)) (F1.2 5 (by decide))
    obtain ⟨I3, A3, g3, U3, F3⟩ := pz_showsNumeral (I := I1) (A := A2) hd false U1 (by rw [List.length_append]; simp; omega)
    unfold fX9_figure_375
    rw [show (47 : Int32) = pzN 47 from rfl, g1]
    simp only [Option.bind_some, pz_bass BM I1 hc hC2]
    rw [(pz_md _ pb _ hkey).2]
    rw [show pzSm false = 0 from rfl] at g3
    rw [g3]
    exact ⟨I3, A3, rfl, by simpa using U3, pzFr_trans F1 F3⟩
  have other : ∃ I' A', (if pzSm sv = 0 then (fX9_figure_375 BM I A (pzN c) (pzN key)) else ((fX9_shows BM I A 55).bind fun (I49, A50) => (fX9_figure_375 BM I49 A50 (pzN c) (pzN key)))) = some (I' 8, I', A') ∧ pzU I' A' (l ++ ((if sv then [55] else []) ++ 47 :: pzNu false ((pzPi b + 12 - key) % 12))) ∧ pzFr I A I' A' := by
    cases sv with
    | false =>
      rw [if_pos (show pzSm false = 0 from rfl)]
      have := slash I A l h hU (by omega)
      simpa using this
    | true =>
      rw [if_neg (show ¬ pzSm true = 0 by decide)]
      obtain ⟨I1, A1, g1, U1, F1⟩ := pz_shows BM hU (by omega) (x := 55) (by omega)
      have hC1 := pzC_congr h (F1.2 2 (by decide)) (F1.2 3 (by decide)) (F1.2 4 (by decide)) (F1.2 5 (by decide))
      obtain ⟨I2, A2, g2, U2, F2⟩ := slash I1 A1 _ hC1 U1 (by rw [List.length_append]; simp; omega)
      rw [show (55 : Int32) = pzN 55 from rfl, g1]
      exact ⟨I2, A2, g2, by simpa using U2, pzFr_trans F1 F2⟩
  cases o with
  | none =>
    show ∃ I' A', (if (-2 : Int32) = 1 then _ else if (-2 : Int32) = 3 then _ else if (-2 : Int32) = 5 then _ else if (-2 : Int32) = 7 then _ else _) = _ ∧ _
    rw [if_neg (by decide), if_neg (by decide), if_neg (by decide), if_neg (by decide)]
    exact other
  | some i =>
    have hi := ho i rfl
    have hD := (pz_HD i hi).2.2.2.1
    show ∃ I' A', (if pzN (pzD i) = 1 then fX9_figure_257 BM I A (pzSm sv) (pzN (pzD i)) else if pzN (pzD i) = 3 then fX9_figure_257 BM I A (pzSm sv) (pzN (pzD i)) else if pzN (pzD i) = 5 then fX9_figure_257 BM I A (pzSm sv) (pzN (pzD i)) else if pzN (pzD i) = 7 then fX9_figure_257 BM I A (pzSm sv) (pzN (pzD i)) else _) = _ ∧ pzU I' A' (l ++ pzTl sv (pzD i) ((pzPi b + 12 - key) % 12)) ∧ _
    generalize pzD i = d at *
    have eqd : ∀ k, k < 14 → (pzN d = pzN k ↔ d = k) := fun k hk => pzN_inj (by omega) (by omega)
    have inv : d = 1 ∨ d = 3 ∨ d = 5 ∨ d = 7 → ∃ I' A', fX9_figure_257 BM I A (pzSm sv) (pzN d) = some (I' 8, I', A') ∧ pzU I' A' (l ++ pzTl sv d ((pzPi b + 12 - key) % 12)) ∧ pzFr I A I' A' := by
      intro hd4
      unfold pzTl
      rw [if_pos hd4]
      have tw : ∀ w, w < 100 → fX9_figure_257 BM I A (pzSm sv) (pzN d) = fX9_figure_323 BM I A (pzN w) → pzIw sv d = ((if 9 < w then [48 + w / 10] else []) ++ (if 0 < w then [48 + w % 10] else [])) → ∃ I' A', fX9_figure_257 BM I A (pzSm sv) (pzN d) = some (I' 8, I', A') ∧ pzU I' A' (l ++ pzIw sv d) ∧ pzFr I A I' A' := by
        intro w hw h1 h2
        rw [h1, h2]
        exact pz_two hw hU (by omega)
      rcases hd4 with rfl | rfl | rfl | rfl <;> cases sv
      · exact tw 0 (by omega) rfl (by decide)
      · exact tw 7 (by omega) rfl (by decide)
      · exact tw 6 (by omega) rfl (by decide)
      · exact tw 65 (by omega) rfl (by decide)
      · exact tw 64 (by omega) rfl (by decide)
      · exact tw 43 (by omega) rfl (by decide)
      · exact tw 0 (by omega) rfl (by decide)
      · exact tw 42 (by omega) rfl (by decide)
    by_cases d1 : d = 1
    · rw [if_pos (show pzN d = 1 by rw [d1]; rfl)]
      exact inv (Or.inl d1)
    rw [if_neg (show ¬ pzN d = 1 from fun x => d1 ((eqd 1 (by omega)).mp x))]
    by_cases d3 : d = 3
    · rw [if_pos (show pzN d = 3 by rw [d3]; rfl)]
      exact inv (Or.inr (Or.inl d3))
    rw [if_neg (show ¬ pzN d = 3 from fun x => d3 ((eqd 3 (by omega)).mp x))]
    by_cases d5 : d = 5
    · rw [if_pos (show pzN d = 5 by rw [d5]; rfl)]
      exact inv (Or.inr (Or.inr (Or.inl d5)))
    rw [if_neg (show ¬ pzN d = 5 from fun x => d5 ((eqd 5 (by omega)).mp x))]
    by_cases d7 : d = 7
    · rw [if_pos (show pzN d = 7 by rw [d7]; rfl)]
      exact inv (Or.inr (Or.inr (Or.inr d7)))
    rw [if_neg (show ¬ pzN d = 7 from fun x => d7 ((eqd 7 (by omega)).mp x))]
    unfold pzTl
    rw [if_neg (show ¬ (d = 1 ∨ d = 3 ∨ d = 5 ∨ d = 7) by omega)]
    exact other
/-! figure -/
def pzMid (s : Nat) : List Nat := (if s.testBit 2 = true ∧ s.testBit 5 = true then [111] else []) ++ (if s.testBit 3 = true ∧ s.testBit 7 = true then [43] else [])
def pzFg (t s b key : Nat) : List Nat := pzNu (s.testBit 2) ((pzPi t + 12 - key) % 12) ++ pzMid s ++ pzTl ((pzP s).any (fun i => pzD i == 7)) (pzDn (pzDb t s b)) ((pzPi b + 12 - key) % 12)
set_option maxRecDepth 10000 in
theorem pzMid_len {s : Nat} (hs : pzOk s) : (pzMid s).length ≤ 1 := by
  unfold pzMid
  rw [List.length_append]
  have := hs.2.1
  split <;> split <;> simp
  rename_i h1 h2
  exact this ⟨h1.1, h2.1⟩
set_option maxRecDepth 10000 in
theorem pz_nu128 : ∀ d, d < 12 → (pzNu true d).all (fun x => x < 128) = true ∧ (pzNu false d).all (fun x => x < 128) = true := by decide +kernel
set_option maxRecDepth 10000 in
theorem pz_iw128 : ∀ d, d < 14 → (pzIw true d).all (fun x => x < 128) = true ∧ (pzIw false d).all (fun x => x < 128) = true := by decide +kernel
set_option maxRecDepth 10000 in
theorem pz_fgOk {t s b key : Nat} (hs : pzOk s) : (pzFg t s b key).length ≤ 12 ∧ ∀ x, x ∈ pzFg t s b key → x < 128 := by
  have h1 : (pzPi t + 12 - key) % 12 < 12 := Nat.mod_lt _ (by omega)
  have h2 : (pzPi b + 12 - key) % 12 < 12 := Nat.mod_lt _ (by omega)
  have hd : (pzDn (pzDb t s b)) < 14 := by
    cases hdb : pzDb t s b with
    | none => show 0 < 14; omega
    | some i =>
      unfold pzDb at hdb
      have := pzP_lt (List.mem_of_find?_eq_some hdb)
      show pzD i < 14
      have := (pz_HD i this).2.2.2.1; omega
  unfold pzFg
  generalize (pzDn (pzDb t s b)) = d at *
  generalize (pzP s).any (fun i => pzD i == 7) = sv
  generalize s.testBit 2 = sm
  have m1 := pz_nuLen sm h1
  have m2 := (pz_nu _ h1).2.1
  have m3 := pzMid_len hs
  have m4 := pz_tlLen (sv := sv) hd h2
  have all : ∀ (l : List Nat), l.all (fun x => decide (x < 128)) = true → ∀ x, x ∈ l → x < 128 := by
    intro l h x hx
    have := List.all_eq_true.mp h x hx
    simpa using this
  constructor
  · rw [List.length_append, List.length_append]; omega
  · intro x hx
    rw [List.mem_append, List.mem_append] at hx
    rcases hx with (hx | hx) | hx
    · cases sm
      · exact all _ (pz_nu128 _ h1).2 x hx
      · exact all _ (pz_nu128 _ h1).1 x hx
    · unfold pzMid at hx
      rw [List.mem_append] at hx
      rcases hx with hx | hx
      · split at hx
        · simp at hx; omega
        · simp at hx
      · split at hx
        · simp at hx; omega
        · simp at hx
    · unfold pzTl at hx
      split at hx
      · cases sv
        · exact all _ (pz_iw128 _ hd).2 x hx
        · exact all _ (pz_iw128 _ hd).1 x hx
      · rw [List.mem_append, List.mem_cons] at hx
        rcases hx with hx | hx | hx
        · split at hx
          · simp at hx; omega
          · simp at hx
        · omega
        · exact all _ (pz_nu128 _ h2).2 x hx
set_option maxRecDepth 10000 in
theorem pz_cFig {nC : Nat} {ck J : Nat → Nat → Int32} {E : Nat → Nat → Nat → Int32} {L : Nat → Int64} {i t s b z key : Nat} (hk : pzK (ck i) t s b z) (ht : t < 35) (hb : b < 35) (hs : pzOk s) (hkey : key < 12) (hi : i < 100) (q : Option (Int32 × (Nat → Nat → Int32) × (Nat → Nat → Nat → Int32) × (Nat → Int64))) (hck : ∀ (α : Type) (p q : Option α), ckAt nC J (pzN i) p q = p) (hp : fX8_isPitch (pzN key) = 1) :
    ∃ J' E', fX8_figure nC ck J E L (pzN i) (pzN key) = some (pzN (pzFg t s b key).length, J', E', L) ∧ pzT (J' 4) (E' 4) (pzFg t s b key) ∧ (∀ j, j ≠ 4 → J' j = J j) ∧ ∀ j, j ≠ 4 → E' j = E j := by
  have pt := pzPi_lt t
  have h1 : (pzPi t + 12 - key) % 12 < 12 := Nat.mod_lt _ (by omega)
  have m1 := pz_nuLen (s.testBit 2) h1
  have m2 := (pz_nu _ h1).2.1
  unfold fX8_figure fX6_clear
  rw [hck, hp, if_neg (show ¬ (1 : Int32) = 0 by decide), Option.bind_some, pzN_clamp (by omega)]
  have b2 := pz_has1 (m := 2) hk.2.1 hs.1 (by omega)
  have b3 := pz_has1 (m := 3) hk.2.1 hs.1 (by omega)
  have b5 := pz_has1 (m := 5) hk.2.1 hs.1 (by omega)
  have b7 := pz_has1 (m := 7) hk.2.1 hs.1 (by omega)
  rw [show pzN (1 <<< 2) = (4 : Int32) from rfl] at b2
  rw [show pzN (1 <<< 3) = (8 : Int32) from rfl] at b3
  rw [show pzN (1 <<< 5) = (32 : Int32) from rfl] at b5
  rw [show pzN (1 <<< 7) = (128 : Int32) from rfl] at b7
  have T0 : pzT ((va_up J 4 (upd (J 4) 1 0)) 4) ((va_up E 4 (E 4)) 4) [] := ⟨by rw [pz_va_eq, pz_upd_eq]; rfl, fun k hk => by simp at hk⟩
  obtain ⟨I1, A1, e1, T1⟩ := pz_cNum (nC := nC) (ck := ck) (J := va_up J 4 (upd (J 4) 1 0)) (E := va_up E 4 (E 4)) (L := L) pt hkey (s.testBit 2) T0 (by simp)
  simp only [b2, b3, b5, b7, hk.1, pz_pitch t ht, Option.bind_some, e1]
  rw [List.nil_append] at T1
  -- the end
  have inv : ∀ (J1 : Nat → Nat → Int32) (E1 : Nat → Nat → Nat → Int32) (m : List Nat), pzT (J1 4) (E1 4) (pzNu (s.testBit 2) ((pzPi t + 12 - key) % 12) ++ m) → m.length ≤ 1 → m = pzMid s → (∀ j, j ≠ 4 → J1 j = J j) → (∀ j, j ≠ 4 → E1 j = E j) →
      ∃ J' E', ((fX8_addInversion nC ck J1 E1 L i (pzN key)).bind fun (J20, E21, L22) => (some (((J20 4) 1), (J20, E21, L22)))) = some (pzN (pzFg t s b key).length, J', E', L) ∧ pzT (J' 4) (E' 4) (pzFg t s b key) ∧ (∀ j, j ≠ 4 → J' j = J j) ∧ ∀ j, j ≠ 4 → E' j = E j := by
    intro J1 E1 m hT hm hmm hJ hE
    obtain ⟨J2, E2, g1, g2, g3, g4⟩ := pz_cInv (nC := nC) (ck := ck) (J := J1) (E := E1) (L := L) hk ht hb hs.1 hkey hT (by rw [List.length_append]; omega)
    subst hmm
    rw [g1]
    refine ⟨J2, E2, ?_, g2, fun j hj => (g3 j hj).trans (hJ j hj), fun j hj => (g4 j hj).trans (hE j hj)⟩
    show some (J2 4 1, J2, E2, L) = _
    rw [g2.1]
    rfl
  have fr1 : ∀ j, j ≠ 4 → va_up (va_up J 4 (upd (J 4) 1 0)) 4 I1 j = J j := fun j hj => by rw [pz_va_ne _ _ hj, pz_va_ne _ _ hj]
  have fr2 : ∀ j, j ≠ 4 → va_up (va_up E 4 (E 4)) 4 A1 j = E j := fun j hj => by rw [pz_va_ne _ _ hj, pz_va_ne _ _ hj]
  have T1' : pzT ((va_up (va_up J 4 (upd (J 4) 1 0)) 4 I1) 4) ((va_up (va_up E 4 (E 4)) 4 A1) 4) (pzNu (s.testBit 2) ((pzPi t + 12 - key) % 12) ++ []) := by
    rw [pz_va_eq, pz_va_eq, List.append_nil]; exact T1
  have plus : ∃ I A, fX6_add I1 A1 43 = some (I, A) ∧ pzT I A (pzNu (s.testBit 2) ((pzPi t + 12 - key) % 12) ++ [43]) := pz_add T1 (by omega) 43
  have oo : ∃ I A, fX6_add I1 A1 111 = some (I, A) ∧ pzT I A (pzNu (s.testBit 2) ((pzPi t + 12 - key) % 12) ++ [111]) := pz_add T1 (by omega) 111
  rw [pz_va_eq, pz_va_eq]
  have n23 := hs.2.1
  cases q2 : s.testBit 2 with
  | false =>
    rw [q2] at inv T1' plus oo
    rw [if_pos (show pzSm false = 0 from rfl)]
    cases q3 : s.testBit 3 with
    | false =>
      rw [if_pos (show pzSm false = 0 from rfl)]
      exact inv _ _ [] T1' (by simp) (by simp [pzMid, q2, q3]) fr1 fr2
    | true =>
      rw [if_neg (show ¬ pzSm true = 0 by decide)]
      cases q7 : s.testBit 7 with
      | false =>
        rw [if_pos (show pzSm false = 0 from rfl)]
        exact inv _ _ [] T1' (by simp) (by simp [pzMid, q2, q7]) fr1 fr2
      | true =>
        rw [if_neg (show ¬ pzSm true = 0 by decide)]
        obtain ⟨I2, A2, p1, p2⟩ := plus
        rw [p1]
        exact inv _ _ [43] (by rw [pz_va_eq, pz_va_eq]; exact p2) (by simp) (by simp [pzMid, q2, q3, q7]) (fun j hj => (pz_va_ne _ _ hj).trans (fr1 j hj)) (fun j hj => (pz_va_ne _ _ hj).trans (fr2 j hj))
  | true =>
    have q3 : s.testBit 3 = false := by
      cases h3 : s.testBit 3 with
      | false => rfl
      | true => exact absurd ⟨q2, h3⟩ n23
    rw [q2] at inv T1' plus oo
    rw [if_neg (show ¬ pzSm true = 0 by decide), q3]
    cases q5 : s.testBit 5 with
    | false =>
      rw [if_pos (show pzSm false = 0 from rfl), if_pos (show pzSm false = 0 from rfl)]
      exact inv _ _ [] T1' (by simp) (by simp [pzMid, q3, q5]) fr1 fr2
    | true =>
      rw [if_neg (show ¬ pzSm true = 0 by decide)]
      obtain ⟨I2, A2, p1, p2⟩ := oo
      rw [p1]
      simp only [Option.bind_some]
      rw [if_pos (show pzSm false = 0 from rfl)]
      exact inv _ _ [111] (by rw [pz_va_eq, pz_va_eq]; exact p2) (by simp) (by simp [pzMid, q2, q3, q5]) (fun j hj => (pz_va_ne _ _ hj).trans (fr1 j hj)) (fun j hj => (pz_va_ne _ _ hj).trans (fr2 j hj))
set_option maxRecDepth 10000 in
theorem pz_m129 {I : Nat → Int32} {A : Nat → Nat → Int32} {l : List Nat} {c t s b z key : Nat} (hc : c < 100) (h : pzC A c t s b z) (hkey : key < 12) (hU : pzU I A l) (hl : l.length ≤ 10) :
    ∃ I' A', fX9_figure_129 BM I A (pzN c) (pzN key) = some (I' 8, I', A') ∧ pzU I' A' (l ++ pzTl ((pzP s).any (fun i => pzD i == 7)) (pzDn (pzDb t s b)) ((pzPi b + 12 - key) % 12)) ∧ pzFr I A I' A' := by
  obtain ⟨ht, hb, hs, hz, a0, a1, a2, a3, a4, a5, ar⟩ := id h
  have hl16 := pz_len16 hs
  unfold fX9_figure_129
  rw [pz_gd2 (by omega) (by omega), pzN_clamp (by omega), a5]
  have e := pz_fig146 I hc h (pzN key) (pzP s).length FU false (-2) (by omega) (by unfold FU; omega)
  rw [List.take_length, Bool.false_or, show pzSm false = 0 from rfl] at e
  rw [e]
  exact pz_mTail hc h hkey _ (pzDb t s b) (fun i hi => by unfold pzDb at hi; exact pzP_lt (List.mem_of_find?_eq_some hi)) hU hl
set_option maxRecDepth 10000 in
theorem pz_bits {s : Nat} : (pzP s).any (fun i => pzH i == 3) = s.testBit 2 ∧ (pzP s).any (fun i => pzH i == 4) = s.testBit 3 ∧ (pzP s).any (fun i => pzH i == 6) = s.testBit 5 ∧ (pzP s).any (fun i => pzH i == 7) = s.testBit 6 ∧ (pzP s).any (fun i => pzH i == 8) = s.testBit 7 :=
  ⟨pz_any1 (by omega) (fun i hi => (pz_h3 i hi).1) s, pz_any1 (by omega) (fun i hi => (pz_h3 i hi).2.1) s, pz_any1 (by omega) (fun i hi => (pz_h3 i hi).2.2.1) s, pz_any1 (by omega) (fun i hi => (pz_h3 i hi).2.2.2.1) s, pz_any1 (by omega) (fun i hi => (pz_h3 i hi).2.2.2.2) s⟩
set_option maxRecDepth 10000 in
theorem pz_hh {A : Nat → Nat → Int32} {c t s b z : Nat} (I : Nat → Int32) (hc : c < 100) (h : pzC A c t s b z) : fX9_hasHalf BM I A (pzN c) 3 = some (pzSm (s.testBit 2)) ∧ fX9_hasHalf BM I A (pzN c) 4 = some (pzSm (s.testBit 3)) ∧ fX9_hasHalf BM I A (pzN c) 6 = some (pzSm (s.testBit 5)) ∧ fX9_hasHalf BM I A (pzN c) 7 = some (pzSm (s.testBit 6)) ∧ fX9_hasHalf BM I A (pzN c) 8 = some (pzSm (s.testBit 7)) := by
  obtain ⟨b1, b2, b3, b4, b5⟩ := pz_bits (s := s)
  rw [← b1, ← b2, ← b3, ← b4, ← b5]
  exact ⟨pz_hasHalf BM I hc h (hf := 3) (by omega), pz_hasHalf BM I hc h (hf := 4) (by omega), pz_hasHalf BM I hc h (hf := 6) (by omega), pz_hasHalf BM I hc h (hf := 7) (by omega), pz_hasHalf BM I hc h (hf := 8) (by omega)⟩
set_option maxRecDepth 10000 in
theorem pz_m94 {I : Nat → Int32} {A : Nat → Nat → Int32} {l : List Nat} {c t s b z key : Nat} (hc : c < 100) (h : pzC A c t s b z) (hkey : key < 12) (hU : pzU I A l) (hl : l.length ≤ 9) :
    ∃ I' A', fX9_figure_94 BM I A (pzN c) (pzN key) = some (I' 8, I', A') ∧ pzU I' A' (l ++ ((if s.testBit 3 = true ∧ s.testBit 7 = true then [43] else []) ++ pzTl ((pzP s).any (fun i => pzD i == 7)) (pzDn (pzDb t s b)) ((pzPi b + 12 - key) % 12))) ∧ pzFr I A I' A' := by
  obtain ⟨h3, h4, h6, h7, h8⟩ := pz_hh I hc h
  have hs := h.2.2.1
  unfold fX9_figure_94
  rw [h4, Option.bind_some]
  have base := pz_m129 (I := I) hc h hkey hU (by omega)
  cases q3 : s.testBit 3 with
  | false =>
    rw [if_pos (show pzSm false = 0 from rfl)]
    simpa using base
  | true =>
    rw [if_neg (show ¬ pzSm true = 0 by decide), h8, Option.bind_some]
    cases q7 : s.testBit 7 with
    | false =>
      rw [if_pos (show pzSm false = 0 from rfl)]
      simpa using base
    | true =>
      have q6 : s.testBit 6 = false := by
        cases q6 : s.testBit 6 with
        | false => rfl
        | true => exact absurd ⟨q6, q7⟩ hs.2.2.2.2
      rw [if_neg (show ¬ pzSm true = 0 by decide), h7, Option.bind_some, q6, if_pos (show pzSm false = 0 from rfl)]
      obtain ⟨I1, A1, g1, U1, F1⟩ := pz_shows BM hU (by omega) (x := 43) (by omega)
      have hC1 := pzC_congr h (F1.2 2 (by decide)) (F1.2 3 (by decide)) (F1.2 4 (by decide)) (F1.2 5 (by decide))
      obtain ⟨I2, A2, g2, U2, F2⟩ := pz_m129 (I := I1) hc hC1 hkey U1 (by rw [List.length_append]; simp; omega)
      rw [show (43 : Int32) = pzN 43 from rfl, g1]
      exact ⟨I2, A2, g2, by simpa using U2, pzFr_trans F1 F2⟩
set_option maxRecDepth 10000 in
theorem pz_m61 {I : Nat → Int32} {A : Nat → Nat → Int32} {c t s b z key : Nat} (hc : c < 100) (h : pzC A c t s b z) (hkey : key < 12) (hU : pzU I A []) :
    ∃ I' A', fX9_figure_61 BM I A (pzN c) (pzN key) (pzSm (s.testBit 2)) (pzSm (s.testBit 2)) (pzN ((pzPi t + 12 - key) % 12)) = some (I' 8, I', A') ∧ pzU I' A' (pzFg t s b key) ∧ pzFr I A I' A' := by
  have hs := h.2.2.1
  have h1 : (pzPi t + 12 - key) % 12 < 12 := Nat.mod_lt _ (by omega)
  have m1 := pz_nuLen (s.testBit 2) h1
  have m2 := (pz_nu _ h1).2.1
  unfold fX9_figure_61
  obtain ⟨I1, A1, g1, U1, F1⟩ := pz_showsNumeral h1 (s.testBit 2) hU (by simp)
  have hC1 := pzC_congr h (F1.2 2 (by decide)) (F1.2 3 (by decide)) (F1.2 4 (by decide)) (F1.2 5 (by decide))
  obtain ⟨h3, h4, h6, h7, h8⟩ := pz_hh I1 hc hC1
  rw [List.nil_append] at U1
  rw [g1]
  simp only [Option.bind_some]
  obtain ⟨I2, A2, g2, U2, F2⟩ := pz_m94 (I := I1) hc hC1 hkey U1 (by omega)
  unfold pzFg pzMid
  cases q2 : s.testBit 2 with
  | false =>
    rw [q2] at U2
    rw [if_pos (show pzSm false = 0 from rfl)]
    exact ⟨I2, A2, g2, by simpa using U2, pzFr_trans F1 F2⟩
  | true =>
    rw [q2] at U2 U1 m1
    rw [if_neg (show ¬ pzSm true = 0 by decide), h6, Option.bind_some]
    cases q5 : s.testBit 5 with
    | false =>
      rw [if_pos (show pzSm false = 0 from rfl)]
      exact ⟨I2, A2, g2, by simpa using U2, pzFr_trans F1 F2⟩
    | true =>
      have q6 : s.testBit 6 = false := by
        cases q6 : s.testBit 6 with
        | false => rfl
        | true => exact absurd ⟨q5, q6⟩ hs.2.2.1
      rw [if_neg (show ¬ pzSm true = 0 by decide), h7, Option.bind_some, q6, if_pos (show pzSm false = 0 from rfl)]
      obtain ⟨I3, A3, g3, U3, F3⟩ := pz_shows BM U1 (by omega) (x := 111) (by omega)
      have hC3 := pzC_congr hC1 (F3.2 2 (by decide)) (F3.2 3 (by decide)) (F3.2 4 (by decide)) (F3.2 5 (by decide))
      obtain ⟨I4, A4, g4, U4, F4⟩ := pz_m94 (I := I3) hc hC3 hkey U3 (by rw [List.length_append]; simp; omega)
      rw [show (111 : Int32) = pzN 111 from rfl, g3]
      exact ⟨I4, A4, g4, by simpa using U4, pzFr_trans F1 (pzFr_trans F3 F4)⟩
set_option maxRecDepth 10000 in
theorem pz_hS13 : hS13 pzRel := by
  intro c u x y h
  unfold cS13 mS13
  rcases pz_at BM h x with ⟨i, t, s, b, z, hi, h100, rfl, hk, hc, e1, e2⟩ | ⟨e1, e2⟩
  · obtain ⟨ht, hb, hs, hz, a0, a1, a2, a3, a4, a5, ar⟩ := id hc
    rcases pz_pitchIn y with ⟨key, hkey, rfl, p1, p2⟩ | ⟨p1, p2⟩
    · obtain ⟨J1, E1, g1, T1, f1, f2⟩ := pz_cFig (nC := c.1) (ck := c.2.1) (J := c.2.2.1) (E := c.2.2.2.1) (L := c.2.2.2.2) hk ht hb hs hkey h100 none e2 p2
      obtain ⟨o1, o2⟩ := pz_fgOk (t := t) (b := b) (key := key) hs
      have U0 : pzU (upd u.1 8 0) u.2 [] := ⟨by rw [pz_upd_eq]; rfl, fun k hk => by simp at hk⟩
      have F0 : pzFr u.1 u.2 (upd u.1 8 0) u.2 := ⟨fun j hj => pz_upd_ne _ _ hj, fun _ _ => rfl⟩
      obtain ⟨I2, A2, g2, U2, F2⟩ := pz_m61 h100 hc hkey U0
      obtain ⟨h3, h4, h6, h7, h8⟩ := pz_hh (upd u.1 8 0) h100 hc
      refine ⟨pzN (pzFg t s b key).length, _, (I2, A2), by rw [g1]; rfl, ?_, pz_text2 h T1 f1 f2 U2 (pzFr_trans F0 F2) o1 o2 c.2.2.2.2⟩
      unfold fX9_figure
      rw [e1, Option.bind_some, if_neg (show ¬ (1 : Int32) = 0 by decide), p1, if_neg (show ¬ (1 : Int32) = 0 by decide), h3, Option.bind_some, pz_root BM _ h100 hc, Option.bind_some, (pz_md _ (pzPi_lt t) _ hkey).2]
      rw [U2.1] at g2
      cases q2 : s.testBit 2 with
      | false =>
        rw [q2] at g2
        rw [if_pos (show pzSm false = 0 from rfl)]
        exact g2
      | true =>
        have q3 : s.testBit 3 = false := by
          cases h3 : s.testBit 3 with
          | false => rfl
          | true => exact absurd ⟨q2, h3⟩ hs.2.1
        rw [q2] at g2
        rw [if_neg (show ¬ pzSm true = 0 by decide), h4, Option.bind_some, q3, if_pos (show pzSm false = 0 from rfl)]
        exact g2
    · unfold fX8_figure fX9_figure
      rw [e1, e2, p1, p2]
      exact ⟨-1, c, u, rfl, rfl, h⟩
  · unfold fX8_figure fX9_figure
    rw [e1, e2]
    exact ⟨-1, c, u, rfl, rfl, h⟩
