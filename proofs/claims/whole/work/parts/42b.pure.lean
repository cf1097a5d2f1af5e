def pzN (n : Nat) : Int32 := Int32.ofNat n
set_option maxRecDepth 10000 in
theorem pz_lit (n : Nat) : (OfNat.ofNat n : Int32) = pzN n := rfl
set_option maxRecDepth 10000 in
theorem pzN_toInt {n : Nat} (h : n < 2147483648) : (pzN n).toInt = n := by
  unfold pzN
  rw [Int32.toInt_ofNat_of_lt h]
set_option maxRecDepth 10000 in
theorem pzN_clamp {n : Nat} (h : n < 2147483648) : (pzN n).toNatClampNeg = n := by
  unfold pzN
  exact Int32.toNatClampNeg_ofNat_of_lt h
set_option maxRecDepth 10000 in
theorem pzN_add (a b : Nat) : pzN a + pzN b = pzN (a + b) := by
  unfold pzN
  exact (Int32.ofNat_add a b).symm
set_option maxRecDepth 10000 in
theorem pzN_suc (a : Nat) : pzN a + 1 = pzN (a + 1) := pzN_add a 1
set_option maxRecDepth 10000 in
theorem pzN_mul (a b : Nat) : pzN a * pzN b = pzN (a * b) := by
  unfold pzN
  exact (Int32.ofNat_mul a b).symm
set_option maxRecDepth 10000 in
theorem pzN_sub {a b : Nat} (h : b ≤ a) : pzN a - pzN b = pzN (a - b) := by
  have : pzN a = pzN (a - b) + pzN b := by rw [pzN_add]; congr 1; omega
  rw [this]
  exact Int32.add_sub_cancel _ _
set_option maxRecDepth 10000 in
theorem pzN_le {a b : Nat} (ha : a < 2147483648) (hb : b < 2147483648) : (pzN a ≤ pzN b) ↔ a ≤ b := by
  rw [Int32.le_iff_toInt_le, pzN_toInt ha, pzN_toInt hb]; omega
set_option maxRecDepth 10000 in
theorem pzN_lt {a b : Nat} (ha : a < 2147483648) (hb : b < 2147483648) : (pzN a < pzN b) ↔ a < b := by
  rw [Int32.lt_iff_toInt_lt, pzN_toInt ha, pzN_toInt hb]; omega
set_option maxRecDepth 10000 in
theorem pzN_inj {a b : Nat} (ha : a < 2147483648) (hb : b < 2147483648) : (pzN a = pzN b) ↔ a = b := by
  rw [← Int32.toInt_inj, pzN_toInt ha, pzN_toInt hb]; omega
set_option maxRecDepth 10000 in
theorem pzN_of {x : Int32} (h : 0 ≤ x) : x = pzN x.toNatClampNeg ∧ x.toNatClampNeg < 2147483648 := by
  have h1 : (0 : Int) ≤ x.toInt := by
    rw [Int32.le_iff_toInt_le] at h
    exact h
  have h2 := Int32.toInt_lt x
  have h4 : x.toNatClampNeg = x.toInt.toNat := rfl
  have h3 : x.toNatClampNeg < 2147483648 := by rw [h4]; omega
  refine ⟨?_, h3⟩
  rw [← Int32.toInt_inj, pzN_toInt h3, h4]
  omega
set_option maxRecDepth 10000 in
theorem pzN_gd {a n : Nat} (ha : a < 2147483648) : gd (pzN a) n ↔ a < n := by
  unfold gd
  rw [pzN_clamp ha]
  have : ¬ (pzN a < 0) := by
    rw [show (0 : Int32) = pzN 0 from rfl, pzN_lt ha (by omega)]; omega
  constructor
  · intro h; have := fun x => h (Or.inr x); omega
  · intro h hh; rcases hh with hh | hh
    · exact this hh
    · omega
set_option maxRecDepth 10000 in
theorem pzN_div {a b : Nat} (ha : a < 2147483648) (hb : b < 2147483648) : pzN a / pzN b = pzN (a / b) := by
  rw [← Int32.toInt_inj, Int32.toInt_div, pzN_toInt ha, pzN_toInt hb, pzN_toInt (Nat.lt_of_le_of_lt (Nat.div_le_self a b) ha)]
  have h0 := Nat.div_le_self a b
  have e : (a : Int).tdiv (b : Int) = ((a / b : Nat) : Int) := (Int.ofNat_tdiv a b).symm
  rw [e]
  generalize a / b = q at h0
  exact Int.bmod_eq_of_le (by omega) (by omega)
set_option maxRecDepth 10000 in
theorem pzN_jrem {a b : Nat} (ha : a < 2147483648) (hb : b < 2147483648) : jrem (pzN a) (pzN b) = pzN (a % b) := by
  unfold jrem
  rw [pzN_div ha hb, pzN_mul, pzN_sub (Nat.div_mul_le_self a b)]
  congr 1
  have := Nat.mod_add_div a b
  rw [Nat.mul_comm] at this
  omega
set_option maxRecDepth 10000 in
theorem pz_neg_lt {x : Int32} (h : x < 0) : ¬ (0 ≤ x) := by
  rw [Int32.lt_iff_toInt_lt] at h; rw [Int32.le_iff_toInt_le]; omega
set_option maxRecDepth 10000 in
theorem pz_not_neg {x : Int32} (h : ¬ x < 0) : 0 ≤ x := by
  rw [Int32.lt_iff_toInt_lt] at h; rw [Int32.le_iff_toInt_le]; omega
set_option maxRecDepth 10000 in
theorem pzN_not_neg {a : Nat} (ha : a < 2147483648) : (pzN a < 0) ↔ False := by
  rw [show (0 : Int32) = pzN 0 from rfl, pzN_lt ha (by omega)]; simp
/-- a counted loop -/
def pzI {σ : Type} (st : Nat → σ → σ) : Nat → Nat → σ → σ
  | _, 0, s => s
  | k, d + 1, s => pzI st (k + 1) d (st k s)
set_option maxRecDepth 10000 in
theorem pzI_inv {σ : Type} (st : Nat → σ → σ) (Inv : Nat → σ → Prop) (n : Nat) (hs : ∀ k s, k < n → Inv k s → Inv (k + 1) (st k s)) : ∀ d k s, k + d = n → Inv k s → Inv n (pzI st k d s)
  | 0, k, s, e, h => by have : k = n := by omega
                        subst this; exact h
  | d + 1, k, s, e, h => pzI_inv st Inv n hs d (k + 1) (st k s) (by omega) (hs k s (by omega) h)
set_option maxRecDepth 10000 in
theorem pz_cnt {σ R : Type} (L : Nat → Nat → σ → Option R) (Inv : Nat → σ → Prop) (n : Nat) (st : Nat → σ → σ) (ex : σ → Option R)
    (hs : ∀ k s, k < n → Inv k s → Inv (k + 1) (st k s))
    (h1 : ∀ f k s, k < n → Inv k s → L (f + 1) k s = L f (k + 1) (st k s)) (h2 : ∀ f s, Inv n s → L (f + 1) n s = ex s) :
    ∀ d k s f, k + d = n → d < f → Inv k s → L f k s = ex (pzI st k d s)
  | 0, k, s, f, e, hf, hI => by
    have e1 : k = n := by omega
    subst e1
    cases f with
    | zero => omega
    | succ f => exact h2 f s hI
  | d + 1, k, s, f, e, hf, hI => by
    cases f with
    | zero => omega
    | succ f =>
      rw [h1 f k s (by omega) hI]
      exact pz_cnt L Inv n st ex hs h1 h2 d (k + 1) (st k s) f (by omega) (by omega) (hs k s (by omega) hI)
set_option maxRecDepth 10000 in
theorem pzI_fold {σ : Type} (st : Nat → σ → σ) : ∀ d k s, pzI st k d s = (List.range' k d).foldl (fun s k => st k s) s
  | 0, k, s => rfl
  | d + 1, k, s => by
    rw [List.range'_succ]
    exact pzI_fold st d (k + 1) (st k s)
set_option maxRecDepth 10000 in
theorem pz_upd_eq (f : Nat → Int32) (k : Nat) (x : Int32) : upd f k x k = x := by simp [upd]
set_option maxRecDepth 10000 in
theorem pz_upd_ne (f : Nat → Int32) {k j : Nat} (x : Int32) (h : j ≠ k) : upd f k x j = f j := by simp [upd, h]
set_option maxRecDepth 10000 in
theorem pz_va_eq {α : Type} (f : Nat → α) (k : Nat) (x : α) : va_up f k x k = x := by simp [va_up]
set_option maxRecDepth 10000 in
theorem pz_va_ne {α : Type} (f : Nat → α) {k j : Nat} (x : α) (h : j ≠ k) : va_up f k x j = f j := by simp [va_up, h]
set_option maxRecDepth 10000 in
theorem pzN_bv (a : Nat) : (pzN a).toBitVec = BitVec.ofNat 32 a := Int32.toBitVec_ofNat'
set_option maxRecDepth 10000 in
theorem pzN_or (a b : Nat) : pzN a ||| pzN b = pzN (a ||| b) := by
  rw [← Int32.toBitVec_inj, Int32.toBitVec_or, pzN_bv, pzN_bv, pzN_bv, BitVec.ofNat_or]
set_option maxRecDepth 10000 in
theorem pzN_and (a b : Nat) : pzN a &&& pzN b = pzN (a &&& b) := by
  rw [← Int32.toBitVec_inj, Int32.toBitVec_and, pzN_bv, pzN_bv, pzN_bv, BitVec.ofNat_and]
set_option maxRecDepth 10000 in
theorem pzN_xor (a b : Nat) : pzN a ^^^ pzN b = pzN (a ^^^ b) := by
  rw [← Int32.toBitVec_inj, Int32.toBitVec_xor, pzN_bv, pzN_bv, pzN_bv, BitVec.ofNat_xor]
set_option maxRecDepth 10000 in
theorem pz_smod : ∀ i, i < 32 → ((pzN i &&& 31).toBitVec.smod 32).toNat = i := by decide +kernel
set_option maxRecDepth 10000 in
theorem pzN_shl (a : Nat) {i : Nat} (h : i < 32) : pzN a <<< (pzN i &&& 31) = pzN (a <<< i) := by
  rw [← Int32.toBitVec_inj, Int32.toBitVec_shiftLeft, pzN_bv a, pzN_bv (a <<< i), BitVec.shiftLeft_eq', pz_smod i h]
  apply BitVec.eq_of_toNat_eq
  simp only [BitVec.toNat_shiftLeft, BitVec.toNat_ofNat]
  rw [Nat.shiftLeft_eq, Nat.shiftLeft_eq, Nat.mod_mul_mod]
set_option maxRecDepth 10000 in
theorem pzN_shr {a : Nat} (ha : a < 2147483648) {i : Nat} (h : i < 32) : pzN a >>> (pzN i &&& 31) = pzN (a >>> i) := by
  rw [← Int32.toBitVec_inj, Int32.toBitVec_shiftRight, pzN_bv a, pzN_bv (a >>> i), BitVec.sshiftRight', pz_smod i h]
  have hm : (BitVec.ofNat 32 a).msb = false := by
    rw [BitVec.msb_eq_false_iff_two_mul_lt, BitVec.toNat_ofNat, Nat.mod_eq_of_lt (by omega)]
    omega
  rw [BitVec.sshiftRight_eq_of_msb_false hm]
  apply BitVec.eq_of_toNat_eq
  rw [BitVec.toNat_ushiftRight, BitVec.toNat_ofNat, BitVec.toNat_ofNat, Nat.mod_eq_of_lt (by omega), Nat.mod_eq_of_lt]
  exact Nat.lt_of_le_of_lt (Nat.shiftRight_le _ _) (by omega)
set_option maxRecDepth 10000 in
theorem pz_m1 : (-1 : Int32) = pzN 4294967295 := rfl
set_option maxRecDepth 10000 in
theorem pz_and1 (a i : Nat) : (a >>> i) &&& 1 = if a.testBit i then 1 else 0 := by
  rw [Nat.testBit, Nat.and_comm]
  have : 1 &&& (a >>> i) = 0 ∨ 1 &&& (a >>> i) = 1 := by
    rw [Nat.and_comm, Nat.and_one_is_mod]; omega
  rcases this with h | h <;> rw [h] <;> rfl
set_option maxRecDepth 10000 in
theorem pz_bit {a : Nat} (ha : a < 2147483648) {i : Nat} (h : i < 32) : (pzN a >>> (pzN i &&& 31)) &&& 1 = if a.testBit i then 1 else 0 := by
  rw [pzN_shr ha h, show (1 : Int32) = pzN 1 from rfl, pzN_and, pz_and1]
  by_cases hb : a.testBit i = true <;> simp only [hb] <;> rfl
set_option maxRecDepth 10000 in
theorem pz_isIn {s : Nat} (hs : s < 2147483648) {i : Nat} (h : i < 32) : fX4_isIn (pzN s) (pzN i) = if s.testBit i then 1 else 0 := by
  unfold fX4_isIn
  rw [pz_bit hs h]
  by_cases hb : s.testBit i = true <;> simp only [hb] <;> rfl
def pzH (i : Nat) : Nat := [0, 2, 3, 4, 5, 6, 7, 8, 9, 9, 10, 11, 13, 14, 15, 17, 18, 20, 21].getD i 0
def pzD (i : Nat) : Nat := [1, 2, 3, 3, 4, 5, 5, 5, 6, 7, 7, 7, 9, 9, 9, 11, 11, 13, 13].getD i 0
def pzP (s : Nat) : List Nat := (List.range 19).filter (fun i => s.testBit i)
set_option maxRecDepth 10000 in
theorem pz_fold_filter {α : Type} (g : Nat → α → α) (p : Nat → Bool) : ∀ (l : List Nat) (a : α), l.foldl (fun a i => if p i then g i a else a) a = (l.filter p).foldl (fun a i => g i a) a
  | [], a => rfl
  | x :: l, a => by
    rw [List.foldl_cons, pz_fold_filter g p l]
    by_cases h : p x = true
    · rw [List.filter_cons_of_pos h, List.foldl_cons, if_pos h]
    · rw [List.filter_cons_of_neg h, if_neg h]
set_option maxRecDepth 10000 in
theorem pz_I19 {α : Type} (g : Nat → α → α) (s : Nat) (a : α) : pzI (fun i a => if s.testBit i then g i a else a) 0 19 a = (pzP s).foldl (fun a i => g i a) a := by
  rw [pzI_fold, ← List.range_eq_range', pz_fold_filter g]
  rfl
set_option maxRecDepth 10000 in
theorem pzI_congr {α : Type} (f g : Nat → α → α) : ∀ d k a, (∀ i a, k ≤ i → i < k + d → f i a = g i a) → pzI f k d a = pzI g k d a
  | 0, _, _, _ => rfl
  | d + 1, k, a, h => by
    show pzI f (k + 1) d (f k a) = pzI g (k + 1) d (g k a)
    rw [h k a (by omega) (by omega)]
    exact pzI_congr f g d (k + 1) _ (fun i a h1 h2 => h i a (by omega) (by omega))
set_option maxRecDepth 10000 in
theorem pzI_shift {α : Type} (f : Nat → α → α) : ∀ d k a, pzI f (k + 1) d a = pzI (fun i => f (i + 1)) k d a
  | 0, _, _ => rfl
  | d + 1, k, a => pzI_shift f d (k + 1) _
set_option maxRecDepth 10000 in
theorem pzI_list {α : Type} (g : Nat → α → α) : ∀ (l : List Nat) (a : α), pzI (fun k a => g (l.getD k 0) a) 0 l.length a = l.foldl (fun a i => g i a) a
  | [], a => rfl
  | x :: l, a => by
    rw [List.foldl_cons, ← pzI_list g l]
    show pzI (fun k a => g ((x :: l).getD k 0) a) 1 l.length (g x a) = _
    rw [pzI_shift]
    rfl
set_option maxRecDepth 10000 in
theorem pzI_succ {α : Type} (f : Nat → α → α) : ∀ d k a, pzI f k (d + 1) a = f (k + d) (pzI f k d a)
  | 0, k, a => rfl
  | d + 1, k, a => by
    show pzI f (k + 1) (d + 1) (f k a) = _
    rw [pzI_succ f d (k + 1)]
    show f (k + 1 + d) _ = f (k + (d + 1)) (pzI f (k + 1) d (f k a))
    congr 1
    omega
set_option maxRecDepth 10000 in
theorem pzP_lt {s i : Nat} (h : i ∈ pzP s) : i < 19 := by
  unfold pzP at h
  rw [List.mem_filter, List.mem_range] at h
  exact h.1
set_option maxRecDepth 10000 in
theorem pzP_mem {s i : Nat} : i ∈ pzP s ↔ i < 19 ∧ s.testBit i = true := by
  unfold pzP
  rw [List.mem_filter, List.mem_range]
set_option maxRecDepth 10000 in
theorem pzP_getD {s k : Nat} (h : k < (pzP s).length) : (pzP s).getD k 0 ∈ pzP s := by
  rw [List.getD_eq_getElem?_getD, List.getElem?_eq_getElem h]
  exact List.getElem_mem h
set_option maxRecDepth 10000 in
theorem pzP_len (s : Nat) : (pzP s).length ≤ 19 := by
  have := List.length_filter_le (fun i => s.testBit i) (List.range 19)
  rw [List.length_range] at this
  exact this
set_option maxRecDepth 10000 in
theorem pz_lt19 {P : Nat → Prop} (h : ∀ i : Fin 19, P i.val) : ∀ i, i < 19 → P i := fun i hi => h ⟨i, hi⟩
def pzL (l : Nat) : Nat := [0, 2, 4, 5, 7, 9, 11].getD l 0
def pzPi (t : Nat) : Nat := (pzL (t / 5) + t % 5 + 10) % 12
def pzSg (t : Nat) : Int32 := pzN (t % 5) - 2
def pzM (b : Nat) : Nat := [73, 69, 1097, 2121, 1093, 37, 549, 1061, 137, 81, 67, 329, 325, 9289, 10313, 9285, 8265, 65, 1105, 2117].getD b 0
def pzOk (s : Nat) : Prop := s < 524288 ∧ ¬ (s.testBit 2 = true ∧ s.testBit 3 = true) ∧ ¬ (s.testBit 5 = true ∧ s.testBit 6 = true) ∧ ¬ (s.testBit 5 = true ∧ s.testBit 7 = true) ∧ ¬ (s.testBit 6 = true ∧ s.testBit 7 = true)
def pzRow (A : Nat → Nat → Int32) (p q at_ : Nat) (l : List Nat) : Prop := ∀ k, k < l.length → A p (at_ + k) = pzN (pzH (l.getD k 0)) ∧ A q (at_ + k) = pzN (pzD (l.getD k 0))
def pzC (A : Nat → Nat → Int32) (c t s b z : Nat) : Prop :=
  t < 35 ∧ b < 35 ∧ pzOk s ∧ z ≤ 1 ∧ A 2 (5 * c) = pzN (t / 5) ∧ A 2 (5 * c + 1) = pzSg t ∧ A 2 (5 * c + 2) = pzN (b / 5) ∧ A 2 (5 * c + 3) = pzSg b ∧ A 2 (5 * c + 4) = pzN z ∧ A 5 c = pzN (pzP s).length ∧ pzRow A 3 4 (16 * c) (pzP s)
def pzK (f : Nat → Int32) (t s b z : Nat) : Prop := f 0 = pzN t ∧ f 1 = pzN s ∧ f 2 = pzN b ∧ f 3 = pzN z
def pzB (A : Nat → Nat → Int32) : Prop := ∀ b, b < 20 → A 15 b = pzN (pzP (pzM b)).length ∧ pzRow A 13 14 (8 * b) (pzP (pzM b))
set_option maxRecDepth 10000 in
theorem pz_pitch : ∀ t, t < 35 → fX3_pitch (pzN t) = some (pzN (pzPi t)) := by decide +kernel
set_option maxRecDepth 10000 in
theorem pz_pitchM : ∀ t, t < 35 → fX9_mod12 (fX9_pitchOf (pzN (t / 5)) + pzSg t) = pzN (pzPi t) := by decide +kernel
set_option maxRecDepth 10000 in
theorem pzPi_lt (t : Nat) : pzPi t < 12 := Nat.mod_lt _ (by omega)
def pzS (t i : Nat) : Int32 := fX9_signsOf (pzN (t / 5)) (pzSg t) (pzN (pzH i)) (pzN (pzD i))
def pzW (t i : Nat) : Nat := (fX9_size (pzS t i)).toNatClampNeg
set_option maxRecDepth 10000 in
theorem pz_signs : ∀ t, t < 35 → ∀ i, i < 19 → fX4_signsAbove (pzN (t / 5)) (pzN (pzPi t)) (pzN i) = some (pzS t i) ∧ jabs (pzS t i) = pzN (pzW t i) ∧ fX9_size (pzS t i) = pzN (pzW t i) ∧ pzW t i ≤ 6 := by decide +kernel
set_option maxRecDepth 10000 in
theorem pz_step : ∀ t, t < 35 → ∀ i, i < 19 → fX4_letter (pzN t) (pzN i) = some (jrem ((pzN (t / 5) + pzN (pzD i)) - 1) 7) ∧ fX4_pitch (pzN t) (pzN i) = some (jrem (pzN (pzPi t) + pzN (pzH i)) 12) ∧ fX4_signs (pzN t) (pzN i) = some (pzS t i) := by decide +kernel
set_option maxRecDepth 10000 in
theorem pz_HD : ∀ i, i < 19 → fX4_halfTones (pzN i) = some (pzN (pzH i)) ∧ fX4_degree (pzN i) = some (pzN (pzD i)) ∧ pzH i ≤ 21 ∧ pzD i ≤ 13 ∧ 1 ≤ pzD i := by decide +kernel
set_option maxRecDepth 10000 in
theorem pz_nt : ∀ t, t < 35 → fX3_letter (pzN t) = pzN (t / 5) ∧ fX3_signs (pzN t) = pzSg t := by decide +kernel
def pzSz (t : Nat) : Nat := (fX9_size (pzSg t)).toNatClampNeg
set_option maxRecDepth 10000 in
theorem pz_sz : ∀ t, t < 35 → fX9_size (pzSg t) = pzN (pzSz t) ∧ jabs (pzSg t) = pzN (pzSz t) ∧ pzSz t ≤ 2 := by decide +kernel
set_option maxRecDepth 10000 in
theorem pz_len16 {s : Nat} (h : pzOk s) : (pzP s).length ≤ 16 := by
  obtain ⟨_, h1, h2, h3, h4⟩ := h
  have e : (pzP s).length = (List.range 19).countP (fun i => s.testBit i) := by
    unfold pzP; rw [List.countP_eq_length_filter]
  have e2 : List.range 19 = [0, 1, 2, 3, 4, 5, 6, 7, 8, 9, 10, 11, 12, 13, 14, 15, 16, 17, 18] := by decide
  rw [e, e2]
  simp only [List.countP_cons, List.countP_nil]
  have f : ∀ i, (if s.testBit i = true then 1 else 0) ≤ 1 := by intro i; split <;> omega
  have h23 : (if s.testBit 2 = true then 1 else 0) + (if s.testBit 3 = true then 1 else 0) ≤ 1 := by
    by_cases a : s.testBit 2 = true <;> by_cases b : s.testBit 3 = true <;> simp [a, b] <;> exact absurd ⟨a, b⟩ h1
  have h567 : (if s.testBit 5 = true then 1 else 0) + (if s.testBit 6 = true then 1 else 0) + (if s.testBit 7 = true then 1 else 0) ≤ 1 := by
    by_cases a : s.testBit 5 = true <;> by_cases b : s.testBit 6 = true <;> by_cases c : s.testBit 7 = true <;> simp [a, b, c] at * 
  have f0 := f 0
  have f1 := f 1
  have f4 := f 4
  have f8 := f 8
  have f9 := f 9
  have f10 := f 10
  have f11 := f 11
  have f12 := f 12
  have f13 := f 13
  have f14 := f 14
  have f15 := f 15
  have f16 := f 16
  have f17 := f 17
  have f18 := f 18
  omega
set_option maxRecDepth 10000 in
theorem pz_gd2 {a n : Nat} (ha : a < 2147483648) (h : a < n) {α : Type} (x y : α) : (if gd (pzN a) n then x else y) = x := if_pos ((pzN_gd ha).mpr h)
/-! the reference's small readers -/
set_option maxRecDepth 10000 in
theorem pz_root {A : Nat → Nat → Int32} {c t s b z : Nat} (B : Nat → Nat → Int64) (I : Nat → Int32) (hc : c < 100) (h : pzC A c t s b z) : fX9_rootOf B I A (pzN c) = some (pzN (pzPi t)) := by
  obtain ⟨ht, hb, hs, hz, a0, a1, a2, a3, a4, a5, ar⟩ := h
  unfold fX9_rootOf
  simp only [pz_lit, pzN_mul, pzN_add]
  rw [pz_gd2 (by omega) (by omega), pz_gd2 (by omega) (by omega), pzN_clamp (by omega), pzN_clamp (by omega), a0, a1, pz_pitchM t ht]
set_option maxRecDepth 10000 in
theorem pz_bass {A : Nat → Nat → Int32} {c t s b z : Nat} (B : Nat → Nat → Int64) (I : Nat → Int32) (hc : c < 100) (h : pzC A c t s b z) : fX9_bassOf B I A (pzN c) = some (pzN (pzPi b)) := by
  obtain ⟨ht, hb, hs, hz, a0, a1, a2, a3, a4, a5, ar⟩ := h
  unfold fX9_bassOf
  simp only [pz_lit, pzN_mul, pzN_add]
  rw [pz_gd2 (by omega) (by omega), pz_gd2 (by omega) (by omega), pzN_clamp (by omega), pzN_clamp (by omega), a2, a3, pz_pitchM b hb]
def pzSet (p s a : Nat) : Nat := (pzP s).foldl (fun a i => a ||| 1 <<< ((p + pzH i) % 12)) a
set_option maxRecDepth 10000 in
theorem pz_set {A : Nat → Nat → Int32} {c t s b z : Nat} (B : Nat → Nat → Int64) (I : Nat → Int32) (hc : c < 100) (h : pzC A c t s b z) : fX9_setOf B I A (pzN c) = some (pzN (pzSet (pzPi t) s (1 <<< pzPi b))) := by
  have hr := pz_root B I hc h
  have hb' := pz_bass B I hc h
  obtain ⟨ht, hb, hs, hz, a0, a1, a2, a3, a4, a5, ar⟩ := h
  have hl := pz_len16 hs
  unfold fX9_setOf
  rw [hb', Option.bind_some, pz_lit, pzN_shl _ (by have := pzPi_lt b; omega)]
  have e := pz_cnt (fun f k (a : Nat) => fX9_setOf_10 B I A f (pzN c) (pzN a) (pzN k)) (fun _ _ => True) (pzP s).length (fun k a => a ||| 1 <<< ((pzPi t + pzH ((pzP s).getD k 0)) % 12)) (fun a => some (pzN a)) (fun _ _ _ _ => trivial) ?_ ?_ (pzP s).length 0 (1 <<< pzPi b) FU (by omega) (by unfold FU; omega) trivial
  · have e2 := pzI_list (fun i a => a ||| 1 <<< ((pzPi t + pzH i) % 12)) (pzP s) (1 <<< pzPi b)
    rw [e2] at e
    exact e
  · intro f k a hk _
    have hi := pzP_lt (pzP_getD hk)
    obtain ⟨_, _, hH, hD, _⟩ := pz_HD _ hi
    have hp := pzPi_lt t
    have hm : (pzPi t + pzH ((pzP s).getD k 0)) % 12 < 12 := Nat.mod_lt _ (by omega)
    show fX9_setOf_10B B I A (fX9_setOf_10 B I A f) (pzN c) (pzN a) (pzN k) = _
    unfold fX9_setOf_10B
    rw [pz_gd2 (by omega) (by omega), pzN_clamp (by omega), a5, if_neg (by rw [pzN_le (by omega) (by omega)]; omega), hr, Option.bind_some]
    simp only [pz_lit, pzN_mul, pzN_add]
    rw [pz_gd2 (by omega) (by omega), pzN_clamp (by omega), (ar k hk).1, pzN_add, pzN_jrem (by omega) (by omega)]
    have := pzN_shl 1 (i := (pzPi t + pzH ((pzP s).getD k 0)) % 12) (by omega)
    rw [show (31 : Int32) = pzN 31 from rfl] at this
    rw [this, pzN_or]
  · intro f a _
    show fX9_setOf_10B B I A (fX9_setOf_10 B I A f) (pzN c) (pzN a) (pzN (pzP s).length) = _
    unfold fX9_setOf_10B
    rw [pz_gd2 (by omega) (by omega), pzN_clamp (by omega), a5, if_pos (by rw [pzN_le (by omega) (by omega)]; omega)]
def pzWt (t s a : Nat) : Nat := (pzP s).foldl (fun a i => a + pzW t i) a
set_option maxRecDepth 10000 in
theorem pz_weight {A : Nat → Nat → Int32} {c t s b z : Nat} (B : Nat → Nat → Int64) (I : Nat → Int32) (hc : c < 100) (h : pzC A c t s b z) {u : Nat} (hu : u < 35) : fX9_stepsWeight B I A (pzN c) (pzN (u / 5)) (pzSg u) = some (pzN (pzWt u s 0)) := by
  obtain ⟨ht, hb, hs, hz, a0, a1, a2, a3, a4, a5, ar⟩ := h
  have hl := pz_len16 hs
  unfold fX9_stepsWeight
  have e := pz_cnt (fun f k (a : Nat) => fX9_stepsWeight_6 B I A f (pzN c) (pzN (u / 5)) (pzSg u) (pzN a) (pzN k)) (fun _ _ => True) (pzP s).length (fun k a => a + pzW u ((pzP s).getD k 0)) (fun a => some (pzN a)) (fun _ _ _ _ => trivial) ?_ ?_ (pzP s).length 0 0 FU (by omega) (by unfold FU; omega) trivial
  · have e2 := pzI_list (fun i a => a + pzW u i) (pzP s) 0
    rw [e2] at e
    exact e
  · intro f k a hk _
    have hi := pzP_lt (pzP_getD hk)
    show fX9_stepsWeight_6B B I A (fX9_stepsWeight_6 B I A f) (pzN c) (pzN (u / 5)) (pzSg u) (pzN a) (pzN k) = _
    unfold fX9_stepsWeight_6B
    rw [pz_gd2 (by omega) (by omega), pzN_clamp (by omega), a5, if_neg (by rw [pzN_le (by omega) (by omega)]; omega)]
    simp only [pz_lit, pzN_mul, pzN_add]
    rw [pz_gd2 (by omega) (by omega), pz_gd2 (by omega) (by omega), pzN_clamp (by omega), (ar k hk).1, (ar k hk).2]
    have := (pz_signs u hu _ hi).2.2.1
    unfold pzS at this
    rw [this, pzN_add]
  · intro f a _
    show fX9_stepsWeight_6B B I A (fX9_stepsWeight_6 B I A f) (pzN c) (pzN (u / 5)) (pzSg u) (pzN a) (pzN (pzP s).length) = _
    unfold fX9_stepsWeight_6B
    rw [pz_gd2 (by omega) (by omega), pzN_clamp (by omega), a5, if_pos (by rw [pzN_le (by omega) (by omega)]; omega)]
/-! the class's -/
set_option maxRecDepth 10000 in
theorem pz_cset {p s : Nat} (hp : p < 12) (hs : s < 524288) : fX4_set (pzN p) (pzN s) = some (pzN (pzSet p s 0)) := by
  unfold fX4_set
  have e := pz_cnt (fun f k (a : Nat) => fX4_set_4 f (pzN p) (pzN s) (pzN a) (pzN k)) (fun _ _ => True) 19 (fun k a => if s.testBit k then a ||| 1 <<< ((p + pzH k) % 12) else a) (fun a => some (pzN a)) (fun _ _ _ _ => trivial) ?_ ?_ 19 0 0 FU (by omega) (by unfold FU; omega) trivial
  · rw [pz_I19 (fun i a => a ||| 1 <<< ((p + pzH i) % 12))] at e
    exact e
  · intro f k a hk _
    obtain ⟨hH1, _, hH, hD, _⟩ := pz_HD k hk
    show fX4_set_4B (fX4_set_4 f) (pzN p) (pzN s) (pzN a) (pzN k) = _
    unfold fX4_set_4B
    rw [if_neg (by rw [show (19 : Int32) = pzN 19 from rfl, pzN_le (by omega) (by omega)]; omega), pz_isIn (by omega) (by omega)]
    by_cases hb : s.testBit k = true
    · simp only [hb, if_true]
      rw [if_neg (by decide), hH1, Option.bind_some]
      simp only [pz_lit, pzN_add]
      rw [pzN_jrem (by omega) (by omega)]
      have hm : (p + pzH k) % 12 < 12 := Nat.mod_lt _ (by omega)
      have := pzN_shl 1 (i := (p + pzH k) % 12) (by omega)
      rw [show (31 : Int32) = pzN 31 from rfl] at this
      rw [this, pzN_or]
    · simp only [hb]
      rw [if_pos (by decide), pz_lit, pzN_add]
      rfl
  · intro f a _
    show fX4_set_4B (fX4_set_4 f) (pzN p) (pzN s) (pzN a) (pzN 19) = _
    unfold fX4_set_4B
    rw [if_pos (by decide)]
set_option maxRecDepth 10000 in
theorem pz_cweight {t s b : Nat} (ht : t < 35) (hb : b < 35) (hs : s < 524288) : fX4_weight (pzN t) (pzN s) (pzN b) = some (pzN (pzWt t s (pzSz b))) := by
  unfold fX4_weight
  rw [pz_pitch t ht, Option.bind_some, (pz_nt t ht).1, (pz_nt b hb).2, (pz_sz b hb).2.1]
  have e := pz_cnt (fun f k (a : Nat) => fX4_weight_23 f (pzN s) (pzN (t / 5)) (pzN (pzPi t)) (pzN a) (pzN k)) (fun _ _ => True) 19 (fun k a => if s.testBit k then a + pzW t k else a) (fun a => some (pzN a)) (fun _ _ _ _ => trivial) ?_ ?_ 19 0 (pzSz b) FU (by omega) (by unfold FU; omega) trivial
  · rw [pz_I19 (fun i a => a + pzW t i)] at e
    exact e
  · intro f k a hk _
    show fX4_weight_23B (fX4_weight_23 f) (pzN s) (pzN (t / 5)) (pzN (pzPi t)) (pzN a) (pzN k) = _
    unfold fX4_weight_23B
    rw [if_neg (by rw [show (19 : Int32) = pzN 19 from rfl, pzN_le (by omega) (by omega)]; omega), pz_isIn (by omega) (by omega)]
    by_cases hb : s.testBit k = true
    · simp only [hb, if_true]
      rw [if_neg (by decide), (pz_signs t ht k hk).1, Option.bind_some, (pz_signs t ht k hk).2.1]
      simp only [pz_lit, pzN_add]
    · simp only [hb]
      rw [if_pos (by decide), pz_lit, pzN_add]
      rfl
  · intro f a _
    show fX4_weight_23B (fX4_weight_23 f) (pzN s) (pzN (t / 5)) (pzN (pzPi t)) (pzN a) (pzN 19) = _
    unfold fX4_weight_23B
    rw [if_pos (by decide)]
set_option maxRecDepth 10000 in
theorem pz_fold_or (h : Nat → Nat) : ∀ (l : List Nat) (a : Nat), l.foldl (fun a i => a ||| h i) a = l.foldl (fun a i => a ||| h i) 0 ||| a
  | [], a => by simp
  | x :: l, a => by
    rw [List.foldl_cons, List.foldl_cons, pz_fold_or h l, pz_fold_or h l (0 ||| h x), Nat.zero_or, Nat.or_assoc]
    congr 1
    exact Nat.or_comm _ _
set_option maxRecDepth 10000 in
theorem pz_fold_add (h : Nat → Nat) : ∀ (l : List Nat) (a : Nat), l.foldl (fun a i => a + h i) a = l.foldl (fun a i => a + h i) 0 + a
  | [], a => by simp
  | x :: l, a => by
    rw [List.foldl_cons, List.foldl_cons, pz_fold_add h l, pz_fold_add h l (0 + h x)]
    omega
set_option maxRecDepth 10000 in
theorem pzSet_or (p s a : Nat) : pzSet p s a = pzSet p s 0 ||| a := pz_fold_or _ _ a
set_option maxRecDepth 10000 in
theorem pzWt_add (t s a : Nat) : pzWt t s a = pzWt t s 0 + a := pz_fold_add _ _ a
set_option maxRecDepth 10000 in
theorem pz_cpitches {f : Nat → Int32} {t s b z : Nat} (ht : t < 35) (hb : b < 35) (hs : s < 524288) (h : pzK f t s b z) : fX1_pitches f = some (pzN (pzSet (pzPi t) s (1 <<< pzPi b))) := by
  obtain ⟨f0, f1, f2, f3⟩ := h
  unfold fX1_pitches
  have hp := pzPi_lt b
  rw [f0, f1, f2, pz_pitch t ht, Option.bind_some, pz_cset (pzPi_lt t) hs, Option.bind_some, pz_pitch b hb, Option.bind_some, show (1 : Int32) = pzN 1 from rfl, pzN_shl 1 (by omega), pzN_or, pzSet_or _ _ (1 <<< pzPi b)]
set_option maxRecDepth 10000 in
theorem pz_tb {a : Nat} (b : Nat) (ha : a < 256) (j : Nat) : (256 * b + a).testBit j = if j < 8 then a.testBit j else b.testBit (j - 8) := by
  have := Nat.testBit_two_pow_mul_add b (i := 8) (b := a) (by omega) j
  simpa using this
set_option maxRecDepth 10000 in
theorem pz_and_split {a m : Nat} (b M : Nat) (ha : a < 256) (hm : m < 256) : (256 * b + a) &&& (256 * M + m) = 256 * (b &&& M) + (a &&& m) := by
  apply Nat.eq_of_testBit_eq
  intro j
  have h1 : a &&& m < 256 := Nat.lt_of_le_of_lt Nat.and_le_left ha
  rw [Nat.testBit_and, pz_tb b ha, pz_tb M hm, pz_tb _ h1]
  by_cases hj : j < 8
  · simp only [hj, if_true, Nat.testBit_and]
  · simp only [hj, if_false, Nat.testBit_and]
set_option maxRecDepth 10000 in
theorem pz_shr_split {a m r : Nat} (b M : Nat) (hr : r ≤ 8) (ha : a < 256) (hm : m < 2 ^ (8 - r)) : ((256 * b + a) >>> r) &&& (256 * M + m) = 256 * ((b >>> r) &&& M) + ((a >>> r) &&& m) := by
  apply Nat.eq_of_testBit_eq
  intro j
  have hm2 : m < 256 := Nat.lt_of_lt_of_le hm (by have := Nat.pow_le_pow_right (n := 2) (by omega) (Nat.sub_le 8 r); exact this)
  have h1 : (a >>> r) &&& m < 256 := Nat.lt_of_le_of_lt Nat.and_le_right hm2
  rw [Nat.testBit_and, Nat.testBit_shiftRight, pz_tb b ha, pz_tb M hm2, pz_tb _ h1]
  by_cases hj : j < 8
  · simp only [hj, if_true, Nat.testBit_and, Nat.testBit_shiftRight]
    by_cases h : r + j < 8
    · simp only [h, if_true]
    · have : m.testBit j = false := Nat.testBit_lt_two_pow (Nat.lt_of_lt_of_le hm (Nat.pow_le_pow_right (by omega) (by omega)))
      rw [this, Bool.and_false, Bool.and_false]
  · have h : ¬ r + j < 8 := by omega
    simp only [hj, h, if_false, Nat.testBit_and, Nat.testBit_shiftRight]
    congr 2
    omega
def pzc1 (M x : Nat) : Nat := x - ((x >>> 1) &&& M)
def pzc2 (M x : Nat) : Nat := (x &&& M) + ((x >>> 2) &&& M)
def pzc3 (M x : Nat) : Nat := (x + (x >>> 4)) &&& M
def pzc5 (x : Nat) : Nat := ((x + (x >>> 8)) + ((x + (x >>> 8)) >>> 16)) &&& 63
set_option maxRecDepth 10000 in
theorem pzc1_le (M x : Nat) : (x >>> 1) &&& M ≤ x := Nat.le_trans Nat.and_le_left (Nat.shiftRight_le x 1)
set_option maxRecDepth 10000 in
theorem pzc1_split {a b : Nat} (ha : a < 256) : pzc1 1431655765 (256 * b + a) = 256 * pzc1 5592405 b + pzc1 85 a := by
  unfold pzc1
  have h := pz_shr_split (a := a) (m := 85) (r := 1) b 5592405 (by omega) ha (by decide)
  have e : 256 * 5592405 + 85 = 1431655765 := by decide
  rw [e] at h
  rw [h]
  have h1 := pzc1_le 85 a
  have h2 := pzc1_le 5592405 b
  omega
set_option maxRecDepth 10000 in
theorem pzc2_split {a b : Nat} (ha : a < 256) : pzc2 858993459 (256 * b + a) = 256 * pzc2 3355443 b + pzc2 51 a := by
  unfold pzc2
  have h := pz_shr_split (a := a) (m := 51) (r := 2) b 3355443 (by omega) ha (by decide)
  have h2 := pz_and_split (a := a) (m := 51) b 3355443 ha (by decide)
  have e : 256 * 3355443 + 51 = 858993459 := by decide
  rw [e] at h h2
  rw [h, h2]
  omega
set_option maxRecDepth 10000 in
theorem pzc3_split {a b : Nat} (ha : a ≤ 68) (hb : b % 16 ≤ 4) : pzc3 252645135 (256 * b + a) = 256 * pzc3 986895 b + pzc3 15 a := by
  unfold pzc3
  have e : 256 * 986895 + 15 = 252645135 := by decide
  have e2 : 256 * b + a + ((256 * b + a) >>> 4) = 256 * (b + (b >>> 4)) + (a + (a >>> 4) + 16 * (b % 16)) := by
    simp only [Nat.shiftRight_eq_div_pow]
    omega
  have h3 : a >>> 4 ≤ 4 := by rw [Nat.shiftRight_eq_div_pow]; omega
  rw [e2, ← e, pz_and_split _ _ (by omega) (by decide)]
  congr 1
  have f : ∀ x, x &&& 15 = x % 16 := fun x => Nat.and_two_pow_sub_one_eq_mod x 4
  rw [f, f]
  omega
def pzpc (n s : Nat) : Nat := (List.range n).countP (fun i => s.testBit i)
set_option maxRecDepth 10000 in
theorem pz_byte : ∀ a, a < 256 → pzc1 85 a < 256 ∧ pzc2 51 (pzc1 85 a) ≤ 68 ∧ pzc3 15 (pzc2 51 (pzc1 85 a)) = pzpc 8 a ∧ pzpc 8 a ≤ 8 := by decide +kernel
set_option maxRecDepth 10000 in
theorem pz_byte2 : ∀ b, b < 2048 → pzc2 3355443 (pzc1 5592405 b) % 16 ≤ 4 ∧ pzc3 986895 (pzc2 3355443 (pzc1 5592405 b)) = pzpc 8 (b % 256) + 256 * pzpc 3 (b / 256) ∧ pzpc 8 (b % 256) ≤ 8 ∧ pzpc 3 (b / 256) ≤ 3 ∧ pzpc 8 (b % 256) + pzpc 3 (b / 256) = pzpc 11 b := by decide +kernel
set_option maxRecDepth 10000 in
theorem pz_fin : ∀ n, n < 9 → ∀ p, p < 9 → ∀ q, q < 4 → pzc5 (256 * (p + 256 * q) + n) = n + (p + q) := by decide +kernel
set_option maxRecDepth 10000 in
theorem pz_bc {s : Nat} (hs : s < 524288) : pzc5 (pzc3 252645135 (pzc2 858993459 (pzc1 1431655765 s))) = (pzP s).length := by
  have ea : s % 256 < 256 := Nat.mod_lt _ (by omega)
  have eb : s / 256 < 2048 := by omega
  have es : s = 256 * (s / 256) + s % 256 := by omega
  have e : (pzP s).length = pzpc 19 s := by
    unfold pzP pzpc; rw [List.countP_eq_length_filter]
  generalize s % 256 = a at *
  generalize s / 256 = b at *
  subst es
  obtain ⟨a1, a2, a3, a4⟩ := pz_byte a ea
  obtain ⟨b1, b2, b3, b4, b5⟩ := pz_byte2 b eb
  rw [e, pzc1_split ea, pzc2_split a1, pzc3_split a2 b1, a3, b2, pz_fin _ (by omega) _ (by omega) _ (by omega), b5]
  unfold pzpc
  have r19 : List.range 19 = [0, 1, 2, 3, 4, 5, 6, 7, 8, 9, 10, 11, 12, 13, 14, 15, 16, 17, 18] := by decide
  have r8 : List.range 8 = [0, 1, 2, 3, 4, 5, 6, 7] := by decide
  have r11 : List.range 11 = [0, 1, 2, 3, 4, 5, 6, 7, 8, 9, 10] := by decide
  rw [r19, r8, r11]
  simp only [List.countP_cons, List.countP_nil, pz_tb b ea]
  simp
  omega
set_option maxRecDepth 10000 in
theorem pzN_ushr {a : Nat} (ha : a < 2147483648) (i : Nat) (hi : i < 32) : (((pzN a).toUInt32 >>> ((pzN i).toUInt32 &&& Int32.toUInt32 31)).toInt32) = pzN (a >>> i) := by
  rw [← Int32.toBitVec_inj]
  show ((pzN a).toUInt32 >>> ((pzN i).toUInt32 &&& Int32.toUInt32 31)).toBitVec = _
  rw [UInt32.toBitVec_shiftRight, UInt32.toBitVec_and]
  show (pzN a).toBitVec >>> (((pzN i).toBitVec &&& (31 : Int32).toBitVec) % 32) = _
  have hm : (((pzN i).toBitVec &&& (31 : Int32).toBitVec) % 32).toNat = i := by
    have : ∀ i, i < 32 → (((pzN i).toBitVec &&& (31 : Int32).toBitVec) % 32).toNat = i := by decide +kernel
    exact this i hi
  rw [BitVec.ushiftRight_eq', hm, pzN_bv, pzN_bv]
  apply BitVec.eq_of_toNat_eq
  rw [BitVec.toNat_ushiftRight, BitVec.toNat_ofNat, BitVec.toNat_ofNat, Nat.mod_eq_of_lt (by omega), Nat.mod_eq_of_lt]
  exact Nat.lt_of_le_of_lt (Nat.shiftRight_le _ _) (by omega)
set_option maxRecDepth 10000 in
theorem pz_bitCount {s : Nat} (hs : s < 524288) : fJ6_bitCount_0f7a4 (pzN s) = pzN (pzP s).length := by
  rw [← pz_bc hs]
  have l1 : pzc1 1431655765 s ≤ s := Nat.sub_le _ _
  have e1 : pzN s - ((((pzN s).toUInt32 >>> ((1 : Int32).toUInt32 &&& Int32.toUInt32 31)).toInt32) &&& (1431655765 : Int32)) = pzN (pzc1 1431655765 s) := by
    have := pzN_ushr (a := s) (by omega) 1 (by omega)
    rw [show (1 : Int32) = pzN 1 from rfl, this, show (1431655765 : Int32) = pzN 1431655765 from rfl, pzN_and, pzN_sub (pzc1_le _ _)]
    rfl
  generalize pzc1 1431655765 s = y at *
  have l2 : pzc2 858993459 y ≤ 2 * y := by
    unfold pzc2
    have h1 : y &&& 858993459 ≤ y := Nat.and_le_left
    have h2 : (y >>> 2) &&& 858993459 ≤ y := Nat.le_trans Nat.and_le_left (Nat.shiftRight_le _ _)
    omega
  have e2 : (pzN y &&& (858993459 : Int32)) + ((((pzN y).toUInt32 >>> ((2 : Int32).toUInt32 &&& Int32.toUInt32 31)).toInt32) &&& (858993459 : Int32)) = pzN (pzc2 858993459 y) := by
    have := pzN_ushr (a := y) (by omega) 2 (by omega)
    rw [show (2 : Int32) = pzN 2 from rfl, this, show (858993459 : Int32) = pzN 858993459 from rfl, pzN_and, pzN_and, pzN_add]
    rfl
  unfold fJ6_bitCount_0f7a4
  rw [e1, e2]
  generalize pzc2 858993459 y = v at *
  have l3 : pzc3 252645135 v ≤ 2 * v := by
    unfold pzc3
    have h1 : (v + (v >>> 4)) &&& 252645135 ≤ v + (v >>> 4) := Nat.and_le_left
    have h2 : v >>> 4 ≤ v := Nat.shiftRight_le _ _
    omega
  have e3 : (pzN v + (((pzN v).toUInt32 >>> ((4 : Int32).toUInt32 &&& Int32.toUInt32 31)).toInt32)) &&& (252645135 : Int32) = pzN (pzc3 252645135 v) := by
    have := pzN_ushr (a := v) (by omega) 4 (by omega)
    rw [show (4 : Int32) = pzN 4 from rfl, this, show (252645135 : Int32) = pzN 252645135 from rfl, pzN_add, pzN_and]
    rfl
  rw [e3]
  generalize pzc3 252645135 v = w at *
  have hw : w >>> 8 ≤ w := Nat.shiftRight_le _ _
  have e4 := pzN_ushr (a := w) (by omega) 8 (by omega)
  rw [show pzN 8 = (8 : Int32) from rfl] at e4
  rw [e4, pzN_add]
  have e5 := pzN_ushr (a := w + w >>> 8) (by omega) 16 (by omega)
  rw [show pzN 16 = (16 : Int32) from rfl] at e5
  rw [e5, pzN_add, show (63 : Int32) = pzN 63 from rfl, pzN_and]
  rfl
def pzF (p : Nat → Bool) : Nat → Nat → Nat
  | 0, k => k
  | d + 1, k => if p k then k else pzF p d (k + 1)
set_option maxRecDepth 10000 in
theorem pzF_spec (p : Nat → Bool) : ∀ d k, k ≤ pzF p d k ∧ pzF p d k ≤ k + d ∧ (pzF p d k < k + d → p (pzF p d k) = true) ∧ ∀ j, k ≤ j → j < pzF p d k → p j = false
  | 0, k => ⟨Nat.le_refl _, Nat.le_refl _, fun h => absurd h (Nat.lt_irrefl _), fun j h1 h2 => by simp only [pzF] at h2; omega⟩
  | d + 1, k => by
    unfold pzF
    by_cases h : p k = true
    · rw [if_pos h]
      exact ⟨Nat.le_refl _, by omega, fun _ => h, fun j h1 h2 => by omega⟩
    · rw [if_neg h]
      obtain ⟨h1, h2, h3, h4⟩ := pzF_spec p d (k + 1)
      refine ⟨by omega, by omega, fun h => h3 (by omega), fun j g1 g2 => ?_⟩
      by_cases e : j = k
      · subst e; simpa using h
      · exact h4 j (by omega) g2
set_option maxRecDepth 10000 in
theorem pz_find {R : Type} (L : Nat → Nat → Option R) (p : Nat → Bool) (n : Nat) (hit : Nat → Option R) (miss : Option R)
    (h1 : ∀ f k, k < n → p k = true → L (f + 1) k = hit k) (h2 : ∀ f k, k < n → p k = false → L (f + 1) k = L f (k + 1)) (h3 : ∀ f, L (f + 1) n = miss) :
    ∀ d k f, k + d = n → d < f → L f k = if pzF p d k < n then hit (pzF p d k) else miss
  | 0, k, f, e, hf => by
    have e1 : k = n := by omega
    subst e1
    cases f with
    | zero => omega
    | succ f => rw [h3 f]; simp [pzF]
  | d + 1, k, f, e, hf => by
    cases f with
    | zero => omega
    | succ f =>
      unfold pzF
      by_cases h : p k = true
      · rw [h1 f k (by omega) h, if_pos h, if_pos (by omega)]
      · rw [h2 f k (by omega) (by simpa using h), pz_find L p n hit miss h1 h2 h3 d (k + 1) f (by omega) (by omega), if_neg h]
set_option maxRecDepth 10000 in
theorem pzP_inj {a b : Nat} (ha : a < 524288) (hb : b < 524288) (h : pzP a = pzP b) : a = b := by
  apply Nat.eq_of_testBit_eq
  intro j
  by_cases hj : j < 19
  · have h1 : j ∈ pzP a ↔ j ∈ pzP b := by rw [h]
    rw [pzP_mem, pzP_mem] at h1
    have h2 : a.testBit j = true ↔ b.testBit j = true := ⟨fun h => (h1.mp ⟨hj, h⟩).2, fun h => (h1.mpr ⟨hj, h⟩).2⟩
    by_cases hh : a.testBit j = true
    · rw [hh, h2.mp hh]
    · have : ¬ b.testBit j = true := fun x => hh (h2.mpr x)
      simp only [Bool.not_eq_true] at hh this
      rw [hh, this]
  · have hp : 2 ^ 19 ≤ 2 ^ j := Nat.pow_le_pow_right (by omega) (by omega)
    rw [Nat.testBit_lt_two_pow (Nat.lt_of_lt_of_le ha hp), Nat.testBit_lt_two_pow (Nat.lt_of_lt_of_le hb hp)]
set_option maxRecDepth 10000 in
theorem pz_HDinj : ∀ i, i < 19 → ∀ j, j < 19 → pzH i = pzH j → pzD i = pzD j → i = j := by decide +kernel
set_option maxRecDepth 10000 in
theorem pzM_lt : ∀ b, b < 20 → pzM b < 524288 ∧ (pzP (pzM b)).length ≤ 8 := by decide +kernel
set_option maxRecDepth 10000 in
theorem pz_getD_ext {a b : List Nat} (hl : a.length = b.length) (h : ∀ k, k < b.length → a.getD k 0 = b.getD k 0) : a = b := by
  apply List.ext_getElem hl
  intro k h1 h2
  have := h k h2
  rw [List.getD_eq_getElem?_getD, List.getD_eq_getElem?_getD, List.getElem?_eq_getElem h1, List.getElem?_eq_getElem h2] at this
  exact this
/-- the number of the body with these steps; 20: none -/
def pzBn (s : Nat) : Nat := pzF (fun b => pzM b == s) 20 0
set_option maxRecDepth 10000 in
theorem pzBn_le (s : Nat) : pzBn s ≤ 20 := by have := (pzF_spec (fun b => pzM b == s) 20 0).2.1; unfold pzBn; omega
set_option maxRecDepth 10000 in
theorem pz_withSteps {s : Nat} (hs : s < 524288) : fX0_withSteps (pzN s) = some (pzN (pzBn s)) := by
  unfold fX0_withSteps
  have e := pz_find (fun f k => fX0_withSteps_2 f (pzN s) (pzN k)) (fun b => pzM b == s) 20 (fun k => some (pzN k)) (some (pzN 20)) ?_ ?_ ?_ 20 0 FU (by omega) (by unfold FU; omega)
  · refine e.trans ?_
    have := pzBn_le s
    unfold pzBn at *
    by_cases h : pzF (fun b => pzM b == s) 20 0 < 20
    · rw [if_pos h]
    · rw [if_neg h]; congr 2; omega
  · intro f k hk hp
    have hM : ∀ k, k < 20 → fX8_entry (sN 0) (sF 0) (pzN k) = some (pzN (pzM k)) := by decide +kernel
    show fX0_withSteps_2B (fX0_withSteps_2 f) (pzN s) (pzN k) = _
    unfold fX0_withSteps_2B
    rw [if_neg (by rw [show (20 : Int32) = pzN 20 from rfl, pzN_le (by omega) (by omega)]; omega), hM k hk, Option.bind_some, if_pos]
    rw [show pzM k = s by simpa using hp]
  · intro f k hk hp
    have hM : ∀ k, k < 20 → fX8_entry (sN 0) (sF 0) (pzN k) = some (pzN (pzM k)) := by decide +kernel
    have hm := (pzM_lt k hk).1
    show fX0_withSteps_2B (fX0_withSteps_2 f) (pzN s) (pzN k) = _
    unfold fX0_withSteps_2B
    rw [if_neg (by rw [show (20 : Int32) = pzN 20 from rfl, pzN_le (by omega) (by omega)]; omega), hM k hk, Option.bind_some, if_neg, show (1 : Int32) = pzN 1 from rfl, pzN_add]
    rw [pzN_inj (by omega) (by omega)]
    simpa using hp
  · intro f
    show fX0_withSteps_2B (fX0_withSteps_2 f) (pzN s) (pzN 20) = _
    unfold fX0_withSteps_2B
    rw [if_pos (by decide)]
    rfl
set_option maxRecDepth 10000 in
/-- the reference's inner comparison -/
theorem pz_getD_get {l : List Nat} {k : Nat} (h : k < l.length) : l.getD k 0 = l[k] := by
  rw [List.getD_eq_getElem?_getD, List.getElem?_eq_getElem h]; rfl
set_option maxRecDepth 10000 in
theorem pz_bodyIn {A : Nat → Nat → Int32} {c : Nat} (B : Nat → Nat → Int64) (I : Nat → Int32) (hc : c < 100) (k2 : Int32 → Int32 → Option Int32) {l m : List Nat} {b : Nat} (hb : b < 20)
    (a5 : A 5 c = pzN l.length) (ar : pzRow A 3 4 (16 * c) l) (hl : l.length ≤ 16) (lp : ∀ i, i ∈ l → i < 19) (br : pzRow A 13 14 (8 * b) m) (mp : ∀ i, i ∈ m → i < 19) (hm : m.length ≤ 8) :
    ∀ d k f (v : Nat), v ≤ 1 → (v = 1 → m.length = l.length) → k + d = l.length → d < f → fX9_bodyOf_32 B I A k2 f (pzN c) (pzN b) (pzN v) (pzN k) = if v = 1 ∧ m.drop k = l.drop k then some (pzN b) else k2 (pzN c) (pzN (b + 1))
  | d, k, 0, v, _, _, _, hf => by omega
  | 0, k, f + 1, v, hv, hvl, e, hf => by
    show fX9_bodyOf_32B B I A k2 (fX9_bodyOf_32 B I A k2 f) (pzN c) (pzN b) (pzN v) (pzN k) = _
    unfold fX9_bodyOf_32B fX9_bodyOf_113
    rw [pz_gd2 (by omega) (by omega), pzN_clamp (by omega), a5, if_pos (by rw [pzN_le (by omega) (by omega)]; omega)]
    by_cases h : v = 0
    · subst h
      rw [if_pos (by rfl), if_neg (by omega), show (1 : Int32) = pzN 1 from rfl, pzN_add]
    · have : v = 1 := by omega
      subst this
      have h2 := hvl rfl
      rw [if_neg (by decide), if_pos]
      refine ⟨rfl, ?_⟩
      rw [List.drop_eq_nil_of_le (by omega), List.drop_eq_nil_of_le (by omega)]
  | d + 1, k, f + 1, v, hv, hvl, e, hf => by
    have ih := pz_bodyIn B I hc k2 hb a5 ar hl lp br mp hm d (k + 1) f
    show fX9_bodyOf_32B B I A k2 (fX9_bodyOf_32 B I A k2 f) (pzN c) (pzN b) (pzN v) (pzN k) = _
    unfold fX9_bodyOf_32B fX9_bodyOf_113
    rw [pz_gd2 (by omega) (by omega), pzN_clamp (by omega), a5, if_neg (by rw [pzN_le (by omega) (by omega)]; omega)]
    by_cases h : v = 0
    · subst h
      rw [if_pos (by rfl), if_pos (by rfl), if_neg (by omega), show (1 : Int32) = pzN 1 from rfl, pzN_add]
    · have hv1 : v = 1 := by omega
      subst hv1
      have hkl : k < l.length := by omega
      have hkm : k < m.length := by rw [hvl rfl]; omega
      rw [if_neg (by decide)]
      have hi : l.getD k 0 < 19 := lp _ (by rw [pz_getD_get hkl]; exact List.getElem_mem hkl)
      have hj : m.getD k 0 < 19 := mp _ (by rw [pz_getD_get hkm]; exact List.getElem_mem hkm)
      simp only [show (8 : Int32) = pzN 8 from rfl, show (16 : Int32) = pzN 16 from rfl, show (1 : Int32) = pzN 1 from rfl, show (0 : Int32) = pzN 0 from rfl, pzN_mul, pzN_add]
      rw [pz_gd2 (by omega) (by omega), pz_gd2 (by omega) (by omega), pz_gd2 (by omega) (by omega), pz_gd2 (by omega) (by omega), pzN_clamp (by omega), pzN_clamp (by omega), (ar k hkl).1, (ar k hkl).2, (br k hkm).1, (br k hkm).2]
      have b1 := (pz_HD _ hi).2.2
      have b2 := (pz_HD _ hj).2.2
      have key : m.drop k = l.drop k ↔ m.getD k 0 = l.getD k 0 ∧ m.drop (k + 1) = l.drop (k + 1) := by
        rw [List.drop_eq_getElem_cons hkl, List.drop_eq_getElem_cons hkm, pz_getD_get hkl, pz_getD_get hkm, List.cons.injEq]
      by_cases hH : pzH (m.getD k 0) = pzH (l.getD k 0)
      · rw [if_pos (by rw [hH])]
        by_cases hD : pzD (m.getD k 0) = pzD (l.getD k 0)
        · rw [if_pos (by rw [hD]), ih 1 (by omega) hvl (by omega) (by omega)]
          have e1 := pz_HDinj _ hj _ hi hH hD
          by_cases hc2 : m.drop k = l.drop k
          · rw [if_pos ⟨rfl, (key.mp hc2).2⟩, if_pos ⟨trivial, hc2⟩]
          · rw [if_neg (fun x => hc2 (key.mpr ⟨e1, x.2⟩)), if_neg (fun x => hc2 x.2)]
        · rw [if_neg (by rw [pzN_inj (by omega) (by omega)]; exact hD), ih 0 (by omega) (by omega) (by omega) (by omega), if_neg (by omega), if_neg (fun x => hD (by rw [(key.mp x.2).1]))]
      · rw [if_neg (by rw [pzN_inj (by omega) (by omega)]; exact hH), ih 0 (by omega) (by omega) (by omega) (by omega), if_neg (by omega), if_neg (fun x => hH (by rw [(key.mp x.2).1]))]
set_option maxRecDepth 10000 in
theorem pz_bodyOf {A : Nat → Nat → Int32} {c t s b z : Nat} (B : Nat → Nat → Int64) (I : Nat → Int32) (hc : c < 100) (h : pzC A c t s b z) (hB : pzB A) : fX9_bodyOf B I A (pzN c) = some (if pzBn s < 20 then pzN (pzBn s) else -2) := by
  obtain ⟨ht, hb, hs, hz, a0, a1, a2, a3, a4, a5, ar⟩ := h
  have hl := pz_len16 hs
  have hin : ∀ f k, k < 20 → fX9_bodyOf_2 B I A (f + 1) (pzN c) (pzN k) = if pzM k = s then some (pzN k) else fX9_bodyOf_2 B I A f (pzN c) (pzN (k + 1)) := by
    intro f k hk
    obtain ⟨b5, br⟩ := hB k hk
    obtain ⟨hm1, hm2⟩ := pzM_lt k hk
    have hI := pz_bodyIn B I hc (fX9_bodyOf_2 B I A f) hk a5 ar hl (fun i => pzP_lt) br (fun i => pzP_lt) hm2 (pzP s).length 0 FU
    show fX9_bodyOf_2B B I A (fX9_bodyOf_2 B I A f) (pzN c) (pzN k) = _
    unfold fX9_bodyOf_2B
    rw [if_neg (by rw [show (20 : Int32) = pzN 20 from rfl, pzN_le (by omega) (by omega)]; omega), pz_gd2 (by omega) (by omega), pz_gd2 (by omega) (by omega), pzN_clamp (by omega), pzN_clamp (by omega), a5, b5]
    by_cases hle : (pzP (pzM k)).length = (pzP s).length
    · rw [if_pos (by rw [hle])]
      refine (hI 1 (by omega) (fun _ => hle) (by omega) (by unfold FU; omega)).trans ?_
      by_cases hM : pzM k = s
      · rw [if_pos hM, if_pos ⟨rfl, by rw [hM]⟩]
      · rw [if_neg hM, if_neg]
        intro hh
        exact hM (pzP_inj hm1 hs.1 (by simpa using hh.2))
    · rw [if_neg (by rw [pzN_inj (by omega) (by omega)]; exact hle)]
      refine (hI 0 (by omega) (by omega) (by omega) (by unfold FU; omega)).trans ?_
      rw [if_neg (by omega), if_neg (fun hM => hle (by rw [hM]))]
  unfold fX9_bodyOf
  have e := pz_find (fun f k => fX9_bodyOf_2 B I A f (pzN c) (pzN k)) (fun b => pzM b == s) 20 (fun k => some (pzN k)) (some (-2)) ?_ ?_ ?_ 20 0 FU (by omega) (by unfold FU; omega)
  · refine e.trans ?_
    unfold pzBn
    by_cases h : pzF (fun b => pzM b == s) 20 0 < 20
    · rw [if_pos h, if_pos h]
    · rw [if_neg h, if_neg h]
  · intro f k hk hp
    show fX9_bodyOf_2 B I A (f + 1) (pzN c) (pzN k) = _
    rw [hin f k hk, if_pos (by simpa using hp)]
  · intro f k hk hp
    show fX9_bodyOf_2 B I A (f + 1) (pzN c) (pzN k) = _
    rw [hin f k hk, if_neg (by simpa using hp)]
  · intro f
    show fX9_bodyOf_2B B I A (fX9_bodyOf_2 B I A f) (pzN c) (pzN 20) = _
    unfold fX9_bodyOf_2B
    rw [if_pos (by decide)]
