/-! feed -/
def pzCb (v : Int64) (k : Nat) : Int32 := ((((v.toUInt64 >>> (((8 : Int32) * pzN k).toInt64.toUInt64 &&& Int64.toUInt64 63)).toInt64).toInt32) &&& (255 : Int32))
def pzRb (v : Int64) (k : Nat) : Int32 := vp_nar .byte (((v >>> (((8 : Int32) * pzN k).toInt64 &&& 63)).toInt32).toInt8.toInt32)
def pzG8 (v : Int64) (k : Nat) : Nat := (pzCb v k).toBitVec.toNat
set_option maxRecDepth 10000 in
theorem pz_sh1 : ∀ k, k < 8 → ((((8 : Int32) * pzN k).toInt64 &&& 63).toBitVec.smod 64).toNat = 8 * k := by decide +kernel
set_option maxRecDepth 10000 in
theorem pz_sh2 : ∀ k, k < 8 → ((((8 : Int32) * pzN k).toInt64.toUInt64 &&& Int64.toUInt64 63).toBitVec % 64).toNat = 8 * k := by decide +kernel
set_option maxRecDepth 10000 in
theorem pz_cb (v : Int64) (k : Nat) : pzCb v k = pzN (pzG8 v k) ∧ pzG8 v k < 256 := by
  constructor
  · rw [← Int32.toBitVec_inj, pzN_bv]
    unfold pzG8
    rw [BitVec.ofNat_toNat, BitVec.setWidth_eq]
  · unfold pzG8 pzCb
    rw [Int32.toBitVec_and, BitVec.toNat_and]
    have : (255 : Int32).toBitVec.toNat = 255 := rfl
    rw [this]
    have := Nat.and_le_right (n := (((v.toUInt64 >>> (((8 : Int32) * pzN k).toInt64.toUInt64 &&& Int64.toUInt64 63)).toInt64).toInt32).toBitVec.toNat) (m := 255)
    omega
set_option maxRecDepth 10000 in
theorem pz_rb (v : Int64) {k : Nat} (hk : k < 8) : pzRb v k = (pzN (pzG8 v k)).toInt8.toInt32 := by
  rw [← (pz_cb v k).1]
  unfold pzRb
  rw [show ∀ x : Int32, vp_nar .byte x = x.toInt8.toInt32 from fun _ => rfl, Int8.toInt8_toInt32]
  congr 1
  rw [← Int8.toBitVec_inj, Int32.toBitVec_toInt8, Int32.toBitVec_toInt8]
  unfold pzCb
  rw [Int32.toBitVec_and, Int64.toBitVec_toInt32, Int64.toBitVec_toInt32, Int64.toBitVec_shiftRight]
  show BitVec.signExtend 8 (BitVec.signExtend 32 (v.toBitVec.sshiftRight' _)) = BitVec.signExtend 8 (BitVec.signExtend 32 ((v.toUInt64 >>> (((8 : Int32) * pzN k).toInt64.toUInt64 &&& Int64.toUInt64 63)).toBitVec) &&& (255 : Int32).toBitVec)
  rw [UInt64.toBitVec_shiftRight, BitVec.sshiftRight', pz_sh1 k hk, BitVec.ushiftRight_eq', pz_sh2 k hk]
  apply BitVec.eq_of_getLsbD_eq
  intro i hi
  have h255 : ∀ i, i < 8 → (255 : Int32).toBitVec.getLsbD i = true := by decide +kernel
  simp only [BitVec.getLsbD_signExtend, BitVec.getLsbD_and, BitVec.getLsbD_sshiftRight, BitVec.getLsbD_ushiftRight]
  rw [h255 i hi]
  have e1 : i < 32 := by omega
  have e2 : i < 64 := by omega
  have e3 : 8 * k + i < 64 := by omega
  simp [hi, e1, e2, e3]
set_option maxRecDepth 10000 in
theorem pz_cfeed {n0 n : Nat} (v : Int64) (hn : n ≤ 8) (h40 : n0 + n ≤ 40) (I : Nat → Int32) (hI : I 1 = pzN n0) : ∀ d k f (A : Nat → Nat → Int32), k + d = n → d < f → (∀ j, j < k → A 0 (n0 + j) = pzN (pzG8 v j)) →
    ∃ A', fX5_add_33 f I A (pzN n) v (pzN k) = some (pzN (n0 + n), upd I 1 (pzN (n0 + n)), A') ∧ (∀ j, j < n → A' 0 (n0 + j) = pzN (pzG8 v j)) ∧ (∀ j, j < n0 → A' 0 j = A 0 j) ∧ ∀ j, j ≠ 0 → A' j = A j
  | d, k, 0, A, _, hf, _ => by omega
  | 0, k, f + 1, A, e, hf, hA => by
    have : k = n := by omega
    subst this
    show ∃ A', fX5_add_33B (fX5_add_33 f) I A (pzN k) v (pzN k) = _ ∧ _
    unfold fX5_add_33B
    rw [if_pos ((pzN_le (by omega) (by omega)).mpr (Nat.le_refl _)), hI, pzN_add]
    exact ⟨A, rfl, hA, fun _ _ => rfl, fun _ _ => rfl⟩
  | d + 1, k, f + 1, A, e, hf, hA => by
    show ∃ A', fX5_add_33B (fX5_add_33 f) I A (pzN n) v (pzN k) = _ ∧ _
    unfold fX5_add_33B
    have hb := (pz_cb v k).1
    unfold pzCb at hb
    rw [if_neg (by rw [pzN_le (by omega) (by omega)]; omega), hI, pzN_add, pz_gd2 (by omega) (by omega), pzN_clamp (by omega), hb, pzN_suc]
    obtain ⟨A', g1, g2, g3, g4⟩ := pz_cfeed v hn h40 I hI d (k + 1) f (va_up A 0 (upd (A 0) (n0 + k) (pzN (pzG8 v k)))) (by omega) (by omega) (by
      intro j hj
      rw [pz_va_eq]
      by_cases ej : j = k
      · subst ej; rw [pz_upd_eq]
      · rw [pz_upd_ne _ _ (by omega), hA j (by omega)])
    refine ⟨A', g1, g2, fun j hj => ?_, fun j hj => ?_⟩
    · rw [g3 j hj, pz_va_eq, pz_upd_ne _ _ (by omega)]
    · rw [g4 j hj, pz_va_ne _ _ hj]
set_option maxRecDepth 10000 in
theorem pz_mfeed {n0 n : Nat} (v : Int64) (hn : n ≤ 8) (h40 : n0 + n ≤ 40) : ∀ d k f (I : Nat → Int32) (A : Nat → Nat → Int32), k + d = n → d < f → I 1 = pzN (n0 + k) → (∀ j, j < k → A 0 (n0 + j) = (pzN (pzG8 v j)).toInt8.toInt32) →
    ∃ I' A', fX9_feed_29 BM f I A (pzN n) v (pzN k) = some (pzN (n0 + n), I', A') ∧ I' 1 = pzN (n0 + n) ∧ (∀ j, j ≠ 1 → I' j = I j) ∧ (∀ j, j < n → A' 0 (n0 + j) = (pzN (pzG8 v j)).toInt8.toInt32) ∧ (∀ j, j < n0 → A' 0 j = A 0 j) ∧ ∀ j, j ≠ 0 → A' j = A j
  | d, k, 0, I, A, _, hf, _, _ => by omega
  | 0, k, f + 1, I, A, e, hf, hI, hA => by
    have : k = n := by omega
    subst this
    show ∃ I' A', fX9_feed_29B BM (fX9_feed_29 BM f) I A (pzN k) v (pzN k) = _ ∧ _
    unfold fX9_feed_29B
    rw [if_pos ((pzN_le (by omega) (by omega)).mpr (Nat.le_refl _)), hI]
    exact ⟨I, A, rfl, hI, fun _ _ => rfl, hA, fun _ _ => rfl, fun _ _ => rfl⟩
  | d + 1, k, f + 1, I, A, e, hf, hI, hA => by
    show ∃ I' A', fX9_feed_29B BM (fX9_feed_29 BM f) I A (pzN n) v (pzN k) = _ ∧ _
    unfold fX9_feed_29B
    have hb := pz_rb v (k := k) (by omega)
    unfold pzRb at hb
    rw [if_neg (by rw [pzN_le (by omega) (by omega)]; omega), hI, pz_gd2 (by omega) (by omega), pzN_clamp (by omega), hb, pzN_suc, pzN_suc]
    obtain ⟨I', A', g1, g2, g3, g4, g5, g6⟩ := pz_mfeed v hn h40 d (k + 1) f (upd I 1 (pzN (n0 + k + 1))) (va_up A 0 (upd (A 0) (n0 + k) ((pzN (pzG8 v k)).toInt8.toInt32))) (by omega) (by omega) (by rw [pz_upd_eq]; rfl) (by
      intro j hj
      rw [pz_va_eq]
      by_cases ej : j = k
      · subst ej; rw [pz_upd_eq]
      · rw [pz_upd_ne _ _ (by omega), hA j (by omega)])
    refine ⟨I', A', g1, g2, fun j hj => ?_, g4, fun j hj => ?_, fun j hj => ?_⟩
    · rw [g3 j hj, pz_upd_ne _ _ hj]
    · rw [g5 j hj, pz_va_eq, pz_upd_ne _ _ (by omega)]
    · rw [g6 j hj, pz_va_ne _ _ hj]
set_option maxRecDepth 10000 in
theorem pz_hS0 : hS0 pzRel := by
  intro c u x v h
  obtain ⟨r0, ⟨n0, h40, t1, t2, t3⟩, r2, r3, r4, r5, r6⟩ := id h
  unfold cS0 mS0 fX8_feed fX9_feed fX5_add
  have hx : fX9_isIn x 1 8 = if x < 1 then 0 else if 8 < x then 0 else 1 := rfl
  rw [hx, t1, t2]
  by_cases x1 : x < 1
  · rw [if_pos x1, if_pos x1, if_pos rfl]
    refine ⟨-1, (c.1, c.2.1, va_up c.2.2.1 1 (c.2.2.1 1), va_up c.2.2.2.1 1 (c.2.2.2.1 1), c.2.2.2.2), u, rfl, rfl, ?_⟩
    have e1 : va_up c.2.2.1 1 (c.2.2.1 1) = c.2.2.1 := by funext j; unfold va_up; split <;> simp_all
    have e2 : va_up c.2.2.2.1 1 (c.2.2.2.1 1) = c.2.2.2.1 := by funext j; unfold va_up; split <;> simp_all
    rw [e1, e2]; exact h
  have hx0 : ¬ x < 0 := by
    rw [Int32.lt_iff_toInt_lt] at *
    have : (1 : Int32).toInt = 1 := rfl
    have : (0 : Int32).toInt = 0 := rfl
    omega
  obtain ⟨ex, hl⟩ := pzN_of (pz_not_neg hx0)
  generalize x.toNatClampNeg = n at *
  subst ex
  have h8 : (8 < pzN n) ↔ 8 < n := pzN_lt (a := 8) (by omega) hl
  have h8' : (pzN n ≤ 8) ↔ n ≤ 8 := pzN_le (b := 8) hl (by omega)
  rw [if_neg x1, if_neg x1]
  have same : ∀ r : Int32, pzRel (c.1, c.2.1, va_up c.2.2.1 1 (c.2.2.1 1), va_up c.2.2.2.1 1 (c.2.2.2.1 1), c.2.2.2.2) u := by
    intro _
    have e1 : va_up c.2.2.1 1 (c.2.2.1 1) = c.2.2.1 := by funext j; unfold va_up; split <;> simp_all
    have e2 : va_up c.2.2.2.1 1 (c.2.2.2.1 1) = c.2.2.2.1 := by funext j; unfold va_up; split <;> simp_all
    rw [e1, e2]; exact h
  by_cases hn : n ≤ 8
  · rw [if_neg (show ¬ 8 < pzN n by rw [h8]; omega), if_neg (show ¬ (1 : Int32) = 0 by decide), if_pos (h8'.mpr hn), pzN_add]
    have h40' : (pzN (n0 + n) ≤ 40) ↔ n0 + n ≤ 40 := pzN_le (b := 40) (by omega) (by omega)
    by_cases hf : n0 + n ≤ 40
    · rw [if_pos (h40'.mpr hf), if_pos (h40'.mpr hf)]
      obtain ⟨A1, g1, g2, g3, g4⟩ := pz_cfeed v hn hf (c.2.2.1 1) t1 n 0 FU (c.2.2.2.1 1) (by omega) (by unfold FU; omega) (fun j hj => by omega)
      obtain ⟨I2, A2, j1, j2, j3, j4, j5, j6⟩ := pz_mfeed v hn hf n 0 FU u.1 u.2 (by omega) (by unfold FU; omega) t2 (fun j hj => by omega)
      refine ⟨pzN (n0 + n), (c.1, c.2.1, va_up c.2.2.1 1 (upd (c.2.2.1 1) 1 (pzN (n0 + n))), va_up c.2.2.2.1 1 A1, c.2.2.2.2), (I2, A2), ?_, j1, ?_⟩
      · rw [show (0 : Int32) = pzN 0 from rfl, g1]; rfl
      · unfold pzRel
        dsimp only
        rw [pz_va_ne _ _ (show 0 ≠ 1 by decide), pz_va_eq, pz_va_ne _ _ (show 2 ≠ 1 by decide), pz_va_ne _ _ (show 3 ≠ 1 by decide), pz_va_ne _ _ (show 4 ≠ 1 by decide), pz_va_eq, pz_va_ne _ _ (show 2 ≠ 1 by decide), pz_va_ne _ _ (show 3 ≠ 1 by decide), pz_va_ne _ _ (show 4 ≠ 1 by decide)]
        rw [j3 6 (by decide), j3 10 (by decide), j3 12 (by decide), j3 8 (by decide), j6 9 (by decide), j6 11 (by decide), j6 7 (by decide), j2, pz_upd_eq]
        refine ⟨pzR0_congr r0 (j6 2 (by decide)) (j6 3 (by decide)) (j6 4 (by decide)) (j6 5 (by decide)), ⟨n0 + n, hf, rfl, rfl, fun k hk => ?_⟩, r2, r3, r4, pzB_congr r5 (j6 13 (by decide)) (j6 14 (by decide)) (j6 15 (by decide)), r6⟩
        by_cases hk0 : k < n0
        · rw [g3 k hk0, j5 k hk0]
          exact t3 k hk0
        · have e : k = n0 + (k - n0) := by omega
          refine ⟨pzG8 v (k - n0), (pz_cb v _).2, ?_, ?_⟩
          · have := g2 (k - n0) (by omega)
            rw [← e] at this; exact this
          · have := j4 (k - n0) (by omega)
            rw [← e] at this; exact this
    · rw [if_neg (fun q => hf (h40'.mp q)), if_neg (fun q => hf (h40'.mp q))]
      exact ⟨-3, _, u, rfl, rfl, same 0⟩
  · rw [if_pos (show 8 < pzN n from h8.mpr (by omega)), if_pos rfl, if_neg (fun q => hn (h8'.mp q))]
    exact ⟨-1, _, u, rfl, rfl, same 0⟩
/-! the remainder by 12 of any int -/
set_option maxRecDepth 10000 in
theorem pz_jrem12 (x : Int32) : (jrem x 12).toInt = x.toInt.tmod 12 := by
  have h1 := Int32.toInt_lt x
  have h2 := Int32.le_toInt x
  have e12 : (12 : Int32).toInt = 12 := rfl
  have bnd : -2147483648 ≤ x.toInt.tdiv 12 * 12 ∧ x.toInt.tdiv 12 * 12 ≤ 2147483647 ∧ -2147483648 ≤ x.toInt.tdiv 12 ∧ x.toInt.tdiv 12 ≤ 2147483647 ∧ x.toInt.tmod 12 = x.toInt - x.toInt.tdiv 12 * 12 ∧ -12 < x.toInt.tmod 12 ∧ x.toInt.tmod 12 < 12 := by
    have e := Int.tmod_eq_emod (a := x.toInt) (b := 12)
    have e3 := Int.mul_tdiv_add_tmod x.toInt 12
    by_cases hx : 0 ≤ x.toInt
    · have e2 : x.toInt.tdiv 12 = x.toInt / 12 := Int.tdiv_eq_ediv_of_nonneg hx
      omega
    · obtain ⟨y, hy⟩ : ∃ y, x.toInt = -y := ⟨-x.toInt, by omega⟩
      have e2 : (-y).tdiv 12 = -(y / 12) := by rw [Int.neg_tdiv, Int.tdiv_eq_ediv_of_nonneg (by omega)]
      rw [hy] at e3 ⊢
      rw [e2] at e3 ⊢
      omega
  obtain ⟨b1, b2, b3, b4, b5, b6, b7⟩ := bnd
  unfold jrem
  rw [Int32.toInt_sub, Int32.toInt_mul, Int32.toInt_div, e12]
  generalize x.toInt.tdiv 12 = q at *
  generalize x.toInt.tmod 12 = r at *
  rw [Int.bmod_eq_of_le (n := q) (by omega) (by omega), Int.bmod_eq_of_le (n := q * 12) (by omega) (by omega), ← b5, Int.bmod_eq_of_le (by omega) (by omega)]
set_option maxRecDepth 10000 in
theorem pz_xor12 (x : Int32) : (0 ≤ (x ^^^ 12)) ↔ 0 ≤ x := by
  have key : ∀ y : Int32, (0 ≤ y) ↔ y.toBitVec.msb = false := by
    intro y
    rw [Int32.le_iff_toInt_le, show (0 : Int32).toInt = 0 from rfl]
    have : y.toBitVec.msb = decide (y.toInt < 0) := BitVec.msb_eq_toInt
    rw [this]
    simp
  rw [key, key, Int32.toBitVec_xor, BitVec.msb_xor]
  have : (12 : Int32).toBitVec.msb = false := by decide
  rw [this, Bool.xor_false]
set_option maxRecDepth 10000 in
theorem pz_mod12 (x : Int32) : ∃ m, m < 12 ∧ fX9_mod12 x = pzN m ∧ fJ9_floorMod_7cf53 x 12 = pzN m := by
  have hj := pz_jrem12 x
  have hr : -12 < (jrem x 12).toInt ∧ (jrem x 12).toInt < 12 ∧ (0 ≤ x.toInt → 0 ≤ (jrem x 12).toInt) ∧ (x.toInt < 0 → (jrem x 12).toInt ≤ 0) := by
    rw [hj]
    have e3 := Int.mul_tdiv_add_tmod x.toInt 12
    by_cases hx : 0 ≤ x.toInt
    · have e2 : x.toInt.tdiv 12 = x.toInt / 12 := Int.tdiv_eq_ediv_of_nonneg hx
      omega
    · obtain ⟨y, hy⟩ : ∃ y, x.toInt = -y := ⟨-x.toInt, by omega⟩
      have e2 : (-y).tdiv 12 = -(y / 12) := by rw [Int.neg_tdiv, Int.tdiv_eq_ediv_of_nonneg (by omega)]
      rw [hy] at e3 ⊢
      rw [e2] at e3
      omega
  generalize hrr : jrem x 12 = r at *
  obtain ⟨r1, r2, r3, r4⟩ := hr
  have e12 : (12 : Int32).toInt = 12 := rfl
  have h0 : (0 : Int32).toInt = 0 := rfl
  have radd : (r + 12).toInt = r.toInt + 12 := by
    rw [Int32.toInt_add, e12, Int.bmod_eq_of_le (by omega) (by omega)]
  have rpos : 0 ≤ r + 12 := by rw [Int32.le_iff_toInt_le, radd, h0]; omega
  obtain ⟨er, hl⟩ := pzN_of rpos
  generalize hm : (r + 12).toNatClampNeg = m at *
  have hmr : (m : Int) = r.toInt + 12 := by
    rw [← radd, er, pzN_toInt hl]
  refine ⟨m % 12, Nat.mod_lt _ (by omega), ?_, ?_⟩
  · unfold fX9_mod12
    rw [hrr, er, show (12 : Int32) = pzN 12 from rfl, pzN_jrem hl (by omega)]
  · unfold fJ9_floorMod_7cf53
    rw [hrr]
    have x0 : (0 ≤ x) ↔ 0 ≤ x.toInt := by rw [Int32.le_iff_toInt_le, h0]
    by_cases hx : 0 ≤ x.toInt
    · rw [if_pos ((pz_xor12 x).mpr (x0.mpr hx))]
      have := r3 hx
      rw [← Int32.toInt_inj, pzN_toInt (by omega)]
      omega
    · rw [if_neg (fun q => hx (x0.mp ((pz_xor12 x).mp q)))]
      by_cases hz : r = 0
      · rw [if_pos hz]
        have : r.toInt = 0 := by rw [hz, h0]
        rw [← Int32.toInt_inj, pzN_toInt (by omega)]
        omega
      · have : r.toInt ≠ 0 := fun q => hz (Int32.toInt_inj.mp (q.trans h0.symm))
        have := r4 (by omega)
        rw [if_neg hz, er]
        rw [pzN_inj hl (by omega)]
        omega
/-! a chord is laid down -/
set_option maxRecDepth 10000 in
theorem pz_laid {I : Nat → Int32} {A : Nat → Nat → Int32} {n z : Nat} (hn : n < 100) (hz : z ≤ 1) (hI : I 6 = pzN n) (x1 x2 x3 x4 : Int32) :
    ∃ A', fX9_laid BM I A x1 x2 x3 x4 (pzN z) = some (pzN n, upd I 6 (pzN (n + 1)), A') ∧ A' 2 (5 * n) = x1 ∧ A' 2 (5 * n + 1) = x2 ∧ A' 2 (5 * n + 2) = x3 ∧ A' 2 (5 * n + 3) = x4 ∧ A' 2 (5 * n + 4) = pzN z ∧ (∀ j, j < 5 * n → A' 2 j = A 2 j) ∧ ∀ j, j ≠ 2 → A' j = A j := by
  unfold fX9_laid fX9_laid_65
  rw [hI]
  simp only [show (5 : Int32) = pzN 5 from rfl, show (2 : Int32) = pzN 2 from rfl, show (3 : Int32) = pzN 3 from rfl, show (4 : Int32) = pzN 4 from rfl, pzN_mul, pzN_add, pzN_suc]
  rw [pz_gd2 (by omega) (by omega), pz_gd2 (by omega) (by omega), pz_gd2 (by omega) (by omega), pz_gd2 (by omega) (by omega), pz_gd2 (by omega) (by omega), pz_gd2 (by omega) (by omega), pz_va_eq]
  simp only [pzN_clamp (show 5 * n < 2147483648 by omega), pzN_clamp (show 5 * n + 1 < 2147483648 by omega), pzN_clamp (show 5 * n + 2 < 2147483648 by omega), pzN_clamp (show 5 * n + 3 < 2147483648 by omega), pzN_clamp (show 5 * n + 4 < 2147483648 by omega)]
  have es : pzN (n + 1) - 1 = pzN n := pzN_sub (a := n + 1) (b := 1) (by omega)
  rw [es]
  have fin : ∀ w, w = pzN z → ∃ A', some (pzN n, upd I 6 (pzN (n + 1)), va_up (va_up A 2 (upd (upd (upd (upd (A 2) (5 * n) x1) (5 * n + 1) x2) (5 * n + 2) x3) (5 * n + 3) x4)) 2 (upd (upd (upd (upd (upd (A 2) (5 * n) x1) (5 * n + 1) x2) (5 * n + 2) x3) (5 * n + 3) x4) (5 * n + 4) w)) = some (pzN n, upd I 6 (pzN (n + 1)), A') ∧ A' 2 (5 * n) = x1 ∧ A' 2 (5 * n + 1) = x2 ∧ A' 2 (5 * n + 2) = x3 ∧ A' 2 (5 * n + 3) = x4 ∧ A' 2 (5 * n + 4) = pzN z ∧ (∀ j, j < 5 * n → A' 2 j = A 2 j) ∧ ∀ j, j ≠ 2 → A' j = A j := by
    intro w hw
    refine ⟨_, rfl, ?_, ?_, ?_, ?_, ?_, fun j hj => ?_, fun j hj => ?_⟩
    · rw [pz_va_eq, pz_upd_ne _ _ (by omega), pz_upd_ne _ _ (by omega), pz_upd_ne _ _ (by omega), pz_upd_ne _ _ (by omega), pz_upd_eq]
    · rw [pz_va_eq, pz_upd_ne _ _ (by omega), pz_upd_ne _ _ (by omega), pz_upd_ne _ _ (by omega), pz_upd_eq]
    · rw [pz_va_eq, pz_upd_ne _ _ (by omega), pz_upd_ne _ _ (by omega), pz_upd_eq]
    · rw [pz_va_eq, pz_upd_ne _ _ (by omega), pz_upd_eq]
    · rw [pz_va_eq, pz_upd_eq, hw]
    · rw [pz_va_eq, pz_upd_ne _ _ (by omega), pz_upd_ne _ _ (by omega), pz_upd_ne _ _ (by omega), pz_upd_ne _ _ (by omega), pz_upd_ne _ _ (by omega)]
    · rw [pz_va_ne _ _ hj, pz_va_ne _ _ hj]
  by_cases z0 : z = 0
  · subst z0
    rw [if_pos (by rfl)]
    exact fin 0 rfl
  · have : z = 1 := by omega
    subst this
    rw [if_neg (by decide)]
    exact fin 1 rfl
set_option maxRecDepth 10000 in
theorem pz_new {nC : Nat} {ck : Nat → Nat → Int32} {j5 i6 : Int32} {A A' : Nat → Nat → Int32} {cv : Nat → Int32} {t s b z : Nat} (h : pzR0 nC ck j5 i6 A) (hn : nC < 100) (h2 : ∀ j, j < 5 * nC → A' 2 j = A 2 j) (h3 : ∀ j, j < 16 * nC → A' 3 j = A 3 j) (h4 : ∀ j, j < 16 * nC → A' 4 j = A 4 j) (h5 : ∀ j, j < nC → A' 5 j = A 5 j) (hk : pzK cv t s b z) (hC : pzC A' nC t s b z) :
    pzR0 (nC + 1) (va_up ck nC cv) (pzN (nC + 1)) (pzN (nC + 1)) A' := by
  obtain ⟨a, b', c, d⟩ := h
  refine ⟨by omega, rfl, rfl, fun i hi => ?_⟩
  by_cases e : i = nC
  · subst e
    rw [pz_va_eq]
    exact ⟨t, s, b, z, hk, hC⟩
  · rw [pz_va_ne _ _ e]
    obtain ⟨t1, s1, b1, z1, hk1, c1, c2, c3, c4, c5, c6, c7, c8, c9, c10, c11⟩ := d i (by omega)
    have hl := pz_len16 c3
    refine ⟨t1, s1, b1, z1, hk1, c1, c2, c3, c4, ?_, ?_, ?_, ?_, ?_, ?_, fun k hk => ?_⟩
    · rw [h2 _ (by omega)]; exact c5
    · rw [h2 _ (by omega)]; exact c6
    · rw [h2 _ (by omega)]; exact c7
    · rw [h2 _ (by omega)]; exact c8
    · rw [h2 _ (by omega)]; exact c9
    · rw [h5 _ (by omega)]; exact c10
    · rw [h3 _ (by omega), h4 _ (by omega)]; exact c11 k hk
set_option maxRecDepth 10000 in
theorem pz_keep {nC : Nat} {ck J : Nat → Nat → Int32} {cv : Nat → Int32} (hJ : J 0 5 = pzN nC) (hn : nC ≤ 100) : fX8_keep nC ck J cv = if nC < 100 then some (pzN nC, nC + 1, va_up ck nC cv, va_up J 0 (upd (J 0) 5 (pzN (nC + 1)))) else some (-3, nC, ck, J) := by
  unfold fX8_keep
  rw [hJ]
  by_cases h : nC < 100
  · have es : pzN (nC + 1) - 1 = pzN nC := pzN_sub (a := nC + 1) (b := 1) (by omega)
    rw [if_pos h, if_pos (by rw [show (100 : Int32) = pzN 100 from rfl, pzN_lt (by omega) (by omega)]; exact h), pz_gd2 (by omega) (by omega), if_pos (pzN_clamp (by omega)), pzN_suc, es]
  · rw [if_neg h, if_neg (by rw [show (100 : Int32) = pzN 100 from rfl, pzN_lt (by omega) (by omega)]; exact h)]
def pzUq (w : Nat × Nat → Nat) (st : Option ((Nat × Nat) × Nat)) (c : Option (Nat × Nat)) : Option ((Nat × Nat) × Nat) := match c with
  | none => st
  | some n => match st with
    | none => some (n, w n)
    | some (m, v) => if w n < v then some (n, w n) else some (m, v)
def pzCq (z p q σ τ : Nat) : Option (Nat × Nat) := match pzCand p σ with
  | none => none
  | some n => if z = 0 then (if σ = τ then some (n, n) else none) else match pzCand q τ with
    | none => none
    | some m => some (n, m)
def pzWq (s : Nat) (x : Nat × Nat) : Nat := pzWt x.1 s 0 + pzSz x.2
def pzGq (s z p q : Nat) (st : Option ((Nat × Nat) × Nat)) : Prop := ∀ x v, st = some (x, v) → v = pzWq s x ∧ ∃ σ τ, σ < 3 ∧ τ < 3 ∧ pzCq z p q σ τ = some x
set_option maxRecDepth 10000 in
theorem pzCq_some {z p q σ τ : Nat} {x : Nat × Nat} (hp : p < 12) (hq : q < 12) (hσ : σ < 3) (hτ : τ < 3) (h : pzCq z p q σ τ = some x) : pzCand p σ = some x.1 ∧ x.1 < 35 ∧ x.2 < 35 ∧ pzSg x.1 = pzSo σ ∧ pzSg x.2 = pzSo τ ∧ (z = 0 → x.2 = x.1) ∧ (¬ z = 0 → pzCand q τ = some x.2) := by
  unfold pzCq at h
  cases hc : pzCand p σ with
  | none => rw [hc] at h; cases h
  | some n =>
    obtain ⟨c1, c2, c3⟩ := pz_candSome hp hσ hc
    rw [hc] at h
    dsimp only at h
    by_cases z0 : z = 0
    · rw [if_pos z0] at h
      by_cases e : σ = τ
      · rw [if_pos e] at h
        simp only [Option.some.injEq] at h
        subst h
        exact ⟨rfl, c1, c1, c2, by rw [← e]; exact c2, fun _ => rfl, fun x => absurd z0 x⟩
      · rw [if_neg e] at h; cases h
    · rw [if_neg z0] at h
      cases hd : pzCand q τ with
      | none => rw [hd] at h; cases h
      | some m =>
        obtain ⟨d1, d2, d3⟩ := pz_candSome hq hτ hd
        rw [hd] at h
        simp only [Option.some.injEq] at h
        subst h
        exact ⟨rfl, c1, d1, c2, d2, fun x => absurd x z0, fun _ => rfl⟩
set_option maxRecDepth 10000 in
theorem pzWq_le {s : Nat} {x : Nat × Nat} (h1 : x.1 < 35) (h2 : x.2 < 35) : pzWq s x ≤ 300 := by
  unfold pzWq
  have a := pz_wt_lt x.1 h1 s
  have b := (pz_sz x.2 h2).2.2
  omega
set_option maxRecDepth 10000 in
theorem pzGq_up {s z p q σ τ : Nat} (hσ : σ < 3) (hτ : τ < 3) {st : Option ((Nat × Nat) × Nat)} (h : pzGq s z p q st) : pzGq s z p q (pzUq (pzWq s) st (pzCq z p q σ τ)) := by
  intro x v e
  unfold pzUq at e
  cases hc : pzCq z p q σ τ with
  | none => rw [hc] at e; exact h x v e
  | some k =>
    rw [hc] at e
    cases st with
    | none =>
      simp only [Option.some.injEq, Prod.mk.injEq] at e
      obtain ⟨rfl, rfl⟩ := e
      exact ⟨rfl, σ, τ, hσ, hτ, hc⟩
    | some mv =>
      obtain ⟨m, v'⟩ := mv
      dsimp only at e
      split at e
      · simp only [Option.some.injEq, Prod.mk.injEq] at e
        obtain ⟨rfl, rfl⟩ := e
        exact ⟨rfl, σ, τ, hσ, hτ, hc⟩
      · exact h x v e
/-! the reference -/
def pzQ1 (st : Option ((Nat × Nat) × Nat)) : Int32 := match st with
  | none => -2
  | some (x, _) => pzSg x.1
def pzQ2 (st : Option ((Nat × Nat) × Nat)) : Int32 := match st with
  | none => -2
  | some (x, _) => pzSg x.2
def pzQ3 (st : Option ((Nat × Nat) × Nat)) : Int32 := match st with
  | none => 0
  | some (_, v) => pzN v
set_option maxRecDepth 10000 in
theorem pz_so_inj : ∀ σ, σ < 3 → ∀ τ, τ < 3 → (pzSo τ = pzSo σ ↔ σ = τ) := by decide +kernel
set_option maxRecDepth 10000 in
theorem pz_mvStep {I : Nat → Int32} {A : Nat → Nat → Int32} {c t s b z p q σ τ : Nat} (hc : c < 100) (h : pzC A c t s b z) (hp : p < 12) (hq : q < 12) (hσ : σ < 3) (hτ : τ < 3) {st : Option ((Nat × Nat) × Nat)} (g : pzGq s z p q st)
    (k86 : (Nat → Int32) → (Nat → Nat → Int32) → Int32 → Int32 → Int32 → Int32 → Int32 → Int32 → Int32 → Int32 → Option (Int32 × (Nat → Int32) × (Nat → Nat → Int32))) (f : Nat) :
    fX9_move_95 BM k86 (f + 1) I A (pzN c) (pzN p) (pzN q) (pzN z) (pzQ1 st) (pzQ2 st) (pzQ3 st) (pzSo σ) (pzSo τ) = fX9_move_95 BM k86 f I A (pzN c) (pzN p) (pzN q) (pzN z) (pzQ1 (pzUq (pzWq s) st (pzCq z p q σ τ))) (pzQ2 (pzUq (pzWq s) st (pzCq z p q σ τ))) (pzQ3 (pzUq (pzWq s) st (pzCq z p q σ τ))) (pzSo σ) (pzSo (τ + 1)) := by
  show fX9_move_95B BM k86 (fX9_move_95 BM k86 f) I A (pzN c) (pzN p) (pzN q) (pzN z) (pzQ1 st) (pzQ2 st) (pzQ3 st) (pzSo σ) (pzSo τ) = _
  obtain ⟨o1, o2, o3⟩ := pz_so.1 τ hτ
  obtain ⟨u1, u2, u3⟩ := pz_so.1 σ hσ
  have hz := h.2.2.2.1
  -- the two ways
  have no : ∀ (l : Int32), pzCq z p q σ τ = none → fX9_move_148 BM k86 (fX9_move_95 BM k86 f) I A (pzN c) (pzN p) (pzN q) (pzN z) (pzQ1 st) (pzQ2 st) (pzQ3 st) (pzSo σ) (pzSo τ) l 0 = fX9_move_95 BM k86 f I A (pzN c) (pzN p) (pzN q) (pzN z) (pzQ1 (pzUq (pzWq s) st (pzCq z p q σ τ))) (pzQ2 (pzUq (pzWq s) st (pzCq z p q σ τ))) (pzQ3 (pzUq (pzWq s) st (pzCq z p q σ τ))) (pzSo σ) (pzSo (τ + 1)) := by
    intro l e
    rw [e]
    unfold fX9_move_148 fX9_move_174
    rw [if_pos rfl, if_pos rfl, o1]
    rfl
  have yes : ∀ (x : Nat × Nat), pzCq z p q σ τ = some x → fX9_move_148 BM k86 (fX9_move_95 BM k86 f) I A (pzN c) (pzN p) (pzN q) (pzN z) (pzQ1 st) (pzQ2 st) (pzQ3 st) (pzSo σ) (pzSo τ) (pzN (x.1 / 5)) 1 = fX9_move_95 BM k86 f I A (pzN c) (pzN p) (pzN q) (pzN z) (pzQ1 (pzUq (pzWq s) st (pzCq z p q σ τ))) (pzQ2 (pzUq (pzWq s) st (pzCq z p q σ τ))) (pzQ3 (pzUq (pzWq s) st (pzCq z p q σ τ))) (pzSo σ) (pzSo (τ + 1)) := by
    intro x e
    obtain ⟨c1, c2, c3, c4, c5, _, _⟩ := pzCq_some hp hq hσ hτ e
    rw [e]
    have hw := pzWq_le (s := s) c2 c3
    unfold fX9_move_148
    rw [if_neg (show ¬ (1 : Int32) = 0 by decide), ← c4, ← c5, pz_weight BM I hc h c2, Option.bind_some, (pz_sz x.2 c3).1, pzN_add, show pzWt x.1 s 0 + pzSz x.2 = pzWq s x from rfl]
    unfold fX9_move_174 fX9_move_195
    rw [if_neg (show ¬ (1 : Int32) = 0 by decide)]
    rw [← c5] at o1
    rw [o1]
    cases st with
    | none =>
      rw [if_pos (show pzQ1 none = -2 from rfl)]
      rfl
    | some mv =>
      obtain ⟨m, v⟩ := mv
      obtain ⟨rfl, σ', τ', g1, g2, g3⟩ := g m v rfl
      obtain ⟨d1, d2, d3, d4, d5, _, _⟩ := pzCq_some hp hq g1 g2 g3
      have hw2 := pzWq_le (s := s) d2 d3
      have hne : ¬ pzQ1 (some (m, pzWq s m)) = -2 := by
        show ¬ pzSg m.1 = -2
        rw [d4]; exact (pz_so.1 σ' g1).2.2
      rw [if_neg hne, show pzQ3 (some (m, pzWq s m)) = pzN (pzWq s m) from rfl]
      unfold pzUq
      dsimp only
      by_cases hlt : pzWq s x < pzWq s m
      · rw [if_pos hlt, if_neg (by rw [pzN_le (by omega) (by omega)]; omega)]
        rfl
      · rw [if_neg hlt, if_pos (by rw [pzN_le (by omega) (by omega)]; omega)]
        rfl
  unfold fX9_move_95B
  rw [if_neg o2, (pz_cand p hp σ hσ).2, Option.bind_some]
  cases hcd : pzCand p σ with
  | none =>
    rw [if_pos (show pzO2 none = -2 from rfl)]
    exact no _ (by unfold pzCq; rw [hcd])
  | some n =>
    obtain ⟨c1, c2, c3⟩ := pz_candSome hp hσ hcd
    rw [show pzO2 (some n) = pzN (n / 5) from rfl, if_neg (pzN_ne2 (by omega))]
    by_cases z0 : z = 0
    · subst z0
      rw [if_pos (by rfl)]
      by_cases e : σ = τ
      · rw [if_pos ((pz_so_inj σ hσ τ hτ).mpr e)]
        exact yes (n, n) (by unfold pzCq; rw [hcd]; dsimp only; rw [if_pos rfl, if_pos e])
      · rw [if_neg (fun x => e ((pz_so_inj σ hσ τ hτ).mp x))]
        exact no _ (by unfold pzCq; rw [hcd]; dsimp only; rw [if_pos rfl, if_neg e])
    · have z1 : z = 1 := by omega
      subst z1
      rw [if_neg (by decide), (pz_cand q hq τ hτ).2, Option.bind_some]
      cases hcq : pzCand q τ with
      | none =>
        rw [if_pos (show pzO2 none = -2 from rfl)]
        exact no _ (by unfold pzCq; rw [hcd]; dsimp only; rw [if_neg z0, hcq])
      | some m =>
        obtain ⟨d1, d2, d3⟩ := pz_candSome hq hτ hcq
        rw [show pzO2 (some m) = pzN (m / 5) from rfl, if_neg (pzN_ne2 (by omega))]
        exact yes (n, m) (by unfold pzCq; rw [hcd]; dsimp only; rw [if_neg z0, hcq])
def pzF3 (s z p q : Nat) (st : Option ((Nat × Nat) × Nat)) (σ : Nat) : Option ((Nat × Nat) × Nat) := pzUq (pzWq s) (pzUq (pzWq s) (pzUq (pzWq s) st (pzCq z p q σ 0)) (pzCq z p q σ 1)) (pzCq z p q σ 2)
set_option maxRecDepth 10000 in
theorem pz_mvRow {I : Nat → Int32} {A : Nat → Nat → Int32} {c t s b z p q σ : Nat} (hc : c < 100) (h : pzC A c t s b z) (hp : p < 12) (hq : q < 12) (hσ : σ < 3) {st : Option ((Nat × Nat) × Nat)} (g : pzGq s z p q st) (f : Nat) :
    fX9_move_86 BM (f + 1) I A (pzN c) (pzN p) (pzN q) (pzN z) (pzQ1 st) (pzQ2 st) (pzQ3 st) (pzSo σ) = fX9_move_86 BM f I A (pzN c) (pzN p) (pzN q) (pzN z) (pzQ1 (pzF3 s z p q st σ)) (pzQ2 (pzF3 s z p q st σ)) (pzQ3 (pzF3 s z p q st σ)) (pzSo (σ + 1)) ∧ pzGq s z p q (pzF3 s z p q st σ) := by
  have g1 := pzGq_up hσ (show 0 < 3 by omega) g
  have g2 := pzGq_up hσ (show 1 < 3 by omega) g1
  have g3 := pzGq_up hσ (show 2 < 3 by omega) g2
  refine ⟨?_, g3⟩
  obtain ⟨u1, u2, u3⟩ := pz_so.1 σ hσ
  show fX9_move_86B BM (fX9_move_86 BM f) I A (pzN c) (pzN p) (pzN q) (pzN z) (pzQ1 st) (pzQ2 st) (pzQ3 st) (pzSo σ) = _
  unfold fX9_move_86B
  rw [if_neg u2]
  have s1 := pz_mvStep (I := I) hc h hp hq hσ (show 0 < 3 by omega) g (fX9_move_86 BM f) 3999
  have s2 := pz_mvStep (I := I) hc h hp hq hσ (show 1 < 3 by omega) g1 (fX9_move_86 BM f) 3998
  have s3 := pz_mvStep (I := I) hc h hp hq hσ (show 2 < 3 by omega) g2 (fX9_move_86 BM f) 3997
  refine s1.trans (s2.trans (s3.trans ?_))
  show fX9_move_95B BM (fX9_move_86 BM f) (fX9_move_95 BM (fX9_move_86 BM f) 3996) I A (pzN c) (pzN p) (pzN q) (pzN z) (pzQ1 (pzF3 s z p q st σ)) (pzQ2 (pzF3 s z p q st σ)) (pzQ3 (pzF3 s z p q st σ)) (pzSo σ) (pzSo 3) = _
  unfold fX9_move_95B
  rw [if_pos pz_so.2, u1]
def pzF9 (s z p q : Nat) : Option ((Nat × Nat) × Nat) := pzF3 s z p q (pzF3 s z p q (pzF3 s z p q none 0) 1) 2
set_option maxRecDepth 10000 in
theorem pz_mv86 {I : Nat → Int32} {A : Nat → Nat → Int32} {c t s b z p q : Nat} (hc : c < 100) (h : pzC A c t s b z) (hp : p < 12) (hq : q < 12) :
    fX9_move_86 BM FU I A (pzN c) (pzN p) (pzN q) (pzN z) (-2) (-2) 0 (-1) = fX9_move_222 BM FU I A (pzN c) (pzN p) (pzN q) (pzN z) (pzQ1 (pzF9 s z p q)) (pzQ2 (pzF9 s z p q)) 0 ∧ pzGq s z p q (pzF9 s z p q) := by
  have g0 : pzGq s z p q none := fun x v e => by cases e
  obtain ⟨e1, g1⟩ := pz_mvRow (I := I) hc h hp hq (show 0 < 3 by omega) g0 3999
  obtain ⟨e2, g2⟩ := pz_mvRow (I := I) hc h hp hq (show 1 < 3 by omega) g1 3998
  obtain ⟨e3, g3⟩ := pz_mvRow (I := I) hc h hp hq (show 2 < 3 by omega) g2 3997
  refine ⟨e1.trans (e2.trans (e3.trans ?_)), g3⟩
  show fX9_move_86B BM (fX9_move_86 BM 3996) I A (pzN c) (pzN p) (pzN q) (pzN z) (pzQ1 (pzF9 s z p q)) (pzQ2 (pzF9 s z p q)) _ (pzSo 3) = _
  unfold fX9_move_86B
  rw [if_pos pz_so.2]
/-! the class, with a bass -/
def pzX1 (st : Option ((Nat × Nat) × Nat)) : Int32 := match st with
  | none => -1
  | some (x, _) => pzN x.1
def pzX2 (st : Option ((Nat × Nat) × Nat)) : Int32 := match st with
  | none => -1
  | some (x, _) => pzN x.2
set_option maxRecDepth 10000 in
theorem pz_cmStep {I : Nat → Int32} {s p q k : Nat} (hI : I 1 = pzN s) (hs : s < 524288) (hp : p < 12) (hq : q < 12) (hk : k < 9) {st : Option ((Nat × Nat) × Nat)} (g : pzGq s 1 p q st) (f : Nat) :
    fX1_movedBy_72 (f + 1) I (pzN p) (pzN q) (pzX1 st) (pzX2 st) (pzQ3 st) (pzN k) = fX1_movedBy_72 f I (pzN p) (pzN q) (pzX1 (pzUq (pzWq s) st (pzCq 1 p q (k / 3) (k % 3)))) (pzX2 (pzUq (pzWq s) st (pzCq 1 p q (k / 3) (k % 3)))) (pzQ3 (pzUq (pzWq s) st (pzCq 1 p q (k / 3) (k % 3)))) (pzN (k + 1)) := by
  have hσ : k / 3 < 3 := by omega
  have hτ : k % 3 < 3 := by omega
  show fX1_movedBy_72B (fX1_movedBy_72 f) I (pzN p) (pzN q) (pzX1 st) (pzX2 st) (pzQ3 st) (pzN k) = _
  unfold fX1_movedBy_72B
  have e1 : pzN k / 3 - 1 = pzSo (k / 3) := by rw [show (3 : Int32) = pzN 3 from rfl, pzN_div (by omega) (by omega)]; rfl
  have e2 : jrem (pzN k) 3 - 1 = pzSo (k % 3) := by rw [show (3 : Int32) = pzN 3 from rfl, pzN_jrem (by omega) (by omega)]; rfl
  rw [if_neg (by rw [show (9 : Int32) = pzN 9 from rfl, pzN_le (by omega) (by omega)]; omega), e1, e2, (pz_cand p hp _ hσ).1, Option.bind_some, (pz_cand q hq _ hτ).1, Option.bind_some, pzN_suc]
  cases hcd : pzCand p (k / 3) with
  | none =>
    rw [if_pos (show pzO1 none = -1 from rfl)]
    have : pzCq 1 p q (k / 3) (k % 3) = none := by unfold pzCq; rw [hcd]
    rw [this]; rfl
  | some n =>
    obtain ⟨c1, c2, c3⟩ := pz_candSome hp hσ hcd
    rw [show pzO1 (some n) = pzN n from rfl, if_neg (pzN_ne1 (by omega))]
    cases hcq : pzCand q (k % 3) with
    | none =>
      rw [if_pos (show pzO1 none = -1 from rfl)]
      have : pzCq 1 p q (k / 3) (k % 3) = none := by unfold pzCq; rw [hcd]; dsimp only; rw [if_neg (by decide), hcq]
      rw [this]; rfl
    | some m =>
      obtain ⟨d1, d2, d3⟩ := pz_candSome hq hτ hcq
      have : pzCq 1 p q (k / 3) (k % 3) = some (n, m) := by unfold pzCq; rw [hcd]; dsimp only; rw [if_neg (by decide), hcq]
      have hw := pzWq_le (s := s) (x := (n, m)) c1 d1
      rw [this, show pzO1 (some m) = pzN m from rfl, if_neg (pzN_ne1 (by omega)), hI, pz_cweight c1 d1 hs, Option.bind_some, pzWt_add, show pzWt n s 0 + pzSz m = pzWq s (n, m) from rfl]
      unfold fX1_movedBy_144
      rw [pzN_suc]
      cases st with
      | none =>
        rw [if_pos (show pzX1 none = -1 from rfl)]
        rfl
      | some mv =>
        obtain ⟨x, v⟩ := mv
        obtain ⟨rfl, σ', τ', g1, g2, g3⟩ := g x v rfl
        obtain ⟨f1, f2, f3, f4, f5, _, _⟩ := pzCq_some hp hq g1 g2 g3
        have hw2 := pzWq_le (s := s) f2 f3
        rw [if_neg (show ¬ pzX1 (some (x, pzWq s x)) = -1 from pzN_ne1 (by omega)), show pzQ3 (some (x, pzWq s x)) = pzN (pzWq s x) from rfl]
        unfold pzUq
        dsimp only
        by_cases hlt : pzWq s (n, m) < pzWq s x
        · rw [if_pos hlt, if_neg (by rw [pzN_le (by omega) (by omega)]; omega)]
          rfl
        · rw [if_neg hlt, if_pos (by rw [pzN_le (by omega) (by omega)]; omega)]
          rfl
set_option maxRecDepth 10000 in
theorem pz_cm72 {I : Nat → Int32} {s p q : Nat} (hI : I 1 = pzN s) (hs : s < 524288) (hp : p < 12) (hq : q < 12) : fX1_movedBy_72 FU I (pzN p) (pzN q) (-1) (-1) 0 0 = some (some (mkc (pzX1 (pzF9 s 1 p q)) (pzN s) (pzX2 (pzF9 s 1 p q)) 1), I) := by
  have g0 : pzGq s 1 p q none := fun x v e => by cases e
  have s0 := pz_cmStep hI hs hp hq (show 0 < 9 by omega) g0 3999
  have g1 := pzGq_up (show 0 < 3 by omega) (show 0 < 3 by omega) g0
  have s1 := pz_cmStep hI hs hp hq (show 1 < 9 by omega) g1 3998
  have g2 := pzGq_up (show 0 < 3 by omega) (show 1 < 3 by omega) g1
  have s2 := pz_cmStep hI hs hp hq (show 2 < 9 by omega) g2 3997
  have g3 := pzGq_up (show 0 < 3 by omega) (show 2 < 3 by omega) g2
  have s3 := pz_cmStep hI hs hp hq (show 3 < 9 by omega) g3 3996
  have g4 := pzGq_up (show 1 < 3 by omega) (show 0 < 3 by omega) g3
  have s4 := pz_cmStep hI hs hp hq (show 4 < 9 by omega) g4 3995
  have g5 := pzGq_up (show 1 < 3 by omega) (show 1 < 3 by omega) g4
  have s5 := pz_cmStep hI hs hp hq (show 5 < 9 by omega) g5 3994
  have g6 := pzGq_up (show 1 < 3 by omega) (show 2 < 3 by omega) g5
  have s6 := pz_cmStep hI hs hp hq (show 6 < 9 by omega) g6 3993
  have g7 := pzGq_up (show 2 < 3 by omega) (show 0 < 3 by omega) g6
  have s7 := pz_cmStep hI hs hp hq (show 7 < 9 by omega) g7 3992
  have g8 := pzGq_up (show 2 < 3 by omega) (show 1 < 3 by omega) g7
  have s8 := pz_cmStep hI hs hp hq (show 8 < 9 by omega) g8 3991
  refine s0.trans (s1.trans (s2.trans (s3.trans (s4.trans (s5.trans (s6.trans (s7.trans (s8.trans ?_))))))))
  show fX1_movedBy_72B (fX1_movedBy_72 3990) I (pzN p) (pzN q) (pzX1 (pzF9 s 1 p q)) (pzX2 (pzF9 s 1 p q)) _ (pzN 9) = _
  unfold fX1_movedBy_72B
  rw [if_pos (by decide), hI]
set_option maxRecDepth 10000 in
theorem pzUq_isSome {w : Nat × Nat → Nat} {st : Option ((Nat × Nat) × Nat)} {c : Option (Nat × Nat)} (h : st.isSome = true ∨ c.isSome = true) : (pzUq w st c).isSome = true := by
  unfold pzUq
  cases c with
  | none => simpa using h
  | some n =>
    cases st with
    | none => rfl
    | some mv => obtain ⟨m, v⟩ := mv; dsimp only; split <;> rfl
set_option maxRecDepth 10000 in
/-- without a bass: the diagonal alone -/
theorem pz_f90 {s p q : Nat} (hp : p < 12) : ∃ n, pzF9 s 0 p q = some ((n, n), pzWq s (n, n)) ∧ pzBst (pzWw s) p = some (n, pzWw s n) := by
  have hmap : ∀ st : Option (Nat × Nat), ∀ σ, σ < 3 → pzF3 s 0 p q (st.map (fun x => ((x.1, x.1), x.2))) σ = (pzUp (pzWw s) st (pzCand p σ)).map (fun x => ((x.1, x.1), x.2)) := by
    intro st σ hσ
    have off : ∀ τ, ¬ σ = τ → pzCq 0 p q σ τ = none := by
      intro τ h
      unfold pzCq
      cases pzCand p σ with
      | none => rfl
      | some n => dsimp only; rw [if_pos rfl, if_neg h]
    have on : ∀ s2 : Option ((Nat × Nat) × Nat), s2 = st.map (fun x => ((x.1, x.1), x.2)) → pzUq (pzWq s) s2 (pzCq 0 p q σ σ) = (pzUp (pzWw s) st (pzCand p σ)).map (fun x => ((x.1, x.1), x.2)) := by
      intro s2 hs2
      subst hs2
      unfold pzCq pzUp
      cases pzCand p σ with
      | none => rfl
      | some n =>
        dsimp only
        rw [if_pos rfl, if_pos rfl]
        have hw : pzWq s (n, n) = pzWw s n := by unfold pzWq pzWw; rw [pzWt_add n s (pzSz n)]
        cases st with
        | none =>
          unfold pzUq
          dsimp only [Option.map]
          rw [hw]
        | some mv =>
          obtain ⟨m, v⟩ := mv
          unfold pzUq
          dsimp only [Option.map]
          rw [hw]
          split <;> rfl
    have nn : ∀ s2, pzUq (pzWq s) s2 none = s2 := fun _ => rfl
    unfold pzF3
    have h3 : σ = 0 ∨ σ = 1 ∨ σ = 2 := by omega
    rcases h3 with rfl | rfl | rfl
    · rw [off 1 (by omega), off 2 (by omega), nn, nn]; exact on _ rfl
    · rw [off 0 (by omega), off 2 (by omega), nn, nn]; exact on _ rfl
    · rw [off 0 (by omega), off 1 (by omega), nn, nn]; exact on _ rfl
  have e : pzF9 s 0 p q = (pzBst (pzWw s) p).map (fun x => ((x.1, x.1), x.2)) := by
    unfold pzF9 pzBst
    have h0 := hmap none 0 (by omega)
    have h1 := hmap (pzUp (pzWw s) none (pzCand p 0)) 1 (by omega)
    have h2 := hmap (pzUp (pzWw s) (pzUp (pzWw s) none (pzCand p 0)) (pzCand p 1)) 2 (by omega)
    rw [show (none : Option ((Nat × Nat) × Nat)) = (none : Option (Nat × Nat)).map (fun x => ((x.1, x.1), x.2)) from rfl, h0, h1, h2]
  obtain ⟨n, hb, _⟩ := pzBst_spec (pzWw s) hp
  refine ⟨n, ?_, hb⟩
  rw [e, hb]
  show some ((n, n), pzWw s n) = _
  have hw : pzWq s (n, n) = pzWw s n := by unfold pzWq pzWw; rw [pzWt_add n s (pzSz n)]
  rw [hw]
set_option maxRecDepth 10000 in
theorem pz_f91 {s p q : Nat} (hp : p < 12) (hq : q < 12) : ∃ x, pzF9 s 1 p q = some (x, pzWq s x) := by
  have h : (pzF9 s 1 p q).isSome = true := by
    have row : ∀ st σ, (pzCand p σ).isSome = true → (pzF3 s 1 p q st σ).isSome = true := by
      intro st σ h
      obtain ⟨n, hn⟩ := Option.isSome_iff_exists.mp h
      have cq : ∀ τ, (pzCand q τ).isSome = true → (pzCq 1 p q σ τ).isSome = true := by
        intro τ h2
        obtain ⟨m, hm⟩ := Option.isSome_iff_exists.mp h2
        unfold pzCq
        rw [hn]
        dsimp only
        rw [if_neg (by decide), hm]
        rfl
      unfold pzF3
      rcases pz_candEx q hq with h | h | h
      · exact pzUq_isSome (Or.inl (pzUq_isSome (Or.inl (pzUq_isSome (Or.inr (cq 0 h))))))
      · exact pzUq_isSome (Or.inl (pzUq_isSome (Or.inr (cq 1 h))))
      · exact pzUq_isSome (Or.inr (cq 2 h))
    have keep : ∀ st σ, st.isSome = true → (pzF3 s 1 p q st σ).isSome = true := by
      intro st σ h
      unfold pzF3
      exact pzUq_isSome (Or.inl (pzUq_isSome (Or.inl (pzUq_isSome (Or.inl h)))))
    unfold pzF9
    rcases pz_candEx p hp with h | h | h
    · exact keep _ _ (keep _ _ (row _ _ h))
    · exact keep _ _ (row _ _ h)
    · exact row _ _ h
  have g : pzGq s 1 p q (pzF9 s 1 p q) := by
    have g0 : pzGq s 1 p q none := fun x v e => by cases e
    unfold pzF9 pzF3
    exact pzGq_up (by omega) (by omega) (pzGq_up (by omega) (by omega) (pzGq_up (by omega) (by omega) (pzGq_up (by omega) (by omega) (pzGq_up (by omega) (by omega) (pzGq_up (by omega) (by omega) (pzGq_up (by omega) (by omega) (pzGq_up (by omega) (by omega) (pzGq_up (by omega) (by omega) g0))))))))
  obtain ⟨xv, e⟩ := Option.isSome_iff_exists.mp h
  obtain ⟨x, v⟩ := xv
  obtain ⟨rfl, _⟩ := g x v e
  exact ⟨x, e⟩
set_option maxRecDepth 10000 in
theorem pz_cp222 {I : Nat → Int32} {c nC : Nat} (hc : c < nC) (hn : nC < 100) (hI : I 6 = pzN nC) {len : Nat} (hl : len ≤ 16) (v3 v4 v5 v6 v7 : Int32) : ∀ d k f (A : Nat → Nat → Int32), k + d = len → d < f → A 5 c = pzN len → (∀ j, j < k → A 3 (16 * nC + j) = A 3 (16 * c + j) ∧ A 4 (16 * nC + j) = A 4 (16 * c + j)) →
    ∃ A', fX9_move_222 BM f I A (pzN c) v3 v4 v5 v6 v7 (pzN k) = fX9_move_222B BM (fun _ _ _ _ _ _ _ _ _ => none) I A' (pzN c) v3 v4 v5 v6 v7 (pzN len) ∧ (∀ j, j < len → A' 3 (16 * nC + j) = A 3 (16 * c + j) ∧ A' 4 (16 * nC + j) = A 4 (16 * c + j)) ∧ (∀ j, j < 16 * nC → A' 3 j = A 3 j ∧ A' 4 j = A 4 j) ∧ ∀ j, j ≠ 3 → j ≠ 4 → A' j = A j
  | d, k, 0, A, _, hf, _, _ => by omega
  | 0, k, f + 1, A, e, hf, h5, hA => by
    have : k = len := by omega
    subst this
    refine ⟨A, ?_, hA, fun _ _ => ⟨rfl, rfl⟩, fun _ _ _ => rfl⟩
    show fX9_move_222B BM (fX9_move_222 BM f) I A (pzN c) v3 v4 v5 v6 v7 (pzN k) = _
    have hle : pzN k ≤ pzN k := (pzN_le (by omega) (by omega)).mpr (Nat.le_refl _)
    unfold fX9_move_222B
    simp only [pzN_clamp (show c < 2147483648 by omega), h5, if_pos hle]
  | d + 1, k, f + 1, A, e, hf, h5, hA => by
    obtain ⟨A', g1, g2, g3, g4⟩ := pz_cp222 hc hn hI hl v3 v4 v5 v6 v7 d (k + 1) f (va_up (va_up A 3 (upd (A 3) (16 * nC + k) (A 3 (16 * c + k)))) 4 (upd (A 4) (16 * nC + k) (A 4 (16 * c + k)))) (by omega) (by omega) (by rw [pz_va_ne _ _ (by decide), pz_va_ne _ _ (by decide)]; exact h5) (by
      intro j hj
      rw [pz_va_eq, pz_va_ne _ _ (by decide), pz_va_eq, pz_upd_ne _ (j := 16 * c + j) _ (by omega), pz_upd_ne _ (j := 16 * c + j) _ (by omega)]
      by_cases ej : j = k
      · subst ej; rw [pz_upd_eq, pz_upd_eq]; exact ⟨rfl, rfl⟩
      · rw [pz_upd_ne _ _ (by omega), pz_upd_ne _ _ (by omega)]; exact hA j (by omega))
    refine ⟨A', ?_, fun j hj => ?_, fun j hj => ?_, fun j h3 h4 => ?_⟩
    · rw [← g1]
      show fX9_move_222B BM (fX9_move_222 BM f) I A (pzN c) v3 v4 v5 v6 v7 (pzN k) = _
      unfold fX9_move_222B
      rw [pz_gd2 (by omega) (by omega), if_neg (show ¬ A 5 (pzN c).toNatClampNeg ≤ pzN k by rw [pzN_clamp (n := c) (by omega), h5, pzN_le (by omega) (by omega)]; omega), hI]
      simp only [show (16 : Int32) = pzN 16 from rfl, pzN_mul, pzN_add, pzN_suc]
      rw [pz_gd2 (by omega) (by omega), pz_gd2 (by omega) (by omega), pz_gd2 (by omega) (by omega), pz_gd2 (by omega) (by omega), pzN_clamp (n := 16 * nC + k) (by omega), pzN_clamp (n := 16 * c + k) (by omega)]
    · have := g2 j hj
      rw [pz_va_eq, pz_va_ne _ _ (by decide), pz_va_eq, pz_upd_ne _ (j := 16 * c + j) _ (by omega), pz_upd_ne _ (j := 16 * c + j) _ (by omega)] at this
      exact this
    · have := g3 j hj
      rw [pz_va_eq, pz_va_ne _ _ (by decide), pz_va_eq, pz_upd_ne _ _ (by omega), pz_upd_ne _ _ (by omega)] at this
      exact this
    · rw [g4 j h3 h4, pz_va_ne _ _ h4, pz_va_ne _ _ h3]
set_option maxRecDepth 10000 in
theorem pz_mvEnd {I : Nat → Int32} {A : Nat → Nat → Int32} {c nC t s b z p q : Nat} (hc : c < nC) (hn : nC < 100) (h : pzC A c t s b z) (hI : I 6 = pzN nC) {x : Nat × Nat} (hx1 : x.1 < 35) (hx2 : x.2 < 35) (hp : fX9_letterOf (pzN p) (pzSg x.1) = some (pzN (x.1 / 5))) (hq : ¬ z = 0 → fX9_letterOf (pzN q) (pzSg x.2) = some (pzN (x.2 / 5))) (hzz : z = 0 → x.2 = x.1) :
    ∃ A', fX9_move_222 BM FU I A (pzN c) (pzN p) (pzN q) (pzN z) (pzSg x.1) (pzSg x.2) 0 = some (pzN nC, upd I 6 (pzN (nC + 1)), A') ∧ pzC A' nC x.1 s x.2 z ∧ (∀ j, j < 5 * nC → A' 2 j = A 2 j) ∧ (∀ j, j < 16 * nC → A' 3 j = A 3 j) ∧ (∀ j, j < 16 * nC → A' 4 j = A 4 j) ∧ (∀ j, j < nC → A' 5 j = A 5 j) ∧ ∀ j, j ≠ 2 → j ≠ 3 → j ≠ 4 → j ≠ 5 → A' j = A j := by
  obtain ⟨ht, hb, hs, hz, a0, a1, a2, a3, a4, a5, ar⟩ := id h
  have hl := pz_len16 hs
  obtain ⟨A1, g1, g2, g3, g4⟩ := pz_cp222 (I := I) hc hn hI hl (pzN p) (pzN q) (pzN z) (pzSg x.1) (pzSg x.2) (pzP s).length 0 FU A (by omega) (by unfold FU; omega) a5 (fun j hj => by omega)
  have h15 : A1 5 c = pzN (pzP s).length := by rw [g4 5 (by decide) (by decide)]; exact a5
  have hle : pzN (pzP s).length ≤ pzN (pzP s).length := (pzN_le (by omega) (by omega)).mpr (Nat.le_refl _)
  obtain ⟨A2, j1, j2, j3, j4, j5, j6, j7, j8⟩ := pz_laid (A := va_up A1 5 (upd (A1 5) nC (pzN (pzP s).length))) hn hz hI (pzN (x.1 / 5)) (pzSg x.1) (pzN (x.2 / 5)) (pzSg x.2)
  refine ⟨A2, g1.trans ?_, ⟨hx1, hx2, hs, hz, j2, j3, j4, j5, j6, ?_, fun k hk => ?_⟩, fun j hj => ?_, fun j hj => ?_, fun j hj => ?_, fun j hj => ?_, fun j n2 n3 n4 n5 => ?_⟩
  · unfold fX9_move_222B
    rw [pz_gd2 (by omega) (by omega), if_pos (show A1 5 (pzN c).toNatClampNeg ≤ pzN (pzP s).length by rw [pzN_clamp (n := c) (by omega), h15]; exact hle), pz_gd2 (by omega) (by omega), hI, pz_gd2 (by omega) (by omega), hp, Option.bind_some, pzN_clamp (n := c) (by omega), h15, pzN_clamp (n := nC) (by omega)]
    by_cases z0 : z = 0
    · rw [if_pos (by rw [z0]; rfl)]
      have e := hzz z0
      rw [e] at j1 ⊢
      rw [j1]
      rfl
    · have z1 : z = 1 := by omega
      rw [if_neg (by rw [z1]; decide), hq z0, Option.bind_some, j1]
      rfl
  · rw [j8 5 (by decide), pz_va_eq, pz_upd_eq]
  · rw [j8 3 (by decide), j8 4 (by decide), pz_va_ne _ _ (by decide), pz_va_ne _ _ (by decide), (g2 k hk).1, (g2 k hk).2]
    exact ar k hk
  · rw [j7 j hj, pz_va_ne _ _ (by decide), g4 2 (by decide) (by decide)]
  · rw [j8 3 (by decide), pz_va_ne _ _ (by decide), (g3 j hj).1]
  · rw [j8 4 (by decide), pz_va_ne _ _ (by decide), (g3 j hj).2]
  · rw [j8 5 (by decide), pz_va_eq, pz_upd_ne _ _ (by omega), g4 5 (by decide) (by decide)]
  · rw [j8 j n2, pz_va_ne _ _ n5, g4 j n3 n4]
set_option maxRecDepth 10000 in
theorem pz_letterOf {p σ n : Nat} (hp : p < 12) (hσ : σ < 3) (h : pzCand p σ = some n) : fX9_letterOf (pzN p) (pzSg n) = some (pzN (n / 5)) := by
  rw [(pz_candSome hp hσ h).2.1, (pz_cand p hp σ hσ).2, h]
  rfl
set_option maxRecDepth 10000 in
theorem pz_hS9 : hS9 pzRel := by
  intro c u x y h
  obtain ⟨r0, r1, r2, r3, r4, hB, hBs⟩ := id h
  unfold cS9 mS9 fX8_move fX9_move
  rcases pz_at BM h x with ⟨i, t, s, b, z, hi, h100, rfl, hk, hc, e1, e2⟩ | ⟨e1, e2⟩
  · obtain ⟨hn, hJ, hI, hall⟩ := id r0
    obtain ⟨ht, hb, hs, hz, a0, a1, a2, a3, a4, a5, ar⟩ := id hc
    obtain ⟨k0, k1, k2, k3⟩ := id hk
    rw [e1, e2, Option.bind_some, if_neg (show ¬ (1 : Int32) = 0 by decide), hJ, hI]
    by_cases hfull : c.1 < 100
    · obtain ⟨m, hm, m1, m2⟩ := pz_mod12 y
      have pt := pzPi_lt t
      have pb := pzPi_lt b
      have hp : (pzPi t + m) % 12 < 12 := Nat.mod_lt _ (by omega)
      have hq : (pzPi b + m) % 12 < 12 := Nat.mod_lt _ (by omega)
      rw [if_pos (by rw [show (100 : Int32) = pzN 100 from rfl, pzN_lt (by omega) (by omega)]; exact hfull), if_neg (by rw [show (100 : Int32) = pzN 100 from rfl, pzN_inj (by omega) (by omega)]; omega), pz_root BM _ h100 hc, Option.bind_some, pz_bass BM _ h100 hc, Option.bind_some, m1, m2, pzN_clamp (n := i) (by omega)]
      simp only [show (5 : Int32) = pzN 5 from rfl, show (4 : Int32) = pzN 4 from rfl, pzN_mul, pzN_add]
      rw [pz_gd2 (by omega) (by omega), pzN_clamp (n := 5 * i + 4) (by omega), a4, show (12 : Int32) = pzN 12 from rfl, pzN_jrem (by omega) (by omega), pzN_jrem (by omega) (by omega)]
      obtain ⟨w1, w2⟩ := pz_mv86 (I := u.1) h100 hc hp hq
      -- what both choose
      have choose : ∃ v : Nat × Nat, pzF9 s z ((pzPi t + m) % 12) ((pzPi b + m) % 12) = some (v, pzWq s v) ∧ fX1_movedBy (c.2.1 i) (pzN m) = some (some (mkc (pzN v.1) (pzN s) (pzN v.2) (pzN z)), c.2.1 i) := by
        unfold fX1_movedBy
        rw [k0, k1, k2, k3, pz_pitch t ht, Option.bind_some, pz_pitch b hb, Option.bind_some, pzN_add, pzN_add, show (12 : Int32) = pzN 12 from rfl, pzN_jrem (by omega) (by omega), pzN_jrem (by omega) (by omega)]
        by_cases z0 : z = 0
        · subst z0
          obtain ⟨n, f1, f2⟩ := pz_f90 (s := s) (q := (pzPi b + m) % 12) hp
          refine ⟨(n, n), f1, ?_⟩
          rw [if_pos (by rfl), pz_cspelt hp hs.1, f2]
          rfl
        · have z1 : z = 1 := by omega
          subst z1
          obtain ⟨v, f1⟩ := pz_f91 (s := s) hp hq
          refine ⟨v, f1, ?_⟩
          have := pz_cm72 k1 hs.1 hp hq
          rw [f1] at this
          rw [if_neg (by decide)]
          exact this
      obtain ⟨v, f1, f2⟩ := choose
      obtain ⟨_, σ, τ, g1, g2, g3⟩ := w2 v _ f1
      obtain ⟨q1, q2, q3, q4, q5, q6, q7⟩ := pzCq_some hp hq g1 g2 g3
      obtain ⟨A', y1, y2, y3, y4, y5, y6, y7⟩ := pz_mvEnd (I := u.1) hi hfull hc hI q2 q3 (pz_letterOf hp g1 q1) (fun z0 => pz_letterOf hq g2 (q7 z0)) q6
      have hkeep := pz_keep (ck := c.2.1) (J := c.2.2.1) (cv := mkc (pzN v.1) (pzN s) (pzN v.2) (pzN z)) hJ hn
      rw [if_pos hfull] at hkeep
      refine ⟨pzN c.1, (c.1 + 1, va_up c.2.1 c.1 (mkc (pzN v.1) (pzN s) (pzN v.2) (pzN z)), va_up c.2.2.1 0 (upd (c.2.2.1 0) 5 (pzN (c.1 + 1))), c.2.2.2.1, c.2.2.2.2), (upd u.1 6 (pzN (c.1 + 1)), A'), ?_, ?_, ?_⟩
      · rw [f2]
        simp only [Option.bind_some, hkeep]
      · have key : fX9_move_70 BM u.1 u.2 (pzN i) (pzN ((pzPi t + m) % 12)) (pzN ((pzPi b + m) % 12)) (pzN z) = some (pzN c.1, upd u.1 6 (pzN (c.1 + 1)), A') := by
          unfold fX9_move_70
          rw [w1, f1]
          exact y1
        by_cases z0 : z = 0
        · rw [if_neg (by rw [z0]; decide)]
          rw [z0] at key
          exact key
        · have z1 : z = 1 := by omega
          rw [if_pos (by rw [z1]; rfl)]
          rw [z1] at key
          exact key
      · unfold pzRel
        dsimp only
        rw [pz_va_eq, pz_va_ne _ _ (show 1 ≠ 0 by decide), pz_va_ne _ _ (show 2 ≠ 0 by decide), pz_va_ne _ _ (show 3 ≠ 0 by decide), pz_va_ne _ _ (show 4 ≠ 0 by decide), pz_upd_eq, pz_upd_eq, pz_upd_ne _ _ (show 1 ≠ 6 by decide), pz_upd_ne _ _ (show 10 ≠ 6 by decide), pz_upd_ne _ _ (show 12 ≠ 6 by decide), pz_upd_ne _ _ (show 8 ≠ 6 by decide)]
        rw [y7 0 (by decide) (by decide) (by decide) (by decide), y7 9 (by decide) (by decide) (by decide) (by decide), y7 11 (by decide) (by decide) (by decide) (by decide), y7 7 (by decide) (by decide) (by decide) (by decide)]
        exact ⟨pz_new r0 hfull y3 y4 y5 y6 ⟨rfl, rfl, rfl, rfl⟩ y2, r1, r2, r3, r4, pzB_congr hB (y7 13 (by decide) (by decide) (by decide) (by decide)) (y7 14 (by decide) (by decide) (by decide) (by decide)) (y7 15 (by decide) (by decide) (by decide) (by decide)), hBs⟩
    · have e100 : c.1 = 100 := by omega
      rw [if_neg (by rw [show (100 : Int32) = pzN 100 from rfl, pzN_lt (by omega) (by omega)]; exact hfull), if_pos (by rw [e100]; rfl)]
      exact ⟨-3, c, u, rfl, rfl, h⟩
  · rw [e1, e2]
    exact ⟨-1, c, u, rfl, rfl, h⟩
