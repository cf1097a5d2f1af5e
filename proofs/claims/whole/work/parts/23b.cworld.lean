def oK (Q : Nat → Nat) (I : Nat → Int32) : List Value := [.int (I 0), .int (I 1), .int (I 2), .int (I 3)]
def wK (cI : ClassId) (Q : Nat → Nat) (I : Nat → Int32) : va_W := [(Q 100, .inr (0, oK Q I))]
abbrev atK (dC : Nat → ClassId) (dI : Nat → Nat → Nat) (cI : ClassId) (Q : Nat → Nat) (AA : Nat → Prop) (u : (Nat → Int32)) (t : State) : Prop :=
  va_P (dC, dI) vwCl (wK cI Q u) t.heap ∧ va_K (dC, dI) vwCl [(cI, .int)] t ∧ va_D AA (wK cI Q u)
def oN (Q : Nat → Nat) (I : Nat → Int32) : List Value := [.ref (Q 0), .ref (Q 1), .int (I 2), .int (I 3)]
def wN (cI : ClassId) (Q : Nat → Nat) (I : Nat → Int32) (A : Nat → Nat → Int32) : va_W := [(Q 100, .inr (1, oN Q I)), (Q 0, .inl (cI, 20, .inl (A 0))), (Q 1, .inl (cI, 240, .inl (A 1)))]
abbrev atN (dC : Nat → ClassId) (dI : Nat → Nat → Nat) (cI : ClassId) (Q : Nat → Nat) (AA : Nat → Prop) (u : (Nat → Int32) × (Nat → Nat → Int32)) (t : State) : Prop :=
  va_P (dC, dI) vwCl (wN cI Q u.1 u.2) t.heap ∧ va_K (dC, dI) vwCl [(cI, .int)] t ∧ va_D AA (wN cI Q u.1 u.2)
theorem wNA_0 (cI : ClassId) (Q : Nat → Nat) (I : Nat → Int32) (A : Nat → Nat → Int32) (x : Nat → Int32) : (wN cI Q I A).set 1 (Q 0, .inl (cI, 20, .inl x)) = wN cI Q I (va_up A 0 x) := rfl
theorem wNA_0c (cI : ClassId) (Q : Nat → Nat) (I : Nat → Int32) (A : Nat → Nat → Int32) (y x : Nat → Int32) : (wN cI Q I (va_up A 0 y)).set 1 (Q 0, .inl (cI, 20, .inl x)) = wN cI Q I (va_up A 0 x) := by
  rw [wNA_0, vupc]
theorem wNA_1 (cI : ClassId) (Q : Nat → Nat) (I : Nat → Int32) (A : Nat → Nat → Int32) (x : Nat → Int32) : (wN cI Q I A).set 2 (Q 1, .inl (cI, 240, .inl x)) = wN cI Q I (va_up A 1 x) := rfl
theorem wNA_1c (cI : ClassId) (Q : Nat → Nat) (I : Nat → Int32) (A : Nat → Nat → Int32) (y x : Nat → Int32) : (wN cI Q I (va_up A 1 y)).set 2 (Q 1, .inl (cI, 240, .inl x)) = wN cI Q I (va_up A 1 x) := by
  rw [wNA_1, vupc]
theorem wNI_2 (cI : ClassId) (Q : Nat → Nat) (I : Nat → Int32) (A : Nat → Nat → Int32) (x : Int32) : (wN cI Q I A).set 0 (Q 100, .inr (1, (oN Q I).set 2 (.int x))) = wN cI Q (upd I 2 x) A := rfl
theorem wNI_2c (cI : ClassId) (Q : Nat → Nat) (I : Nat → Int32) (A : Nat → Nat → Int32) (y x : Int32) : (wN cI Q (upd I 2 y) A).set 0 (Q 100, .inr (1, (oN Q (upd I 2 y)).set 2 (.int x))) = wN cI Q (upd I 2 x) A := by
  rw [wNI_2, updc]
theorem wNI_3 (cI : ClassId) (Q : Nat → Nat) (I : Nat → Int32) (A : Nat → Nat → Int32) (x : Int32) : (wN cI Q I A).set 0 (Q 100, .inr (1, (oN Q I).set 3 (.int x))) = wN cI Q (upd I 3 x) A := rfl
theorem wNI_3c (cI : ClassId) (Q : Nat → Nat) (I : Nat → Int32) (A : Nat → Nat → Int32) (y x : Int32) : (wN cI Q (upd I 3 y) A).set 0 (Q 100, .inr (1, (oN Q (upd I 3 y)).set 3 (.int x))) = wN cI Q (upd I 3 x) A := by
  rw [wNI_3, updc]
def oT (Q : Nat → Nat) (I : Nat → Int32) : List Value := [.ref (Q 0), .int (I 1), .int (I 2), .int (I 3)]
def wT (cI : ClassId) (Q : Nat → Nat) (I : Nat → Int32) (A : Nat → Nat → Int32) : va_W := [(Q 100, .inr (2, oT Q I)), (Q 0, .inl (cI, 40, .inl (A 0)))]
abbrev atT (dC : Nat → ClassId) (dI : Nat → Nat → Nat) (cI : ClassId) (Q : Nat → Nat) (AA : Nat → Prop) (u : (Nat → Int32) × (Nat → Nat → Int32)) (t : State) : Prop :=
  va_P (dC, dI) vwCl (wT cI Q u.1 u.2) t.heap ∧ va_K (dC, dI) vwCl [(cI, .int)] t ∧ va_D AA (wT cI Q u.1 u.2)
theorem wTA_0 (cI : ClassId) (Q : Nat → Nat) (I : Nat → Int32) (A : Nat → Nat → Int32) (x : Nat → Int32) : (wT cI Q I A).set 1 (Q 0, .inl (cI, 40, .inl x)) = wT cI Q I (va_up A 0 x) := rfl
theorem wTA_0c (cI : ClassId) (Q : Nat → Nat) (I : Nat → Int32) (A : Nat → Nat → Int32) (y x : Nat → Int32) : (wT cI Q I (va_up A 0 y)).set 1 (Q 0, .inl (cI, 40, .inl x)) = wT cI Q I (va_up A 0 x) := by
  rw [wTA_0, vupc]
theorem wTI_1 (cI : ClassId) (Q : Nat → Nat) (I : Nat → Int32) (A : Nat → Nat → Int32) (x : Int32) : (wT cI Q I A).set 0 (Q 100, .inr (2, (oT Q I).set 1 (.int x))) = wT cI Q (upd I 1 x) A := rfl
theorem wTI_1c (cI : ClassId) (Q : Nat → Nat) (I : Nat → Int32) (A : Nat → Nat → Int32) (y x : Int32) : (wT cI Q (upd I 1 y) A).set 0 (Q 100, .inr (2, (oT Q (upd I 1 y)).set 1 (.int x))) = wT cI Q (upd I 1 x) A := by
  rw [wTI_1, updc]
theorem wTI_2 (cI : ClassId) (Q : Nat → Nat) (I : Nat → Int32) (A : Nat → Nat → Int32) (x : Int32) : (wT cI Q I A).set 0 (Q 100, .inr (2, (oT Q I).set 2 (.int x))) = wT cI Q (upd I 2 x) A := rfl
theorem wTI_2c (cI : ClassId) (Q : Nat → Nat) (I : Nat → Int32) (A : Nat → Nat → Int32) (y x : Int32) : (wT cI Q (upd I 2 y) A).set 0 (Q 100, .inr (2, (oT Q (upd I 2 y)).set 2 (.int x))) = wT cI Q (upd I 2 x) A := by
  rw [wTI_2, updc]
theorem wTI_3 (cI : ClassId) (Q : Nat → Nat) (I : Nat → Int32) (A : Nat → Nat → Int32) (x : Int32) : (wT cI Q I A).set 0 (Q 100, .inr (2, (oT Q I).set 3 (.int x))) = wT cI Q (upd I 3 x) A := rfl
theorem wTI_3c (cI : ClassId) (Q : Nat → Nat) (I : Nat → Int32) (A : Nat → Nat → Int32) (y x : Int32) : (wT cI Q (upd I 3 y) A).set 0 (Q 100, .inr (2, (oT Q (upd I 3 y)).set 3 (.int x))) = wT cI Q (upd I 3 x) A := by
  rw [wTI_3, updc]
def oX (Q : Nat → Nat) (I : Nat → Int32) : List Value := [.ref (Q 0), .int (I 1)]
def wX (cI : ClassId) (Q : Nat → Nat) (I : Nat → Int32) (A : Nat → Nat → Int32) : va_W := [(Q 100, .inr (3, oX Q I)), (Q 0, .inl (cI, 12, .inl (A 0)))]
abbrev atX (dC : Nat → ClassId) (dI : Nat → Nat → Nat) (cI : ClassId) (Q : Nat → Nat) (AA : Nat → Prop) (u : (Nat → Int32) × (Nat → Nat → Int32)) (t : State) : Prop :=
  va_P (dC, dI) vwCl (wX cI Q u.1 u.2) t.heap ∧ va_K (dC, dI) vwCl [(cI, .int)] t ∧ va_D AA (wX cI Q u.1 u.2)
theorem wXA_0 (cI : ClassId) (Q : Nat → Nat) (I : Nat → Int32) (A : Nat → Nat → Int32) (x : Nat → Int32) : (wX cI Q I A).set 1 (Q 0, .inl (cI, 12, .inl x)) = wX cI Q I (va_up A 0 x) := rfl
theorem wXA_0c (cI : ClassId) (Q : Nat → Nat) (I : Nat → Int32) (A : Nat → Nat → Int32) (y x : Nat → Int32) : (wX cI Q I (va_up A 0 y)).set 1 (Q 0, .inl (cI, 12, .inl x)) = wX cI Q I (va_up A 0 x) := by
  rw [wXA_0, vupc]
theorem wXI_1 (cI : ClassId) (Q : Nat → Nat) (I : Nat → Int32) (A : Nat → Nat → Int32) (x : Int32) : (wX cI Q I A).set 0 (Q 100, .inr (3, (oX Q I).set 1 (.int x))) = wX cI Q (upd I 1 x) A := rfl
theorem wXI_1c (cI : ClassId) (Q : Nat → Nat) (I : Nat → Int32) (A : Nat → Nat → Int32) (y x : Int32) : (wX cI Q (upd I 1 y) A).set 0 (Q 100, .inr (3, (oX Q (upd I 1 y)).set 1 (.int x))) = wX cI Q (upd I 1 x) A := by
  rw [wXI_1, updc]
def oV (Q : Nat → Nat) (I : Nat → Int32) (L : Nat → Int64) : List Value := [.ref (Q 0), .int (I 1), .ref (Q 2), .ref (Q 3), .long (L 4), .int (I 5)]
def wV (cI : ClassId) (Q : Nat → Nat) (I : Nat → Int32) (L : Nat → Int64) (A : Nat → Nat → Int32) : va_W := [(Q 100, .inr (4, oV Q I L)), (Q 0, .inl (cI, 12, .inl (A 0))), (Q 2, .inl (cI, 128, .inl (A 2))), (Q 3, .inl (cI, 12, .inl (A 3)))]
abbrev atV (dC : Nat → ClassId) (dI : Nat → Nat → Nat) (cI : ClassId) (Q : Nat → Nat) (AA : Nat → Prop) (u : (Nat → Int32) × (Nat → Int64) × (Nat → Nat → Int32)) (t : State) : Prop :=
  va_P (dC, dI) vwCl (wV cI Q u.1 u.2.1 u.2.2) t.heap ∧ va_K (dC, dI) vwCl [(cI, .int)] t ∧ va_D AA (wV cI Q u.1 u.2.1 u.2.2)
theorem wVA_0 (cI : ClassId) (Q : Nat → Nat) (I : Nat → Int32) (L : Nat → Int64) (A : Nat → Nat → Int32) (x : Nat → Int32) : (wV cI Q I L A).set 1 (Q 0, .inl (cI, 12, .inl x)) = wV cI Q I L (va_up A 0 x) := rfl
theorem wVA_0c (cI : ClassId) (Q : Nat → Nat) (I : Nat → Int32) (L : Nat → Int64) (A : Nat → Nat → Int32) (y x : Nat → Int32) : (wV cI Q I L (va_up A 0 y)).set 1 (Q 0, .inl (cI, 12, .inl x)) = wV cI Q I L (va_up A 0 x) := by
  rw [wVA_0, vupc]
theorem wVI_1 (cI : ClassId) (Q : Nat → Nat) (I : Nat → Int32) (L : Nat → Int64) (A : Nat → Nat → Int32) (x : Int32) : (wV cI Q I L A).set 0 (Q 100, .inr (4, (oV Q I L).set 1 (.int x))) = wV cI Q (upd I 1 x) L A := rfl
theorem wVI_1c (cI : ClassId) (Q : Nat → Nat) (I : Nat → Int32) (L : Nat → Int64) (A : Nat → Nat → Int32) (y x : Int32) : (wV cI Q (upd I 1 y) L A).set 0 (Q 100, .inr (4, (oV Q (upd I 1 y) L).set 1 (.int x))) = wV cI Q (upd I 1 x) L A := by
  rw [wVI_1, updc]
theorem wVA_2 (cI : ClassId) (Q : Nat → Nat) (I : Nat → Int32) (L : Nat → Int64) (A : Nat → Nat → Int32) (x : Nat → Int32) : (wV cI Q I L A).set 2 (Q 2, .inl (cI, 128, .inl x)) = wV cI Q I L (va_up A 2 x) := rfl
theorem wVA_2c (cI : ClassId) (Q : Nat → Nat) (I : Nat → Int32) (L : Nat → Int64) (A : Nat → Nat → Int32) (y x : Nat → Int32) : (wV cI Q I L (va_up A 2 y)).set 2 (Q 2, .inl (cI, 128, .inl x)) = wV cI Q I L (va_up A 2 x) := by
  rw [wVA_2, vupc]
theorem wVA_3 (cI : ClassId) (Q : Nat → Nat) (I : Nat → Int32) (L : Nat → Int64) (A : Nat → Nat → Int32) (x : Nat → Int32) : (wV cI Q I L A).set 3 (Q 3, .inl (cI, 12, .inl x)) = wV cI Q I L (va_up A 3 x) := rfl
theorem wVA_3c (cI : ClassId) (Q : Nat → Nat) (I : Nat → Int32) (L : Nat → Int64) (A : Nat → Nat → Int32) (y x : Nat → Int32) : (wV cI Q I L (va_up A 3 y)).set 3 (Q 3, .inl (cI, 12, .inl x)) = wV cI Q I L (va_up A 3 x) := by
  rw [wVA_3, vupc]
theorem wVL_4 (cI : ClassId) (Q : Nat → Nat) (I : Nat → Int32) (L : Nat → Int64) (A : Nat → Nat → Int32) (x : Int64) : (wV cI Q I L A).set 0 (Q 100, .inr (4, (oV Q I L).set 4 (.long x))) = wV cI Q I (vp_updL L 4 x) A := rfl
theorem wVI_5 (cI : ClassId) (Q : Nat → Nat) (I : Nat → Int32) (L : Nat → Int64) (A : Nat → Nat → Int32) (x : Int32) : (wV cI Q I L A).set 0 (Q 100, .inr (4, (oV Q I L).set 5 (.int x))) = wV cI Q (upd I 5 x) L A := rfl
theorem wVI_5c (cI : ClassId) (Q : Nat → Nat) (I : Nat → Int32) (L : Nat → Int64) (A : Nat → Nat → Int32) (y x : Int32) : (wV cI Q (upd I 5 y) L A).set 0 (Q 100, .inr (4, (oV Q (upd I 5 y) L).set 5 (.int x))) = wV cI Q (upd I 5 x) L A := by
  rw [wVI_5, updc]
