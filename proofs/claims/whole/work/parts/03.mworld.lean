def oM (Q : Nat → Nat) (I : Nat → Int32) : List Value := [.ref (Q 0), .int (I 1), .ref (Q 2), .ref (Q 3), .ref (Q 4), .ref (Q 5), .int (I 6), .ref (Q 7), .int (I 8), .ref (Q 9), .int (I 10), .ref (Q 11), .int (I 12), .ref (Q 13), .ref (Q 14), .ref (Q 15), .ref (Q 16), .ref (Q 17), .ref (Q 18), .ref (Q 19), .ref (Q 20), .ref (Q 21), .int (I 22), .int (I 23), .ref (Q 24), .ref (Q 25), .int (I 26), .int (I 27), .int (I 28), .ref (Q 29), .int (I 30), .ref (Q 31), .ref (Q 32), .ref (Q 33), .ref (Q 34), .int (I 35)]
def wM (cI cB cJ : ClassId) (Q : Nat → Nat) (B : Nat → Nat → Int64) (I : Nat → Int32) (A : Nat → Nat → Int32) : va_W := [(Q 100, .inr (6, oM Q I)), (Q 0, .inl (cB, 40, .inl (A 0))), (Q 2, .inl (cI, 500, .inl (A 2))), (Q 3, .inl (cI, 1600, .inl (A 3))), (Q 4, .inl (cI, 1600, .inl (A 4))), (Q 5, .inl (cI, 100, .inl (A 5))), (Q 7, .inl (cB, 64, .inl (A 7))), (Q 9, .inl (cI, 2400, .inl (A 9))), (Q 11, .inl (cI, 12, .inl (A 11))), (Q 13, .inl (cI, 160, .inl (A 13))), (Q 14, .inl (cI, 160, .inl (A 14))), (Q 15, .inl (cI, 20, .inl (A 15))), (Q 16, .inl (cJ, 7, .inr (.inl (B 16)))), (Q 17, .inl (cJ, 14, .inr (.inl (B 17)))), (Q 18, .inl (cJ, 13, .inr (.inl (B 18)))), (Q 19, .inl (cJ, 20, .inr (.inl (B 19)))), (Q 20, .inl (cJ, 12, .inr (.inl (B 20)))), (Q 21, .inl (cB, 64, .inl (A 21))), (Q 24, .inl (cI, 16, .inl (A 24))), (Q 25, .inl (cI, 16, .inl (A 25))), (Q 29, .inl (cI, 2400, .inl (A 29))), (Q 31, .inl (cB, 64, .inl (A 31))), (Q 32, .inl (cB, 64, .inl (A 32))), (Q 33, .inl (cI, 128, .inl (A 33))), (Q 34, .inl (cI, 12, .inl (A 34)))]
abbrev tM (cI cB cJ : ClassId) : List (ClassId × FieldType) := [(cI, .int), (cB, .byte), (cJ, .long)]
abbrev atM (dC : Nat → ClassId) (dI : Nat → Nat → Nat) (cI cB cJ : ClassId) (Q : Nat → Nat) (B : Nat → Nat → Int64) (AA : Nat → Prop) (u : (Nat → Int32) × (Nat → Nat → Int32)) (t : State) : Prop :=
  va_P (dC, dI) vwCl (wM cI cB cJ Q B u.1 u.2) t.heap ∧ va_K (dC, dI) vwCl (tM cI cB cJ) t ∧ va_D AA (wM cI cB cJ Q B u.1 u.2)
theorem updc (f : Nat → Int32) (k : Nat) (a b : Int32) : upd (upd f k a) k b = upd f k b := by
  funext j; unfold upd; by_cases h : j = k <;> simp [h]
theorem vupc {α : Type} (f : Nat → α) (k : Nat) (a b : α) : va_up (va_up f k a) k b = va_up f k b := by
  funext j; unfold va_up; by_cases h : j = k <;> simp [h]
theorem wMA_0 (cI cB cJ : ClassId) (Q : Nat → Nat) (B : Nat → Nat → Int64) (I : Nat → Int32) (A : Nat → Nat → Int32) (x : Nat → Int32) : (wM cI cB cJ Q B I A).set 1 (Q 0, .inl (cB, 40, .inl x)) = wM cI cB cJ Q B I (va_up A 0 x) := rfl
theorem wMA_0c (cI cB cJ : ClassId) (Q : Nat → Nat) (B : Nat → Nat → Int64) (I : Nat → Int32) (A : Nat → Nat → Int32) (y x : Nat → Int32) : (wM cI cB cJ Q B I (va_up A 0 y)).set 1 (Q 0, .inl (cB, 40, .inl x)) = wM cI cB cJ Q B I (va_up A 0 x) := by
  rw [wMA_0, vupc]
theorem wMI_1 (cI cB cJ : ClassId) (Q : Nat → Nat) (B : Nat → Nat → Int64) (I : Nat → Int32) (A : Nat → Nat → Int32) (x : Int32) : (wM cI cB cJ Q B I A).set 0 (Q 100, .inr (6, (oM Q I).set 1 (.int x))) = wM cI cB cJ Q B (upd I 1 x) A := rfl
theorem wMI_1c (cI cB cJ : ClassId) (Q : Nat → Nat) (B : Nat → Nat → Int64) (I : Nat → Int32) (A : Nat → Nat → Int32) (y x : Int32) : (wM cI cB cJ Q B (upd I 1 y) A).set 0 (Q 100, .inr (6, (oM Q (upd I 1 y)).set 1 (.int x))) = wM cI cB cJ Q B (upd I 1 x) A := by
  rw [wMI_1, updc]
theorem wMA_2 (cI cB cJ : ClassId) (Q : Nat → Nat) (B : Nat → Nat → Int64) (I : Nat → Int32) (A : Nat → Nat → Int32) (x : Nat → Int32) : (wM cI cB cJ Q B I A).set 2 (Q 2, .inl (cI, 500, .inl x)) = wM cI cB cJ Q B I (va_up A 2 x) := rfl
theorem wMA_2c (cI cB cJ : ClassId) (Q : Nat → Nat) (B : Nat → Nat → Int64) (I : Nat → Int32) (A : Nat → Nat → Int32) (y x : Nat → Int32) : (wM cI cB cJ Q B I (va_up A 2 y)).set 2 (Q 2, .inl (cI, 500, .inl x)) = wM cI cB cJ Q B I (va_up A 2 x) := by
  rw [wMA_2, vupc]
theorem wMA_3 (cI cB cJ : ClassId) (Q : Nat → Nat) (B : Nat → Nat → Int64) (I : Nat → Int32) (A : Nat → Nat → Int32) (x : Nat → Int32) : (wM cI cB cJ Q B I A).set 3 (Q 3, .inl (cI, 1600, .inl x)) = wM cI cB cJ Q B I (va_up A 3 x) := rfl
theorem wMA_3c (cI cB cJ : ClassId) (Q : Nat → Nat) (B : Nat → Nat → Int64) (I : Nat → Int32) (A : Nat → Nat → Int32) (y x : Nat → Int32) : (wM cI cB cJ Q B I (va_up A 3 y)).set 3 (Q 3, .inl (cI, 1600, .inl x)) = wM cI cB cJ Q B I (va_up A 3 x) := by
  rw [wMA_3, vupc]
theorem wMA_4 (cI cB cJ : ClassId) (Q : Nat → Nat) (B : Nat → Nat → Int64) (I : Nat → Int32) (A : Nat → Nat → Int32) (x : Nat → Int32) : (wM cI cB cJ Q B I A).set 4 (Q 4, .inl (cI, 1600, .inl x)) = wM cI cB cJ Q B I (va_up A 4 x) := rfl
theorem wMA_4c (cI cB cJ : ClassId) (Q : Nat → Nat) (B : Nat → Nat → Int64) (I : Nat → Int32) (A : Nat → Nat → Int32) (y x : Nat → Int32) : (wM cI cB cJ Q B I (va_up A 4 y)).set 4 (Q 4, .inl (cI, 1600, .inl x)) = wM cI cB cJ Q B I (va_up A 4 x) := by
  rw [wMA_4, vupc]
theorem wMA_5 (cI cB cJ : ClassId) (Q : Nat → Nat) (B : Nat → Nat → Int64) (I : Nat → Int32) (A : Nat → Nat → Int32) (x : Nat → Int32) : (wM cI cB cJ Q B I A).set 5 (Q 5, .inl (cI, 100, .inl x)) = wM cI cB cJ Q B I (va_up A 5 x) := rfl
theorem wMA_5c (cI cB cJ : ClassId) (Q : Nat → Nat) (B : Nat → Nat → Int64) (I : Nat → Int32) (A : Nat → Nat → Int32) (y x : Nat → Int32) : (wM cI cB cJ Q B I (va_up A 5 y)).set 5 (Q 5, .inl (cI, 100, .inl x)) = wM cI cB cJ Q B I (va_up A 5 x) := by
  rw [wMA_5, vupc]
theorem wMI_6 (cI cB cJ : ClassId) (Q : Nat → Nat) (B : Nat → Nat → Int64) (I : Nat → Int32) (A : Nat → Nat → Int32) (x : Int32) : (wM cI cB cJ Q B I A).set 0 (Q 100, .inr (6, (oM Q I).set 6 (.int x))) = wM cI cB cJ Q B (upd I 6 x) A := rfl
theorem wMI_6c (cI cB cJ : ClassId) (Q : Nat → Nat) (B : Nat → Nat → Int64) (I : Nat → Int32) (A : Nat → Nat → Int32) (y x : Int32) : (wM cI cB cJ Q B (upd I 6 y) A).set 0 (Q 100, .inr (6, (oM Q (upd I 6 y)).set 6 (.int x))) = wM cI cB cJ Q B (upd I 6 x) A := by
  rw [wMI_6, updc]
theorem wMA_7 (cI cB cJ : ClassId) (Q : Nat → Nat) (B : Nat → Nat → Int64) (I : Nat → Int32) (A : Nat → Nat → Int32) (x : Nat → Int32) : (wM cI cB cJ Q B I A).set 6 (Q 7, .inl (cB, 64, .inl x)) = wM cI cB cJ Q B I (va_up A 7 x) := rfl
theorem wMA_7c (cI cB cJ : ClassId) (Q : Nat → Nat) (B : Nat → Nat → Int64) (I : Nat → Int32) (A : Nat → Nat → Int32) (y x : Nat → Int32) : (wM cI cB cJ Q B I (va_up A 7 y)).set 6 (Q 7, .inl (cB, 64, .inl x)) = wM cI cB cJ Q B I (va_up A 7 x) := by
  rw [wMA_7, vupc]
theorem wMI_8 (cI cB cJ : ClassId) (Q : Nat → Nat) (B : Nat → Nat → Int64) (I : Nat → Int32) (A : Nat → Nat → Int32) (x : Int32) : (wM cI cB cJ Q B I A).set 0 (Q 100, .inr (6, (oM Q I).set 8 (.int x))) = wM cI cB cJ Q B (upd I 8 x) A := rfl
theorem wMI_8c (cI cB cJ : ClassId) (Q : Nat → Nat) (B : Nat → Nat → Int64) (I : Nat → Int32) (A : Nat → Nat → Int32) (y x : Int32) : (wM cI cB cJ Q B (upd I 8 y) A).set 0 (Q 100, .inr (6, (oM Q (upd I 8 y)).set 8 (.int x))) = wM cI cB cJ Q B (upd I 8 x) A := by
  rw [wMI_8, updc]
theorem wMA_9 (cI cB cJ : ClassId) (Q : Nat → Nat) (B : Nat → Nat → Int64) (I : Nat → Int32) (A : Nat → Nat → Int32) (x : Nat → Int32) : (wM cI cB cJ Q B I A).set 7 (Q 9, .inl (cI, 2400, .inl x)) = wM cI cB cJ Q B I (va_up A 9 x) := rfl
theorem wMA_9c (cI cB cJ : ClassId) (Q : Nat → Nat) (B : Nat → Nat → Int64) (I : Nat → Int32) (A : Nat → Nat → Int32) (y x : Nat → Int32) : (wM cI cB cJ Q B I (va_up A 9 y)).set 7 (Q 9, .inl (cI, 2400, .inl x)) = wM cI cB cJ Q B I (va_up A 9 x) := by
  rw [wMA_9, vupc]
theorem wMI_10 (cI cB cJ : ClassId) (Q : Nat → Nat) (B : Nat → Nat → Int64) (I : Nat → Int32) (A : Nat → Nat → Int32) (x : Int32) : (wM cI cB cJ Q B I A).set 0 (Q 100, .inr (6, (oM Q I).set 10 (.int x))) = wM cI cB cJ Q B (upd I 10 x) A := rfl
theorem wMI_10c (cI cB cJ : ClassId) (Q : Nat → Nat) (B : Nat → Nat → Int64) (I : Nat → Int32) (A : Nat → Nat → Int32) (y x : Int32) : (wM cI cB cJ Q B (upd I 10 y) A).set 0 (Q 100, .inr (6, (oM Q (upd I 10 y)).set 10 (.int x))) = wM cI cB cJ Q B (upd I 10 x) A := by
  rw [wMI_10, updc]
theorem wMA_11 (cI cB cJ : ClassId) (Q : Nat → Nat) (B : Nat → Nat → Int64) (I : Nat → Int32) (A : Nat → Nat → Int32) (x : Nat → Int32) : (wM cI cB cJ Q B I A).set 8 (Q 11, .inl (cI, 12, .inl x)) = wM cI cB cJ Q B I (va_up A 11 x) := rfl
theorem wMA_11c (cI cB cJ : ClassId) (Q : Nat → Nat) (B : Nat → Nat → Int64) (I : Nat → Int32) (A : Nat → Nat → Int32) (y x : Nat → Int32) : (wM cI cB cJ Q B I (va_up A 11 y)).set 8 (Q 11, .inl (cI, 12, .inl x)) = wM cI cB cJ Q B I (va_up A 11 x) := by
  rw [wMA_11, vupc]
theorem wMI_12 (cI cB cJ : ClassId) (Q : Nat → Nat) (B : Nat → Nat → Int64) (I : Nat → Int32) (A : Nat → Nat → Int32) (x : Int32) : (wM cI cB cJ Q B I A).set 0 (Q 100, .inr (6, (oM Q I).set 12 (.int x))) = wM cI cB cJ Q B (upd I 12 x) A := rfl
theorem wMI_12c (cI cB cJ : ClassId) (Q : Nat → Nat) (B : Nat → Nat → Int64) (I : Nat → Int32) (A : Nat → Nat → Int32) (y x : Int32) : (wM cI cB cJ Q B (upd I 12 y) A).set 0 (Q 100, .inr (6, (oM Q (upd I 12 y)).set 12 (.int x))) = wM cI cB cJ Q B (upd I 12 x) A := by
  rw [wMI_12, updc]
theorem wMA_13 (cI cB cJ : ClassId) (Q : Nat → Nat) (B : Nat → Nat → Int64) (I : Nat → Int32) (A : Nat → Nat → Int32) (x : Nat → Int32) : (wM cI cB cJ Q B I A).set 9 (Q 13, .inl (cI, 160, .inl x)) = wM cI cB cJ Q B I (va_up A 13 x) := rfl
theorem wMA_13c (cI cB cJ : ClassId) (Q : Nat → Nat) (B : Nat → Nat → Int64) (I : Nat → Int32) (A : Nat → Nat → Int32) (y x : Nat → Int32) : (wM cI cB cJ Q B I (va_up A 13 y)).set 9 (Q 13, .inl (cI, 160, .inl x)) = wM cI cB cJ Q B I (va_up A 13 x) := by
  rw [wMA_13, vupc]
theorem wMA_14 (cI cB cJ : ClassId) (Q : Nat → Nat) (B : Nat → Nat → Int64) (I : Nat → Int32) (A : Nat → Nat → Int32) (x : Nat → Int32) : (wM cI cB cJ Q B I A).set 10 (Q 14, .inl (cI, 160, .inl x)) = wM cI cB cJ Q B I (va_up A 14 x) := rfl
theorem wMA_14c (cI cB cJ : ClassId) (Q : Nat → Nat) (B : Nat → Nat → Int64) (I : Nat → Int32) (A : Nat → Nat → Int32) (y x : Nat → Int32) : (wM cI cB cJ Q B I (va_up A 14 y)).set 10 (Q 14, .inl (cI, 160, .inl x)) = wM cI cB cJ Q B I (va_up A 14 x) := by
  rw [wMA_14, vupc]
theorem wMA_15 (cI cB cJ : ClassId) (Q : Nat → Nat) (B : Nat → Nat → Int64) (I : Nat → Int32) (A : Nat → Nat → Int32) (x : Nat → Int32) : (wM cI cB cJ Q B I A).set 11 (Q 15, .inl (cI, 20, .inl x)) = wM cI cB cJ Q B I (va_up A 15 x) := rfl
theorem wMA_15c (cI cB cJ : ClassId) (Q : Nat → Nat) (B : Nat → Nat → Int64) (I : Nat → Int32) (A : Nat → Nat → Int32) (y x : Nat → Int32) : (wM cI cB cJ Q B I (va_up A 15 y)).set 11 (Q 15, .inl (cI, 20, .inl x)) = wM cI cB cJ Q B I (va_up A 15 x) := by
  rw [wMA_15, vupc]
theorem wMA_21 (cI cB cJ : ClassId) (Q : Nat → Nat) (B : Nat → Nat → Int64) (I : Nat → Int32) (A : Nat → Nat → Int32) (x : Nat → Int32) : (wM cI cB cJ Q B I A).set 17 (Q 21, .inl (cB, 64, .inl x)) = wM cI cB cJ Q B I (va_up A 21 x) := rfl
theorem wMA_21c (cI cB cJ : ClassId) (Q : Nat → Nat) (B : Nat → Nat → Int64) (I : Nat → Int32) (A : Nat → Nat → Int32) (y x : Nat → Int32) : (wM cI cB cJ Q B I (va_up A 21 y)).set 17 (Q 21, .inl (cB, 64, .inl x)) = wM cI cB cJ Q B I (va_up A 21 x) := by
  rw [wMA_21, vupc]
theorem wMI_22 (cI cB cJ : ClassId) (Q : Nat → Nat) (B : Nat → Nat → Int64) (I : Nat → Int32) (A : Nat → Nat → Int32) (x : Int32) : (wM cI cB cJ Q B I A).set 0 (Q 100, .inr (6, (oM Q I).set 22 (.int x))) = wM cI cB cJ Q B (upd I 22 x) A := rfl
theorem wMI_22c (cI cB cJ : ClassId) (Q : Nat → Nat) (B : Nat → Nat → Int64) (I : Nat → Int32) (A : Nat → Nat → Int32) (y x : Int32) : (wM cI cB cJ Q B (upd I 22 y) A).set 0 (Q 100, .inr (6, (oM Q (upd I 22 y)).set 22 (.int x))) = wM cI cB cJ Q B (upd I 22 x) A := by
  rw [wMI_22, updc]
theorem wMI_23 (cI cB cJ : ClassId) (Q : Nat → Nat) (B : Nat → Nat → Int64) (I : Nat → Int32) (A : Nat → Nat → Int32) (x : Int32) : (wM cI cB cJ Q B I A).set 0 (Q 100, .inr (6, (oM Q I).set 23 (.int x))) = wM cI cB cJ Q B (upd I 23 x) A := rfl
theorem wMI_23c (cI cB cJ : ClassId) (Q : Nat → Nat) (B : Nat → Nat → Int64) (I : Nat → Int32) (A : Nat → Nat → Int32) (y x : Int32) : (wM cI cB cJ Q B (upd I 23 y) A).set 0 (Q 100, .inr (6, (oM Q (upd I 23 y)).set 23 (.int x))) = wM cI cB cJ Q B (upd I 23 x) A := by
  rw [wMI_23, updc]
theorem wMA_24 (cI cB cJ : ClassId) (Q : Nat → Nat) (B : Nat → Nat → Int64) (I : Nat → Int32) (A : Nat → Nat → Int32) (x : Nat → Int32) : (wM cI cB cJ Q B I A).set 18 (Q 24, .inl (cI, 16, .inl x)) = wM cI cB cJ Q B I (va_up A 24 x) := rfl
theorem wMA_24c (cI cB cJ : ClassId) (Q : Nat → Nat) (B : Nat → Nat → Int64) (I : Nat → Int32) (A : Nat → Nat → Int32) (y x : Nat → Int32) : (wM cI cB cJ Q B I (va_up A 24 y)).set 18 (Q 24, .inl (cI, 16, .inl x)) = wM cI cB cJ Q B I (va_up A 24 x) := by
  rw [wMA_24, vupc]
theorem wMA_25 (cI cB cJ : ClassId) (Q : Nat → Nat) (B : Nat → Nat → Int64) (I : Nat → Int32) (A : Nat → Nat → Int32) (x : Nat → Int32) : (wM cI cB cJ Q B I A).set 19 (Q 25, .inl (cI, 16, .inl x)) = wM cI cB cJ Q B I (va_up A 25 x) := rfl
theorem wMA_25c (cI cB cJ : ClassId) (Q : Nat → Nat) (B : Nat → Nat → Int64) (I : Nat → Int32) (A : Nat → Nat → Int32) (y x : Nat → Int32) : (wM cI cB cJ Q B I (va_up A 25 y)).set 19 (Q 25, .inl (cI, 16, .inl x)) = wM cI cB cJ Q B I (va_up A 25 x) := by
  rw [wMA_25, vupc]
theorem wMI_26 (cI cB cJ : ClassId) (Q : Nat → Nat) (B : Nat → Nat → Int64) (I : Nat → Int32) (A : Nat → Nat → Int32) (x : Int32) : (wM cI cB cJ Q B I A).set 0 (Q 100, .inr (6, (oM Q I).set 26 (.int x))) = wM cI cB cJ Q B (upd I 26 x) A := rfl
theorem wMI_26c (cI cB cJ : ClassId) (Q : Nat → Nat) (B : Nat → Nat → Int64) (I : Nat → Int32) (A : Nat → Nat → Int32) (y x : Int32) : (wM cI cB cJ Q B (upd I 26 y) A).set 0 (Q 100, .inr (6, (oM Q (upd I 26 y)).set 26 (.int x))) = wM cI cB cJ Q B (upd I 26 x) A := by
  rw [wMI_26, updc]
theorem wMI_27 (cI cB cJ : ClassId) (Q : Nat → Nat) (B : Nat → Nat → Int64) (I : Nat → Int32) (A : Nat → Nat → Int32) (x : Int32) : (wM cI cB cJ Q B I A).set 0 (Q 100, .inr (6, (oM Q I).set 27 (.int x))) = wM cI cB cJ Q B (upd I 27 x) A := rfl
theorem wMI_27c (cI cB cJ : ClassId) (Q : Nat → Nat) (B : Nat → Nat → Int64) (I : Nat → Int32) (A : Nat → Nat → Int32) (y x : Int32) : (wM cI cB cJ Q B (upd I 27 y) A).set 0 (Q 100, .inr (6, (oM Q (upd I 27 y)).set 27 (.int x))) = wM cI cB cJ Q B (upd I 27 x) A := by
  rw [wMI_27, updc]
theorem wMI_28 (cI cB cJ : ClassId) (Q : Nat → Nat) (B : Nat → Nat → Int64) (I : Nat → Int32) (A : Nat → Nat → Int32) (x : Int32) : (wM cI cB cJ Q B I A).set 0 (Q 100, .inr (6, (oM Q I).set 28 (.int x))) = wM cI cB cJ Q B (upd I 28 x) A := rfl
theorem wMI_28c (cI cB cJ : ClassId) (Q : Nat → Nat) (B : Nat → Nat → Int64) (I : Nat → Int32) (A : Nat → Nat → Int32) (y x : Int32) : (wM cI cB cJ Q B (upd I 28 y) A).set 0 (Q 100, .inr (6, (oM Q (upd I 28 y)).set 28 (.int x))) = wM cI cB cJ Q B (upd I 28 x) A := by
  rw [wMI_28, updc]
theorem wMA_29 (cI cB cJ : ClassId) (Q : Nat → Nat) (B : Nat → Nat → Int64) (I : Nat → Int32) (A : Nat → Nat → Int32) (x : Nat → Int32) : (wM cI cB cJ Q B I A).set 20 (Q 29, .inl (cI, 2400, .inl x)) = wM cI cB cJ Q B I (va_up A 29 x) := rfl
theorem wMA_29c (cI cB cJ : ClassId) (Q : Nat → Nat) (B : Nat → Nat → Int64) (I : Nat → Int32) (A : Nat → Nat → Int32) (y x : Nat → Int32) : (wM cI cB cJ Q B I (va_up A 29 y)).set 20 (Q 29, .inl (cI, 2400, .inl x)) = wM cI cB cJ Q B I (va_up A 29 x) := by
  rw [wMA_29, vupc]
theorem wMI_30 (cI cB cJ : ClassId) (Q : Nat → Nat) (B : Nat → Nat → Int64) (I : Nat → Int32) (A : Nat → Nat → Int32) (x : Int32) : (wM cI cB cJ Q B I A).set 0 (Q 100, .inr (6, (oM Q I).set 30 (.int x))) = wM cI cB cJ Q B (upd I 30 x) A := rfl
theorem wMI_30c (cI cB cJ : ClassId) (Q : Nat → Nat) (B : Nat → Nat → Int64) (I : Nat → Int32) (A : Nat → Nat → Int32) (y x : Int32) : (wM cI cB cJ Q B (upd I 30 y) A).set 0 (Q 100, .inr (6, (oM Q (upd I 30 y)).set 30 (.int x))) = wM cI cB cJ Q B (upd I 30 x) A := by
  rw [wMI_30, updc]
theorem wMA_31 (cI cB cJ : ClassId) (Q : Nat → Nat) (B : Nat → Nat → Int64) (I : Nat → Int32) (A : Nat → Nat → Int32) (x : Nat → Int32) : (wM cI cB cJ Q B I A).set 21 (Q 31, .inl (cB, 64, .inl x)) = wM cI cB cJ Q B I (va_up A 31 x) := rfl
theorem wMA_31c (cI cB cJ : ClassId) (Q : Nat → Nat) (B : Nat → Nat → Int64) (I : Nat → Int32) (A : Nat → Nat → Int32) (y x : Nat → Int32) : (wM cI cB cJ Q B I (va_up A 31 y)).set 21 (Q 31, .inl (cB, 64, .inl x)) = wM cI cB cJ Q B I (va_up A 31 x) := by
  rw [wMA_31, vupc]
theorem wMA_32 (cI cB cJ : ClassId) (Q : Nat → Nat) (B : Nat → Nat → Int64) (I : Nat → Int32) (A : Nat → Nat → Int32) (x : Nat → Int32) : (wM cI cB cJ Q B I A).set 22 (Q 32, .inl (cB, 64, .inl x)) = wM cI cB cJ Q B I (va_up A 32 x) := rfl
theorem wMA_32c (cI cB cJ : ClassId) (Q : Nat → Nat) (B : Nat → Nat → Int64) (I : Nat → Int32) (A : Nat → Nat → Int32) (y x : Nat → Int32) : (wM cI cB cJ Q B I (va_up A 32 y)).set 22 (Q 32, .inl (cB, 64, .inl x)) = wM cI cB cJ Q B I (va_up A 32 x) := by
  rw [wMA_32, vupc]
theorem wMA_33 (cI cB cJ : ClassId) (Q : Nat → Nat) (B : Nat → Nat → Int64) (I : Nat → Int32) (A : Nat → Nat → Int32) (x : Nat → Int32) : (wM cI cB cJ Q B I A).set 23 (Q 33, .inl (cI, 128, .inl x)) = wM cI cB cJ Q B I (va_up A 33 x) := rfl
theorem wMA_33c (cI cB cJ : ClassId) (Q : Nat → Nat) (B : Nat → Nat → Int64) (I : Nat → Int32) (A : Nat → Nat → Int32) (y x : Nat → Int32) : (wM cI cB cJ Q B I (va_up A 33 y)).set 23 (Q 33, .inl (cI, 128, .inl x)) = wM cI cB cJ Q B I (va_up A 33 x) := by
  rw [wMA_33, vupc]
theorem wMA_34 (cI cB cJ : ClassId) (Q : Nat → Nat) (B : Nat → Nat → Int64) (I : Nat → Int32) (A : Nat → Nat → Int32) (x : Nat → Int32) : (wM cI cB cJ Q B I A).set 24 (Q 34, .inl (cI, 12, .inl x)) = wM cI cB cJ Q B I (va_up A 34 x) := rfl
theorem wMA_34c (cI cB cJ : ClassId) (Q : Nat → Nat) (B : Nat → Nat → Int64) (I : Nat → Int32) (A : Nat → Nat → Int32) (y x : Nat → Int32) : (wM cI cB cJ Q B I (va_up A 34 y)).set 24 (Q 34, .inl (cI, 12, .inl x)) = wM cI cB cJ Q B I (va_up A 34 x) := by
  rw [wMA_34, vupc]
theorem wMI_35 (cI cB cJ : ClassId) (Q : Nat → Nat) (B : Nat → Nat → Int64) (I : Nat → Int32) (A : Nat → Nat → Int32) (x : Int32) : (wM cI cB cJ Q B I A).set 0 (Q 100, .inr (6, (oM Q I).set 35 (.int x))) = wM cI cB cJ Q B (upd I 35 x) A := rfl
theorem wMI_35c (cI cB cJ : ClassId) (Q : Nat → Nat) (B : Nat → Nat → Int64) (I : Nat → Int32) (A : Nat → Nat → Int32) (y x : Int32) : (wM cI cB cJ Q B (upd I 35 y) A).set 0 (Q 100, .inr (6, (oM Q (upd I 35 y)).set 35 (.int x))) = wM cI cB cJ Q B (upd I 35 x) A := by
  rw [wMI_35, updc]
