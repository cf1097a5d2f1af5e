/-! what lies outside the class at the start -/
theorem es_a0 : Cond.arrayOf (.static "LeadSheets$Bodies" "STEPS" "[I") .int ∈ (flatC (Jvm.Cond.and given_1 narrow_1)) := by decide +kernel
theorem es_l0 : Cond.eq (.length (.static "LeadSheets$Bodies" "STEPS" "[I")) (.int (Int32.ofNat (sN 0))) ∈ (flatC (Jvm.Cond.and given_1 narrow_1)) := by decide +kernel
theorem es_e0 : ∀ j, j < sN 0 → Cond.eq (.elem (.static "LeadSheets$Bodies" "STEPS" "[I") (.int (Int32.ofNat j))) (.int (sF 0 j)) ∈ (flatC (Jvm.Cond.and given_1 narrow_1)) := by decide +kernel
theorem es_0 {args : Array Value} {s : State} (hs : ∀ c ∈ (flatC (Jvm.Cond.and given_1 narrow_1)), c.before args s = true) (ht : ∀ w ∈ lw_tbl, w.before args s = true) : ∃ a : Nat, va_Z "LeadSheets$Bodies" "STEPS" "[I" (.ref a) (fun q : Nat => s.heap.size ≤ q) s s.heap ∧ va_T .int a (sN 0) (fun j => .int (sF 0 j)) (fun q : Nat => s.heap.size ≤ q) s s.heap := by
  obtain ⟨a, h1, h2⟩ := va_Tof (tm := (.static "LeadSheets$Bodies" "STEPS" "[I")) (ty := .int) (N := sN 0) (f := fun j => .int (sF 0 j)) (A := fun q : Nat => s.heap.size ≤ q) (by decide +kernel) (hs _ es_a0) (va_eqt (hs _ es_l0)) (fun j hj => va_eqt (hs _ (es_e0 j hj))) (fun a h => Nat.not_le.mpr h)
  exact ⟨a, va_Zref (ht (.laysStatic "LeadSheets$Bodies" "STEPS" "[I") (by decide +kernel)) (ht (.initialized "LeadSheets$Bodies") (by decide +kernel)) h1 (fun a h => Nat.not_le.mpr h), h2⟩
theorem es_a1 : Cond.arrayOf (.static "LeadSheets$Notes" "LETTER_PITCHES" "[I") .int ∈ (flatC (Jvm.Cond.and given_1 narrow_1)) := by decide +kernel
theorem es_l1 : Cond.eq (.length (.static "LeadSheets$Notes" "LETTER_PITCHES" "[I")) (.int (Int32.ofNat (sN 1))) ∈ (flatC (Jvm.Cond.and given_1 narrow_1)) := by decide +kernel
theorem es_e1 : ∀ j, j < sN 1 → Cond.eq (.elem (.static "LeadSheets$Notes" "LETTER_PITCHES" "[I") (.int (Int32.ofNat j))) (.int (sF 1 j)) ∈ (flatC (Jvm.Cond.and given_1 narrow_1)) := by decide +kernel
theorem es_1 {args : Array Value} {s : State} (hs : ∀ c ∈ (flatC (Jvm.Cond.and given_1 narrow_1)), c.before args s = true) (ht : ∀ w ∈ lw_tbl, w.before args s = true) : ∃ a : Nat, va_Z "LeadSheets$Notes" "LETTER_PITCHES" "[I" (.ref a) (fun q : Nat => s.heap.size ≤ q) s s.heap ∧ va_T .int a (sN 1) (fun j => .int (sF 1 j)) (fun q : Nat => s.heap.size ≤ q) s s.heap := by
  obtain ⟨a, h1, h2⟩ := va_Tof (tm := (.static "LeadSheets$Notes" "LETTER_PITCHES" "[I")) (ty := .int) (N := sN 1) (f := fun j => .int (sF 1 j)) (A := fun q : Nat => s.heap.size ≤ q) (by decide +kernel) (hs _ es_a1) (va_eqt (hs _ es_l1)) (fun j hj => va_eqt (hs _ (es_e1 j hj))) (fun a h => Nat.not_le.mpr h)
  exact ⟨a, va_Zref (ht (.laysStatic "LeadSheets$Notes" "LETTER_PITCHES" "[I") (by decide +kernel)) (ht (.initialized "LeadSheets$Notes") (by decide +kernel)) h1 (fun a h => Nat.not_le.mpr h), h2⟩
theorem es_a2 : Cond.arrayOf (.static "LeadSheets$Steps" "DEGREES" "[I") .int ∈ (flatC (Jvm.Cond.and given_1 narrow_1)) := by decide +kernel
theorem es_l2 : Cond.eq (.length (.static "LeadSheets$Steps" "DEGREES" "[I")) (.int (Int32.ofNat (sN 2))) ∈ (flatC (Jvm.Cond.and given_1 narrow_1)) := by decide +kernel
theorem es_e2 : ∀ j, j < sN 2 → Cond.eq (.elem (.static "LeadSheets$Steps" "DEGREES" "[I") (.int (Int32.ofNat j))) (.int (sF 2 j)) ∈ (flatC (Jvm.Cond.and given_1 narrow_1)) := by decide +kernel
theorem es_2 {args : Array Value} {s : State} (hs : ∀ c ∈ (flatC (Jvm.Cond.and given_1 narrow_1)), c.before args s = true) (ht : ∀ w ∈ lw_tbl, w.before args s = true) : ∃ a : Nat, va_Z "LeadSheets$Steps" "DEGREES" "[I" (.ref a) (fun q : Nat => s.heap.size ≤ q) s s.heap ∧ va_T .int a (sN 2) (fun j => .int (sF 2 j)) (fun q : Nat => s.heap.size ≤ q) s s.heap := by
  obtain ⟨a, h1, h2⟩ := va_Tof (tm := (.static "LeadSheets$Steps" "DEGREES" "[I")) (ty := .int) (N := sN 2) (f := fun j => .int (sF 2 j)) (A := fun q : Nat => s.heap.size ≤ q) (by decide +kernel) (hs _ es_a2) (va_eqt (hs _ es_l2)) (fun j hj => va_eqt (hs _ (es_e2 j hj))) (fun a h => Nat.not_le.mpr h)
  exact ⟨a, va_Zref (ht (.laysStatic "LeadSheets$Steps" "DEGREES" "[I") (by decide +kernel)) (ht (.initialized "LeadSheets$Steps") (by decide +kernel)) h1 (fun a h => Nat.not_le.mpr h), h2⟩
theorem es_a3 : Cond.arrayOf (.static "LeadSheets$Steps" "HALF_TONES" "[I") .int ∈ (flatC (Jvm.Cond.and given_1 narrow_1)) := by decide +kernel
theorem es_l3 : Cond.eq (.length (.static "LeadSheets$Steps" "HALF_TONES" "[I")) (.int (Int32.ofNat (sN 3))) ∈ (flatC (Jvm.Cond.and given_1 narrow_1)) := by decide +kernel
theorem es_e3 : ∀ j, j < sN 3 → Cond.eq (.elem (.static "LeadSheets$Steps" "HALF_TONES" "[I") (.int (Int32.ofNat j))) (.int (sF 3 j)) ∈ (flatC (Jvm.Cond.and given_1 narrow_1)) := by decide +kernel
theorem es_3 {args : Array Value} {s : State} (hs : ∀ c ∈ (flatC (Jvm.Cond.and given_1 narrow_1)), c.before args s = true) (ht : ∀ w ∈ lw_tbl, w.before args s = true) : ∃ a : Nat, va_Z "LeadSheets$Steps" "HALF_TONES" "[I" (.ref a) (fun q : Nat => s.heap.size ≤ q) s s.heap ∧ va_T .int a (sN 3) (fun j => .int (sF 3 j)) (fun q : Nat => s.heap.size ≤ q) s s.heap := by
  obtain ⟨a, h1, h2⟩ := va_Tof (tm := (.static "LeadSheets$Steps" "HALF_TONES" "[I")) (ty := .int) (N := sN 3) (f := fun j => .int (sF 3 j)) (A := fun q : Nat => s.heap.size ≤ q) (by decide +kernel) (hs _ es_a3) (va_eqt (hs _ es_l3)) (fun j hj => va_eqt (hs _ (es_e3 j hj))) (fun a h => Nat.not_le.mpr h)
  exact ⟨a, va_Zref (ht (.laysStatic "LeadSheets$Steps" "HALF_TONES" "[I") (by decide +kernel)) (ht (.initialized "LeadSheets$Steps") (by decide +kernel)) h1 (fun a h => Nat.not_le.mpr h), h2⟩
theorem es_a4 : Cond.arrayOf (.static "LeadSheets$Tape" "BROUGHT" "[I") .int ∈ (flatC (Jvm.Cond.and given_1 narrow_1)) := by decide +kernel
theorem es_l4 : Cond.eq (.length (.static "LeadSheets$Tape" "BROUGHT" "[I")) (.int (Int32.ofNat (sN 4))) ∈ (flatC (Jvm.Cond.and given_1 narrow_1)) := by decide +kernel
theorem es_e4 : ∀ j, j < sN 4 → Cond.eq (.elem (.static "LeadSheets$Tape" "BROUGHT" "[I") (.int (Int32.ofNat j))) (.int (sF 4 j)) ∈ (flatC (Jvm.Cond.and given_1 narrow_1)) := by decide +kernel
theorem es_4 {args : Array Value} {s : State} (hs : ∀ c ∈ (flatC (Jvm.Cond.and given_1 narrow_1)), c.before args s = true) (ht : ∀ w ∈ lw_tbl, w.before args s = true) : ∃ a : Nat, va_Z "LeadSheets$Tape" "BROUGHT" "[I" (.ref a) (fun q : Nat => s.heap.size ≤ q) s s.heap ∧ va_T .int a (sN 4) (fun j => .int (sF 4 j)) (fun q : Nat => s.heap.size ≤ q) s s.heap := by
  obtain ⟨a, h1, h2⟩ := va_Tof (tm := (.static "LeadSheets$Tape" "BROUGHT" "[I")) (ty := .int) (N := sN 4) (f := fun j => .int (sF 4 j)) (A := fun q : Nat => s.heap.size ≤ q) (by decide +kernel) (hs _ es_a4) (va_eqt (hs _ es_l4)) (fun j hj => va_eqt (hs _ (es_e4 j hj))) (fun a h => Nat.not_le.mpr h)
  exact ⟨a, va_Zref (ht (.laysStatic "LeadSheets$Tape" "BROUGHT" "[I") (by decide +kernel)) (ht (.initialized "LeadSheets$Tape") (by decide +kernel)) h1 (fun a h => Nat.not_le.mpr h), h2⟩
theorem es_a5 : Cond.arrayOf (.static "LeadSheets$Tape" "KIND_STEPS" "[I") .int ∈ (flatC (Jvm.Cond.and given_1 narrow_1)) := by decide +kernel
theorem es_l5 : Cond.eq (.length (.static "LeadSheets$Tape" "KIND_STEPS" "[I")) (.int (Int32.ofNat (sN 5))) ∈ (flatC (Jvm.Cond.and given_1 narrow_1)) := by decide +kernel
theorem es_e5 : ∀ j, j < sN 5 → Cond.eq (.elem (.static "LeadSheets$Tape" "KIND_STEPS" "[I") (.int (Int32.ofNat j))) (.int (sF 5 j)) ∈ (flatC (Jvm.Cond.and given_1 narrow_1)) := by decide +kernel
theorem es_5 {args : Array Value} {s : State} (hs : ∀ c ∈ (flatC (Jvm.Cond.and given_1 narrow_1)), c.before args s = true) (ht : ∀ w ∈ lw_tbl, w.before args s = true) : ∃ a : Nat, va_Z "LeadSheets$Tape" "KIND_STEPS" "[I" (.ref a) (fun q : Nat => s.heap.size ≤ q) s s.heap ∧ va_T .int a (sN 5) (fun j => .int (sF 5 j)) (fun q : Nat => s.heap.size ≤ q) s s.heap := by
  obtain ⟨a, h1, h2⟩ := va_Tof (tm := (.static "LeadSheets$Tape" "KIND_STEPS" "[I")) (ty := .int) (N := sN 5) (f := fun j => .int (sF 5 j)) (A := fun q : Nat => s.heap.size ≤ q) (by decide +kernel) (hs _ es_a5) (va_eqt (hs _ es_l5)) (fun j hj => va_eqt (hs _ (es_e5 j hj))) (fun a h => Nat.not_le.mpr h)
  exact ⟨a, va_Zref (ht (.laysStatic "LeadSheets$Tape" "KIND_STEPS" "[I") (by decide +kernel)) (ht (.initialized "LeadSheets$Tape") (by decide +kernel)) h1 (fun a h => Nat.not_le.mpr h), h2⟩
theorem es_a6 : Cond.arrayOf (.static "LeadSheets$Tape" "NEEDED" "[I") .int ∈ (flatC (Jvm.Cond.and given_1 narrow_1)) := by decide +kernel
theorem es_l6 : Cond.eq (.length (.static "LeadSheets$Tape" "NEEDED" "[I")) (.int (Int32.ofNat (sN 6))) ∈ (flatC (Jvm.Cond.and given_1 narrow_1)) := by decide +kernel
theorem es_e6 : ∀ j, j < sN 6 → Cond.eq (.elem (.static "LeadSheets$Tape" "NEEDED" "[I") (.int (Int32.ofNat j))) (.int (sF 6 j)) ∈ (flatC (Jvm.Cond.and given_1 narrow_1)) := by decide +kernel
theorem es_6 {args : Array Value} {s : State} (hs : ∀ c ∈ (flatC (Jvm.Cond.and given_1 narrow_1)), c.before args s = true) (ht : ∀ w ∈ lw_tbl, w.before args s = true) : ∃ a : Nat, va_Z "LeadSheets$Tape" "NEEDED" "[I" (.ref a) (fun q : Nat => s.heap.size ≤ q) s s.heap ∧ va_T .int a (sN 6) (fun j => .int (sF 6 j)) (fun q : Nat => s.heap.size ≤ q) s s.heap := by
  obtain ⟨a, h1, h2⟩ := va_Tof (tm := (.static "LeadSheets$Tape" "NEEDED" "[I")) (ty := .int) (N := sN 6) (f := fun j => .int (sF 6 j)) (A := fun q : Nat => s.heap.size ≤ q) (by decide +kernel) (hs _ es_a6) (va_eqt (hs _ es_l6)) (fun j hj => va_eqt (hs _ (es_e6 j hj))) (fun a h => Nat.not_le.mpr h)
  exact ⟨a, va_Zref (ht (.laysStatic "LeadSheets$Tape" "NEEDED" "[I") (by decide +kernel)) (ht (.initialized "LeadSheets$Tape") (by decide +kernel)) h1 (fun a h => Nat.not_le.mpr h), h2⟩
theorem es_a7 : Cond.arrayOf (.static "LeadSheets$Tape" "SIZE_STEPS" "[I") .int ∈ (flatC (Jvm.Cond.and given_1 narrow_1)) := by decide +kernel
theorem es_l7 : Cond.eq (.length (.static "LeadSheets$Tape" "SIZE_STEPS" "[I")) (.int (Int32.ofNat (sN 7))) ∈ (flatC (Jvm.Cond.and given_1 narrow_1)) := by decide +kernel
theorem es_e7 : ∀ j, j < sN 7 → Cond.eq (.elem (.static "LeadSheets$Tape" "SIZE_STEPS" "[I") (.int (Int32.ofNat j))) (.int (sF 7 j)) ∈ (flatC (Jvm.Cond.and given_1 narrow_1)) := by decide +kernel
theorem es_7 {args : Array Value} {s : State} (hs : ∀ c ∈ (flatC (Jvm.Cond.and given_1 narrow_1)), c.before args s = true) (ht : ∀ w ∈ lw_tbl, w.before args s = true) : ∃ a : Nat, va_Z "LeadSheets$Tape" "SIZE_STEPS" "[I" (.ref a) (fun q : Nat => s.heap.size ≤ q) s s.heap ∧ va_T .int a (sN 7) (fun j => .int (sF 7 j)) (fun q : Nat => s.heap.size ≤ q) s s.heap := by
  obtain ⟨a, h1, h2⟩ := va_Tof (tm := (.static "LeadSheets$Tape" "SIZE_STEPS" "[I")) (ty := .int) (N := sN 7) (f := fun j => .int (sF 7 j)) (A := fun q : Nat => s.heap.size ≤ q) (by decide +kernel) (hs _ es_a7) (va_eqt (hs _ es_l7)) (fun j hj => va_eqt (hs _ (es_e7 j hj))) (fun a h => Nat.not_le.mpr h)
  exact ⟨a, va_Zref (ht (.laysStatic "LeadSheets$Tape" "SIZE_STEPS" "[I") (by decide +kernel)) (ht (.initialized "LeadSheets$Tape") (by decide +kernel)) h1 (fun a h => Nat.not_le.mpr h), h2⟩
theorem es_a8 : Cond.arrayOf (.static "LeadSheets$Tape" "TAKEN" "[I") .int ∈ (flatC (Jvm.Cond.and given_1 narrow_1)) := by decide +kernel
theorem es_l8 : Cond.eq (.length (.static "LeadSheets$Tape" "TAKEN" "[I")) (.int (Int32.ofNat (sN 8))) ∈ (flatC (Jvm.Cond.and given_1 narrow_1)) := by decide +kernel
theorem es_e8 : ∀ j, j < sN 8 → Cond.eq (.elem (.static "LeadSheets$Tape" "TAKEN" "[I") (.int (Int32.ofNat j))) (.int (sF 8 j)) ∈ (flatC (Jvm.Cond.and given_1 narrow_1)) := by decide +kernel
theorem es_8 {args : Array Value} {s : State} (hs : ∀ c ∈ (flatC (Jvm.Cond.and given_1 narrow_1)), c.before args s = true) (ht : ∀ w ∈ lw_tbl, w.before args s = true) : ∃ a : Nat, va_Z "LeadSheets$Tape" "TAKEN" "[I" (.ref a) (fun q : Nat => s.heap.size ≤ q) s s.heap ∧ va_T .int a (sN 8) (fun j => .int (sF 8 j)) (fun q : Nat => s.heap.size ≤ q) s s.heap := by
  obtain ⟨a, h1, h2⟩ := va_Tof (tm := (.static "LeadSheets$Tape" "TAKEN" "[I")) (ty := .int) (N := sN 8) (f := fun j => .int (sF 8 j)) (A := fun q : Nat => s.heap.size ≤ q) (by decide +kernel) (hs _ es_a8) (va_eqt (hs _ es_l8)) (fun j hj => va_eqt (hs _ (es_e8 j hj))) (fun a h => Nat.not_le.mpr h)
  exact ⟨a, va_Zref (ht (.laysStatic "LeadSheets$Tape" "TAKEN" "[I") (by decide +kernel)) (ht (.initialized "LeadSheets$Tape") (by decide +kernel)) h1 (fun a h => Nat.not_le.mpr h), h2⟩
theorem et_x0 : Cond.exactly (.string "LeadSheets" 214) "java/lang/String" ∈ (flatC (Jvm.Cond.and given_1 narrow_1)) := by decide +kernel
theorem et_c0 : Cond.eq (.field (.string "LeadSheets" 214) "java/lang/String" "coder" "B") (.int 0) ∈ (flatC (Jvm.Cond.and given_1 narrow_1)) := by decide +kernel
theorem et_a0 : Cond.arrayOf (.field (.string "LeadSheets" 214) "java/lang/String" "value" "[B") .byte ∈ (flatC (Jvm.Cond.and given_1 narrow_1)) := by decide +kernel
theorem et_l0 : Cond.eq (.length (.field (.string "LeadSheets" 214) "java/lang/String" "value" "[B")) (.int (Int32.ofNat (jN 0))) ∈ (flatC (Jvm.Cond.and given_1 narrow_1)) := by decide +kernel
theorem et_e0 : ∀ j, j < jN 0 → Cond.eq (.elem (.field (.string "LeadSheets" 214) "java/lang/String" "value" "[B") (.int (Int32.ofNat j))) (.int (jF 0 j)) ∈ (flatC (Jvm.Cond.and given_1 narrow_1)) := by decide +kernel
theorem et_0 {args : Array Value} {s : State} (hs : ∀ c ∈ (flatC (Jvm.Cond.and given_1 narrow_1)), c.before args s = true) (ht : ∀ w ∈ lw_tbl, w.before args s = true) : ∃ a b : Nat, (va_O "java/lang/String" a (fun q : Nat => s.heap.size ≤ q) s s.heap ∧ va_OF "java/lang/String" "coder" "B" (.int 0) a (fun q : Nat => s.heap.size ≤ q) s s.heap ∧ va_OF "java/lang/String" "value" "[B" (.ref b) a (fun q : Nat => s.heap.size ≤ q) s s.heap ∧ va_T .byte b (jN 0) (fun j => .int (jF 0 j)) (fun q : Nat => s.heap.size ≤ q) s s.heap) ∧ vk_R (jCl 0) (jIx 0) (jTx 0) a s := by
  obtain ⟨aK, aV, ⟨h1, -⟩, h2⟩ := vk_Sof (args := args) (s := s) (N := 1) (tm := fun _ => (.string "LeadSheets" 214)) (len := [jN 0]) (byt := [jTb 0]) (A := fun q : Nat => s.heap.size ≤ q) (fun i hi => by obtain rfl : i = 0 := by omega
                                                                                                     decide +kernel) (fun _ _ => hs _ et_x0) (fun _ _ => hs _ et_c0) (fun _ _ => hs _ et_a0) (fun i hi => by obtain rfl : i = 0 := by omega
                                                                                                     exact hs _ et_l0) (fun i hi j hj => by obtain rfl : i = 0 := by omega
                                                                                                     exact hs _ (et_e0 j hj)) (fun i j hi hj h => absurd (by omega) h) (fun a h => Nat.not_le.mpr h)
  exact ⟨aK 0, aV 0, h1 0 (by omega), vk_R.of (A := args) (ht (.stringRef "LeadSheets" 214 " m 7 maj7 m7 dim dim7 m7b5 aug sus4 sus2 6 m6 9 maj9 m9 add9 5 7sus4 mmaj7 ?") (by decide +kernel)) (h2 0 (by omega))⟩
theorem et_x1 : Cond.exactly (.string "LeadSheets" 220) "java/lang/String" ∈ (flatC (Jvm.Cond.and given_1 narrow_1)) := by decide +kernel
theorem et_c1 : Cond.eq (.field (.string "LeadSheets" 220) "java/lang/String" "coder" "B") (.int 0) ∈ (flatC (Jvm.Cond.and given_1 narrow_1)) := by decide +kernel
theorem et_a1 : Cond.arrayOf (.field (.string "LeadSheets" 220) "java/lang/String" "value" "[B") .byte ∈ (flatC (Jvm.Cond.and given_1 narrow_1)) := by decide +kernel
theorem et_l1 : Cond.eq (.length (.field (.string "LeadSheets" 220) "java/lang/String" "value" "[B")) (.int (Int32.ofNat (jN 1))) ∈ (flatC (Jvm.Cond.and given_1 narrow_1)) := by decide +kernel
theorem et_e1 : ∀ j, j < jN 1 → Cond.eq (.elem (.field (.string "LeadSheets" 220) "java/lang/String" "value" "[B") (.int (Int32.ofNat j))) (.int (jF 1 j)) ∈ (flatC (Jvm.Cond.and given_1 narrow_1)) := by decide +kernel
theorem et_1 {args : Array Value} {s : State} (hs : ∀ c ∈ (flatC (Jvm.Cond.and given_1 narrow_1)), c.before args s = true) (ht : ∀ w ∈ lw_tbl, w.before args s = true) : ∃ a b : Nat, (va_O "java/lang/String" a (fun q : Nat => s.heap.size ≤ q) s s.heap ∧ va_OF "java/lang/String" "coder" "B" (.int 0) a (fun q : Nat => s.heap.size ≤ q) s s.heap ∧ va_OF "java/lang/String" "value" "[B" (.ref b) a (fun q : Nat => s.heap.size ≤ q) s s.heap ∧ va_T .byte b (jN 1) (fun j => .int (jF 1 j)) (fun q : Nat => s.heap.size ≤ q) s s.heap) ∧ vk_R (jCl 1) (jIx 1) (jTx 1) a s := by
  obtain ⟨aK, aV, ⟨h1, -⟩, h2⟩ := vk_Sof (args := args) (s := s) (N := 1) (tm := fun _ => (.string "LeadSheets" 220)) (len := [jN 1]) (byt := [jTb 1]) (A := fun q : Nat => s.heap.size ≤ q) (fun i hi => by obtain rfl : i = 0 := by omega
                                                                                                     decide +kernel) (fun _ _ => hs _ et_x1) (fun _ _ => hs _ et_c1) (fun _ _ => hs _ et_a1) (fun i hi => by obtain rfl : i = 0 := by omega
                                                                                                     exact hs _ et_l1) (fun i hi j hj => by obtain rfl : i = 0 := by omega
                                                                                                     exact hs _ (et_e1 j hj)) (fun i j hi hj h => absurd (by omega) h) (fun a h => Nat.not_le.mpr h)
  exact ⟨aK 0, aV 0, h1 0 (by omega), vk_R.of (A := args) (ht (.stringRef "LeadSheets" 220 "I bII II bIII III IV bV V bVI VI bVII VII") (by decide +kernel)) (h2 0 (by omega))⟩
theorem et_x2 : Cond.exactly (.string "LeadSheets" 225) "java/lang/String" ∈ (flatC (Jvm.Cond.and given_1 narrow_1)) := by decide +kernel
theorem et_c2 : Cond.eq (.field (.string "LeadSheets" 225) "java/lang/String" "coder" "B") (.int 0) ∈ (flatC (Jvm.Cond.and given_1 narrow_1)) := by decide +kernel
theorem et_a2 : Cond.arrayOf (.field (.string "LeadSheets" 225) "java/lang/String" "value" "[B") .byte ∈ (flatC (Jvm.Cond.and given_1 narrow_1)) := by decide +kernel
theorem et_l2 : Cond.eq (.length (.field (.string "LeadSheets" 225) "java/lang/String" "value" "[B")) (.int (Int32.ofNat (jN 2))) ∈ (flatC (Jvm.Cond.and given_1 narrow_1)) := by decide +kernel
theorem et_e2 : ∀ j, j < jN 2 → Cond.eq (.elem (.field (.string "LeadSheets" 225) "java/lang/String" "value" "[B") (.int (Int32.ofNat j))) (.int (jF 2 j)) ∈ (flatC (Jvm.Cond.and given_1 narrow_1)) := by decide +kernel
theorem et_2 {args : Array Value} {s : State} (hs : ∀ c ∈ (flatC (Jvm.Cond.and given_1 narrow_1)), c.before args s = true) (ht : ∀ w ∈ lw_tbl, w.before args s = true) : ∃ a b : Nat, (va_O "java/lang/String" a (fun q : Nat => s.heap.size ≤ q) s s.heap ∧ va_OF "java/lang/String" "coder" "B" (.int 0) a (fun q : Nat => s.heap.size ≤ q) s s.heap ∧ va_OF "java/lang/String" "value" "[B" (.ref b) a (fun q : Nat => s.heap.size ≤ q) s s.heap ∧ va_T .byte b (jN 2) (fun j => .int (jF 2 j)) (fun q : Nat => s.heap.size ≤ q) s s.heap) ∧ vk_R (jCl 2) (jIx 2) (jTx 2) a s := by
  obtain ⟨aK, aV, ⟨h1, -⟩, h2⟩ := vk_Sof (args := args) (s := s) (N := 1) (tm := fun _ => (.string "LeadSheets" 225)) (len := [jN 2]) (byt := [jTb 2]) (A := fun q : Nat => s.heap.size ≤ q) (fun i hi => by obtain rfl : i = 0 := by omega
                                                                                                     decide +kernel) (fun _ _ => hs _ et_x2) (fun _ _ => hs _ et_c2) (fun _ _ => hs _ et_a2) (fun i hi => by obtain rfl : i = 0 := by omega
                                                                                                     exact hs _ et_l2) (fun i hi j hj => by obtain rfl : i = 0 := by omega
                                                                                                     exact hs _ (et_e2 j hj)) (fun i j hi hj h => absurd (by omega) h) (fun a h => Nat.not_le.mpr h)
  exact ⟨aK 0, aV 0, h1 0 (by omega), vk_R.of (A := args) (ht (.stringRef "LeadSheets" 225 "7 65 43 42") (by decide +kernel)) (h2 0 (by omega))⟩
theorem et_x3 : Cond.exactly (.string "LeadSheets" 227) "java/lang/String" ∈ (flatC (Jvm.Cond.and given_1 narrow_1)) := by decide +kernel
theorem et_c3 : Cond.eq (.field (.string "LeadSheets" 227) "java/lang/String" "coder" "B") (.int 0) ∈ (flatC (Jvm.Cond.and given_1 narrow_1)) := by decide +kernel
theorem et_a3 : Cond.arrayOf (.field (.string "LeadSheets" 227) "java/lang/String" "value" "[B") .byte ∈ (flatC (Jvm.Cond.and given_1 narrow_1)) := by decide +kernel
theorem et_l3 : Cond.eq (.length (.field (.string "LeadSheets" 227) "java/lang/String" "value" "[B")) (.int (Int32.ofNat (jN 3))) ∈ (flatC (Jvm.Cond.and given_1 narrow_1)) := by decide +kernel
theorem et_e3 : ∀ j, j < jN 3 → Cond.eq (.elem (.field (.string "LeadSheets" 227) "java/lang/String" "value" "[B") (.int (Int32.ofNat j))) (.int (jF 3 j)) ∈ (flatC (Jvm.Cond.and given_1 narrow_1)) := by decide +kernel
theorem et_3 {args : Array Value} {s : State} (hs : ∀ c ∈ (flatC (Jvm.Cond.and given_1 narrow_1)), c.before args s = true) (ht : ∀ w ∈ lw_tbl, w.before args s = true) : ∃ a b : Nat, (va_O "java/lang/String" a (fun q : Nat => s.heap.size ≤ q) s s.heap ∧ va_OF "java/lang/String" "coder" "B" (.int 0) a (fun q : Nat => s.heap.size ≤ q) s s.heap ∧ va_OF "java/lang/String" "value" "[B" (.ref b) a (fun q : Nat => s.heap.size ≤ q) s s.heap ∧ va_T .byte b (jN 3) (fun j => .int (jF 3 j)) (fun q : Nat => s.heap.size ≤ q) s s.heap) ∧ vk_R (jCl 3) (jIx 3) (jTx 3) a s := by
  obtain ⟨aK, aV, ⟨h1, -⟩, h2⟩ := vk_Sof (args := args) (s := s) (N := 1) (tm := fun _ => (.string "LeadSheets" 227)) (len := [jN 3]) (byt := [jTb 3]) (A := fun q : Nat => s.heap.size ≤ q) (fun i hi => by obtain rfl : i = 0 := by omega
                                                                                                     decide +kernel) (fun _ _ => hs _ et_x3) (fun _ _ => hs _ et_c3) (fun _ _ => hs _ et_a3) (fun i hi => by obtain rfl : i = 0 := by omega
                                                                                                     exact hs _ et_l3) (fun i hi j hj => by obtain rfl : i = 0 := by omega
                                                                                                     exact hs _ (et_e3 j hj)) (fun i j hi hj h => absurd (by omega) h) (fun a h => Nat.not_le.mpr h)
  exact ⟨aK 0, aV 0, h1 0 (by omega), vk_R.of (A := args) (ht (.stringRef "LeadSheets" 227 " 6 64") (by decide +kernel)) (h2 0 (by omega))⟩
theorem et_x4 : Cond.exactly (.string "LeadSheets$Tape" 49) "java/lang/String" ∈ (flatC (Jvm.Cond.and given_1 narrow_1)) := by decide +kernel
theorem et_c4 : Cond.eq (.field (.string "LeadSheets$Tape" 49) "java/lang/String" "coder" "B") (.int 0) ∈ (flatC (Jvm.Cond.and given_1 narrow_1)) := by decide +kernel
theorem et_a4 : Cond.arrayOf (.field (.string "LeadSheets$Tape" 49) "java/lang/String" "value" "[B") .byte ∈ (flatC (Jvm.Cond.and given_1 narrow_1)) := by decide +kernel
theorem et_l4 : Cond.eq (.length (.field (.string "LeadSheets$Tape" 49) "java/lang/String" "value" "[B")) (.int (Int32.ofNat (jN 4))) ∈ (flatC (Jvm.Cond.and given_1 narrow_1)) := by decide +kernel
theorem et_e4 : ∀ j, j < jN 4 → Cond.eq (.elem (.field (.string "LeadSheets$Tape" 49) "java/lang/String" "value" "[B") (.int (Int32.ofNat j))) (.int (jF 4 j)) ∈ (flatC (Jvm.Cond.and given_1 narrow_1)) := by decide +kernel
theorem et_4 {args : Array Value} {s : State} (hs : ∀ c ∈ (flatC (Jvm.Cond.and given_1 narrow_1)), c.before args s = true) (ht : ∀ w ∈ lw_tbl, w.before args s = true) : ∃ a b : Nat, (va_O "java/lang/String" a (fun q : Nat => s.heap.size ≤ q) s s.heap ∧ va_OF "java/lang/String" "coder" "B" (.int 0) a (fun q : Nat => s.heap.size ≤ q) s s.heap ∧ va_OF "java/lang/String" "value" "[B" (.ref b) a (fun q : Nat => s.heap.size ≤ q) s s.heap ∧ va_T .byte b (jN 4) (fun j => .int (jF 4 j)) (fun q : Nat => s.heap.size ≤ q) s s.heap) ∧ vk_R (jCl 4) (jIx 4) (jTx 4) a s := by
  obtain ⟨aK, aV, ⟨h1, -⟩, h2⟩ := vk_Sof (args := args) (s := s) (N := 1) (tm := fun _ => (.string "LeadSheets$Tape" 49)) (len := [jN 4]) (byt := [jTb 4]) (A := fun q : Nat => s.heap.size ≤ q) (fun i hi => by obtain rfl : i = 0 := by omega
                                                                                                     decide +kernel) (fun _ _ => hs _ et_x4) (fun _ _ => hs _ et_c4) (fun _ _ => hs _ et_a4) (fun i hi => by obtain rfl : i = 0 := by omega
                                                                                                     exact hs _ et_l4) (fun i hi j hj => by obtain rfl : i = 0 := by omega
                                                                                                     exact hs _ (et_e4 j hj)) (fun i j hi hj h => absurd (by omega) h) (fun a h => Nat.not_le.mpr h)
  exact ⟨aK 0, aV 0, h1 0 (by omega), vk_R.of (A := args) (ht (.stringRef "LeadSheets$Tape" 49 "bb b  # ##") (by decide +kernel)) (h2 0 (by omega))⟩
theorem et_x5 : Cond.exactly (.string "LeadSheets$Tape" 76) "java/lang/String" ∈ (flatC (Jvm.Cond.and given_1 narrow_1)) := by decide +kernel
theorem et_c5 : Cond.eq (.field (.string "LeadSheets$Tape" 76) "java/lang/String" "coder" "B") (.int 0) ∈ (flatC (Jvm.Cond.and given_1 narrow_1)) := by decide +kernel
theorem et_a5 : Cond.arrayOf (.field (.string "LeadSheets$Tape" 76) "java/lang/String" "value" "[B") .byte ∈ (flatC (Jvm.Cond.and given_1 narrow_1)) := by decide +kernel
theorem et_l5 : Cond.eq (.length (.field (.string "LeadSheets$Tape" 76) "java/lang/String" "value" "[B")) (.int (Int32.ofNat (jN 5))) ∈ (flatC (Jvm.Cond.and given_1 narrow_1)) := by decide +kernel
theorem et_e5 : ∀ j, j < jN 5 → Cond.eq (.elem (.field (.string "LeadSheets$Tape" 76) "java/lang/String" "value" "[B") (.int (Int32.ofNat j))) (.int (jF 5 j)) ∈ (flatC (Jvm.Cond.and given_1 narrow_1)) := by decide +kernel
theorem et_5 {args : Array Value} {s : State} (hs : ∀ c ∈ (flatC (Jvm.Cond.and given_1 narrow_1)), c.before args s = true) (ht : ∀ w ∈ lw_tbl, w.before args s = true) : ∃ a b : Nat, (va_O "java/lang/String" a (fun q : Nat => s.heap.size ≤ q) s s.heap ∧ va_OF "java/lang/String" "coder" "B" (.int 0) a (fun q : Nat => s.heap.size ≤ q) s s.heap ∧ va_OF "java/lang/String" "value" "[B" (.ref b) a (fun q : Nat => s.heap.size ≤ q) s s.heap ∧ va_T .byte b (jN 5) (fun j => .int (jF 5 j)) (fun q : Nat => s.heap.size ≤ q) s s.heap) ∧ vk_R (jCl 5) (jIx 5) (jTx 5) a s := by
  obtain ⟨aK, aV, ⟨h1, -⟩, h2⟩ := vk_Sof (args := args) (s := s) (N := 1) (tm := fun _ => (.string "LeadSheets$Tape" 76)) (len := [jN 5]) (byt := [jTb 5]) (A := fun q : Nat => s.heap.size ≤ q) (fun i hi => by obtain rfl : i = 0 := by omega
                                                                                                     decide +kernel) (fun _ _ => hs _ et_x5) (fun _ _ => hs _ et_c5) (fun _ _ => hs _ et_a5) (fun i hi => by obtain rfl : i = 0 := by omega
                                                                                                     exact hs _ et_l5) (fun i hi j hj => by obtain rfl : i = 0 := by omega
                                                                                                     exact hs _ (et_e5 j hj)) (fun i j hi hj h => absurd (by omega) h) (fun a h => Nat.not_le.mpr h)
  exact ⟨aK 0, aV 0, h1 0 (by omega), vk_R.of (A := args) (ht (.stringRef "LeadSheets$Tape" 76 "6 69 7 maj7 M7 9 maj9 M9 11 maj11 M11 13 maj13 M13") (by decide +kernel)) (h2 0 (by omega))⟩
theorem et_x6 : Cond.exactly (.string "LeadSheets$Tape" 78) "java/lang/String" ∈ (flatC (Jvm.Cond.and given_1 narrow_1)) := by decide +kernel
theorem et_c6 : Cond.eq (.field (.string "LeadSheets$Tape" 78) "java/lang/String" "coder" "B") (.int 0) ∈ (flatC (Jvm.Cond.and given_1 narrow_1)) := by decide +kernel
theorem et_a6 : Cond.arrayOf (.field (.string "LeadSheets$Tape" 78) "java/lang/String" "value" "[B") .byte ∈ (flatC (Jvm.Cond.and given_1 narrow_1)) := by decide +kernel
theorem et_l6 : Cond.eq (.length (.field (.string "LeadSheets$Tape" 78) "java/lang/String" "value" "[B")) (.int (Int32.ofNat (jN 6))) ∈ (flatC (Jvm.Cond.and given_1 narrow_1)) := by decide +kernel
theorem et_e6 : ∀ j, j < jN 6 → Cond.eq (.elem (.field (.string "LeadSheets$Tape" 78) "java/lang/String" "value" "[B") (.int (Int32.ofNat j))) (.int (jF 6 j)) ∈ (flatC (Jvm.Cond.and given_1 narrow_1)) := by decide +kernel
theorem et_6 {args : Array Value} {s : State} (hs : ∀ c ∈ (flatC (Jvm.Cond.and given_1 narrow_1)), c.before args s = true) (ht : ∀ w ∈ lw_tbl, w.before args s = true) : ∃ a b : Nat, (va_O "java/lang/String" a (fun q : Nat => s.heap.size ≤ q) s s.heap ∧ va_OF "java/lang/String" "coder" "B" (.int 0) a (fun q : Nat => s.heap.size ≤ q) s s.heap ∧ va_OF "java/lang/String" "value" "[B" (.ref b) a (fun q : Nat => s.heap.size ≤ q) s s.heap ∧ va_T .byte b (jN 6) (fun j => .int (jF 6 j)) (fun q : Nat => s.heap.size ≤ q) s s.heap) ∧ vk_R (jCl 6) (jIx 6) (jTx 6) a s := by
  obtain ⟨aK, aV, ⟨h1, -⟩, h2⟩ := vk_Sof (args := args) (s := s) (N := 1) (tm := fun _ => (.string "LeadSheets$Tape" 78)) (len := [jN 6]) (byt := [jTb 6]) (A := fun q : Nat => s.heap.size ≤ q) (fun i hi => by obtain rfl : i = 0 := by omega
                                                                                                     decide +kernel) (fun _ _ => hs _ et_x6) (fun _ _ => hs _ et_c6) (fun _ _ => hs _ et_a6) (fun i hi => by obtain rfl : i = 0 := by omega
                                                                                                     exact hs _ et_l6) (fun i hi j hj => by obtain rfl : i = 0 := by omega
                                                                                                     exact hs _ (et_e6 j hj)) (fun i j hi hj h => absurd (by omega) h) (fun a h => Nat.not_le.mpr h)
  exact ⟨aK 0, aV 0, h1 0 (by omega), vk_R.of (A := args) (ht (.stringRef "LeadSheets$Tape" 78 "m - dim o aug + 5") (by decide +kernel)) (h2 0 (by omega))⟩
theorem et_x7 : Cond.exactly (.string "LeadSheets$Tape" 80) "java/lang/String" ∈ (flatC (Jvm.Cond.and given_1 narrow_1)) := by decide +kernel
theorem et_c7 : Cond.eq (.field (.string "LeadSheets$Tape" 80) "java/lang/String" "coder" "B") (.int 0) ∈ (flatC (Jvm.Cond.and given_1 narrow_1)) := by decide +kernel
theorem et_a7 : Cond.arrayOf (.field (.string "LeadSheets$Tape" 80) "java/lang/String" "value" "[B") .byte ∈ (flatC (Jvm.Cond.and given_1 narrow_1)) := by decide +kernel
theorem et_l7 : Cond.eq (.length (.field (.string "LeadSheets$Tape" 80) "java/lang/String" "value" "[B")) (.int (Int32.ofNat (jN 7))) ∈ (flatC (Jvm.Cond.and given_1 narrow_1)) := by decide +kernel
theorem et_e7 : ∀ j, j < jN 7 → Cond.eq (.elem (.field (.string "LeadSheets$Tape" 80) "java/lang/String" "value" "[B") (.int (Int32.ofNat j))) (.int (jF 7 j)) ∈ (flatC (Jvm.Cond.and given_1 narrow_1)) := by decide +kernel
theorem et_7 {args : Array Value} {s : State} (hs : ∀ c ∈ (flatC (Jvm.Cond.and given_1 narrow_1)), c.before args s = true) (ht : ∀ w ∈ lw_tbl, w.before args s = true) : ∃ a b : Nat, (va_O "java/lang/String" a (fun q : Nat => s.heap.size ≤ q) s s.heap ∧ va_OF "java/lang/String" "coder" "B" (.int 0) a (fun q : Nat => s.heap.size ≤ q) s s.heap ∧ va_OF "java/lang/String" "value" "[B" (.ref b) a (fun q : Nat => s.heap.size ≤ q) s s.heap ∧ va_T .byte b (jN 7) (fun j => .int (jF 7 j)) (fun q : Nat => s.heap.size ≤ q) s s.heap) ∧ vk_R (jCl 7) (jIx 7) (jTx 7) a s := by
  obtain ⟨aK, aV, ⟨h1, -⟩, h2⟩ := vk_Sof (args := args) (s := s) (N := 1) (tm := fun _ => (.string "LeadSheets$Tape" 80)) (len := [jN 7]) (byt := [jTb 7]) (A := fun q : Nat => s.heap.size ≤ q) (fun i hi => by obtain rfl : i = 0 := by omega
                                                                                                     decide +kernel) (fun _ _ => hs _ et_x7) (fun _ _ => hs _ et_c7) (fun _ _ => hs _ et_a7) (fun i hi => by obtain rfl : i = 0 := by omega
                                                                                                     exact hs _ et_l7) (fun i hi j hj => by obtain rfl : i = 0 := by omega
                                                                                                     exact hs _ (et_e7 j hj)) (fun i j hi hj h => absurd (by omega) h) (fun a h => Nat.not_le.mpr h)
  exact ⟨aK 0, aV 0, h1 0 (by omega), vk_R.of (A := args) (ht (.stringRef "LeadSheets$Tape" 80 "sus2 sus4 sus b5 #5 b9 #9 #11 b13 add9 add11 no3 no5") (by decide +kernel)) (h2 0 (by omega))⟩
theorem et_x8 : Cond.exactly (.string "LeadSheets$Text" 19) "java/lang/String" ∈ (flatC (Jvm.Cond.and given_1 narrow_1)) := by decide +kernel
theorem et_c8 : Cond.eq (.field (.string "LeadSheets$Text" 19) "java/lang/String" "coder" "B") (.int 0) ∈ (flatC (Jvm.Cond.and given_1 narrow_1)) := by decide +kernel
theorem et_a8 : Cond.arrayOf (.field (.string "LeadSheets$Text" 19) "java/lang/String" "value" "[B") .byte ∈ (flatC (Jvm.Cond.and given_1 narrow_1)) := by decide +kernel
theorem et_l8 : Cond.eq (.length (.field (.string "LeadSheets$Text" 19) "java/lang/String" "value" "[B")) (.int (Int32.ofNat (jN 8))) ∈ (flatC (Jvm.Cond.and given_1 narrow_1)) := by decide +kernel
theorem et_e8 : ∀ j, j < jN 8 → Cond.eq (.elem (.field (.string "LeadSheets$Text" 19) "java/lang/String" "value" "[B") (.int (Int32.ofNat j))) (.int (jF 8 j)) ∈ (flatC (Jvm.Cond.and given_1 narrow_1)) := by decide +kernel
theorem et_8 {args : Array Value} {s : State} (hs : ∀ c ∈ (flatC (Jvm.Cond.and given_1 narrow_1)), c.before args s = true) (ht : ∀ w ∈ lw_tbl, w.before args s = true) : ∃ a b : Nat, (va_O "java/lang/String" a (fun q : Nat => s.heap.size ≤ q) s s.heap ∧ va_OF "java/lang/String" "coder" "B" (.int 0) a (fun q : Nat => s.heap.size ≤ q) s s.heap ∧ va_OF "java/lang/String" "value" "[B" (.ref b) a (fun q : Nat => s.heap.size ≤ q) s s.heap ∧ va_T .byte b (jN 8) (fun j => .int (jF 8 j)) (fun q : Nat => s.heap.size ≤ q) s s.heap) ∧ vk_R (jCl 8) (jIx 8) (jTx 8) a s := by
  obtain ⟨aK, aV, ⟨h1, -⟩, h2⟩ := vk_Sof (args := args) (s := s) (N := 1) (tm := fun _ => (.string "LeadSheets$Text" 19)) (len := [jN 8]) (byt := [jTb 8]) (A := fun q : Nat => s.heap.size ≤ q) (fun i hi => by obtain rfl : i = 0 := by omega
                                                                                                     decide +kernel) (fun _ _ => hs _ et_x8) (fun _ _ => hs _ et_c8) (fun _ _ => hs _ et_a8) (fun i hi => by obtain rfl : i = 0 := by omega
                                                                                                     exact hs _ et_l8) (fun i hi j hj => by obtain rfl : i = 0 := by omega
                                                                                                     exact hs _ (et_e8 j hj)) (fun i j hi hj h => absurd (by omega) h) (fun a h => Nat.not_le.mpr h)
  exact ⟨aK 0, aV 0, h1 0 (by omega), vk_R.of (A := args) (ht (.stringRef "LeadSheets$Text" 19 "C D E F G A B") (by decide +kernel)) (h2 0 (by omega))⟩
theorem et_x9 : Cond.exactly (.string "LeadSheets$Text" 31) "java/lang/String" ∈ (flatC (Jvm.Cond.and given_1 narrow_1)) := by decide +kernel
theorem et_c9 : Cond.eq (.field (.string "LeadSheets$Text" 31) "java/lang/String" "coder" "B") (.int 0) ∈ (flatC (Jvm.Cond.and given_1 narrow_1)) := by decide +kernel
theorem et_a9 : Cond.arrayOf (.field (.string "LeadSheets$Text" 31) "java/lang/String" "value" "[B") .byte ∈ (flatC (Jvm.Cond.and given_1 narrow_1)) := by decide +kernel
theorem et_l9 : Cond.eq (.length (.field (.string "LeadSheets$Text" 31) "java/lang/String" "value" "[B")) (.int (Int32.ofNat (jN 9))) ∈ (flatC (Jvm.Cond.and given_1 narrow_1)) := by decide +kernel
theorem et_e9 : ∀ j, j < jN 9 → Cond.eq (.elem (.field (.string "LeadSheets$Text" 31) "java/lang/String" "value" "[B") (.int (Int32.ofNat j))) (.int (jF 9 j)) ∈ (flatC (Jvm.Cond.and given_1 narrow_1)) := by decide +kernel
theorem et_9 {args : Array Value} {s : State} (hs : ∀ c ∈ (flatC (Jvm.Cond.and given_1 narrow_1)), c.before args s = true) (ht : ∀ w ∈ lw_tbl, w.before args s = true) : ∃ a b : Nat, (va_O "java/lang/String" a (fun q : Nat => s.heap.size ≤ q) s s.heap ∧ va_OF "java/lang/String" "coder" "B" (.int 0) a (fun q : Nat => s.heap.size ≤ q) s s.heap ∧ va_OF "java/lang/String" "value" "[B" (.ref b) a (fun q : Nat => s.heap.size ≤ q) s s.heap ∧ va_T .byte b (jN 9) (fun j => .int (jF 9 j)) (fun q : Nat => s.heap.size ≤ q) s s.heap) ∧ vk_R (jCl 9) (jIx 9) (jTx 9) a s := by
  obtain ⟨aK, aV, ⟨h1, -⟩, h2⟩ := vk_Sof (args := args) (s := s) (N := 1) (tm := fun _ => (.string "LeadSheets$Text" 31)) (len := [jN 9]) (byt := [jTb 9]) (A := fun q : Nat => s.heap.size ≤ q) (fun i hi => by obtain rfl : i = 0 := by omega
                                                                                                     decide +kernel) (fun _ _ => hs _ et_x9) (fun _ _ => hs _ et_c9) (fun _ _ => hs _ et_a9) (fun i hi => by obtain rfl : i = 0 := by omega
                                                                                                     exact hs _ et_l9) (fun i hi j hj => by obtain rfl : i = 0 := by omega
                                                                                                     exact hs _ (et_e9 j hj)) (fun i j hi hj h => absurd (by omega) h) (fun a h => Nat.not_le.mpr h)
  exact ⟨aK 0, aV 0, h1 0 (by omega), vk_R.of (A := args) (ht (.stringRef "LeadSheets$Text" 31 "bb b  # ##") (by decide +kernel)) (h2 0 (by omega))⟩
theorem en_M : ∀ q ∈ nestM, Cond.methodLinkNest q.1 q.2.1 q.2.2.1 q.2.2.2 ∈ lw_tbl := by decide +kernel
theorem en_F : ∀ q ∈ nestF, Cond.fieldLinkNest q.1 q.2.1 q.2.2.1 q.2.2.2.1 q.2.2.2.2.1 q.2.2.2.2.2 ∈ lw_tbl := by decide +kernel
set_option maxRecDepth 100000 in
theorem cE_start {args : Array Value} {s : State} (hs : ∀ c ∈ (flatC (Jvm.Cond.and given_1 narrow_1)), c.before args s = true) (ht : ∀ w ∈ lw_tbl, w.before args s = true) : ∃ en : Nat → Nat, cE en (fun q : Nat => s.heap.size ≤ q) s s.heap := by
  obtain ⟨a0, p0⟩ := es_0 hs ht
  obtain ⟨a1, p1⟩ := es_1 hs ht
  obtain ⟨a2, p2⟩ := es_2 hs ht
  obtain ⟨a3, p3⟩ := es_3 hs ht
  obtain ⟨a4, p4⟩ := es_4 hs ht
  obtain ⟨a5, p5⟩ := es_5 hs ht
  obtain ⟨a6, p6⟩ := es_6 hs ht
  obtain ⟨a7, p7⟩ := es_7 hs ht
  obtain ⟨a8, p8⟩ := es_8 hs ht
  obtain ⟨b0, d0, q0⟩ := et_0 hs ht
  obtain ⟨b1, d1, q1⟩ := et_1 hs ht
  obtain ⟨b2, d2, q2⟩ := et_2 hs ht
  obtain ⟨b3, d3, q3⟩ := et_3 hs ht
  obtain ⟨b4, d4, q4⟩ := et_4 hs ht
  obtain ⟨b5, d5, q5⟩ := et_5 hs ht
  obtain ⟨b6, d6, q6⟩ := et_6 hs ht
  obtain ⟨b7, d7, q7⟩ := et_7 hs ht
  obtain ⟨b8, d8, q8⟩ := et_8 hs ht
  obtain ⟨b9, d9, q9⟩ := et_9 hs ht
  refine ⟨(va_up (va_up (va_up (va_up (va_up (va_up (va_up (va_up (va_up (va_up (va_up (va_up (va_up (va_up (va_up (va_up (va_up (va_up (va_up (va_up (va_up (va_up (va_up (va_up (va_up (va_up (va_up (va_up (va_up (fun _ => 0) 0 a0) 1 a1) 2 a2) 3 a3) 4 a4) 5 a5) 6 a6) 7 a7) 8 a8) 100 b0) 200 d0) 101 b1) 201 d1) 102 b2) 202 d2) 103 b3) 203 d3) 104 b4) 204 d4) 105 b5) 205 d5) 106 b6) 206 d6) 107 b7) 207 d7) 108 b8) 208 d8) 109 b9) 209 d9), ?_, ?_, ?_, ?_, fun q hq => va_Nw.of rfl (ht _ (en_M q hq)), fun q hq => va_Nw.of rfl (ht _ (en_F q hq))⟩
  · intro k hk
    match k, hk with
    | 0, _ => exact p0
    | 1, _ => exact p1
    | 2, _ => exact p2
    | 3, _ => exact p3
    | 4, _ => exact p4
    | 5, _ => exact p5
    | 6, _ => exact p6
    | 7, _ => exact p7
    | 8, _ => exact p8
    | k + 9, hk => omega
  · intro i hi
    match i, hi with
    | 0, _ => exact q0
    | 1, _ => exact q1
    | 2, _ => exact q2
    | 3, _ => exact q3
    | 4, _ => exact q4
    | 5, _ => exact q5
    | 6, _ => exact q6
    | 7, _ => exact q7
    | 8, _ => exact q8
    | 9, _ => exact q9
    | i + 10, hi => omega
  · exact va_Zof (ht (.laysStatic "java/lang/String" "COMPACT_STRINGS" "Z") (by decide +kernel)) (ht (.initialized "java/lang/String") (by decide +kernel)) (va_eqi (hs (.eq (.static "java/lang/String" "COMPACT_STRINGS" "Z") (.int 1)) (by decide +kernel))) (fun a h => Nat.not_le.mpr h)
  · rcases va_Zqof (A := fun q : Nat => s.heap.size ≤ q) (ht (.laysStatic "jdk/internal/util/Preconditions" "SIOOBE_FORMATTER" "Ljava/util/function/BiFunction;") (by decide +kernel)) (ht (.initialized "jdk/internal/util/Preconditions") (by decide +kernel)) (hs (.isRef (.static "jdk/internal/util/Preconditions" "SIOOBE_FORMATTER" "Ljava/util/function/BiFunction;")) (by decide +kernel)) (fun a h => Nat.not_le.mpr h) with h | ⟨t, h⟩
    · exact ⟨none, h⟩
    · exact ⟨some t, h⟩
