def fX5_init : Option ((Nat → Int32) × (Nat → Nat → Int32)) :=
  (some ((fun _ => 0), (fun _ _ => 0)))
set_option maxRecDepth 100000 in
set_option maxHeartbeats 4000000 in
theorem mX5_init (l : Launch) (dC : Nat → ClassId) (dI : Nat → Nat → Nat) (h0 sz : Nat) (z : (Nat → Int32) × (Nat → Nat → Int32)) (hf : fX5_init = some z) : Met l yX5_init wsX5_init ({ frames := 1, cells := 1, slots := 40, locals := 12 }) (va_Pc [.ref h0] (fun U => U.heap.size = sz ∧ va_P (dC, dI) vwCl [(h0, .inr (2, [.null, .int 0, .int 0, .int 0]))] U.heap ∧ va_K (dC, dI) vwCl [] U ∧ va_D (fun _ => True) [(h0, .inr (2, [.null, .int 0, .int 0, .int 0]))])) (va_Qv (fun (u : (Nat → Int32) × (Nat → Nat → Int32)) => u = z) (fun (u : (Nat → Int32) × (Nat → Nat → Int32)) (t : State) => ∃ (cI : ClassId) (Q : Nat → Nat), Q 100 = h0 ∧ atT dC dI cI Q (va_A [(h0, .inr (2, [.null, .int 0, .int 0, .int 0]))] sz) u t) (va_A [(h0, .inr (2, [.null, .int 0, .int 0, .int 0]))] sz)) 1 40 (va_A [(h0, .inr (2, [.null, .int 0, .int 0, .int 0]))] sz) := by
  refine Met.ofW (cc := cX5_init) (maxL := 1) (ret := none) (by decide) rfl ?_
  intro p e s m args below meth c s₁ BL hml hv
  obtain ⟨rfl, hsz, hP, hK, hD0⟩ := hv
  have hx := BL.exec
  have hb := BL.bytes
  have hr := BL.returns
  have hts := atoms_spec (ws := wsX5_init) BL.pre
  have hown : s.vm.findClass RX5 = some m.cls := findClass_of_methodNamed BL.named
  have hlocks := BL.notSynchronized
  have hin : meth.name = "<init>" := (name_of_methodNamed BL.named BL.method).1
  have hinX5 : ∀ w ∈ u_ws RX5 TX5 4, w ∈ wsX5_init := by decide +kernel
  have hk13 := hts (.fieldLink RX5 13 "LeadSheets$Tape" "bytes" "[I") (by decide +kernel)
  subst hsz
  have hD := hD0.self (sz := s.heap.size)
  generalize hAe : va_A [(h0, .inr (2, [.null, .int 0, .int 0, .int 0]))] s.heap.size = AA at hD ⊢
  have hA : ∀ q : Nat, s.heap.size ≤ q → AA q := fun q h => by rw [← hAe]; exact Or.inr h
  have hS : va_S AA s.heap s.heap [] := va_S.rf
  have hl := lv_entry ([.ref h0]) (n := 1) (Nat.le_of_ble_eq_true rfl)
  rw [lg_entry_eq]
  generalize (lg_sl ([.ref h0]) ++ List.replicate (1 - (lg_sl ([.ref h0])).length) Slot.unset).toArray = ls at hl ⊢
  have hl : lv_has ls 1 [(0, .ref h0)] := hl
  refine lv_aload_n hx hb dX5_init_0 rfl (lv_at hl 0 rfl) ?_
  refine W.objInit hx hb hown (hts (.methodLink RX5 7 objectInit) (by decide +kernel)) (hts (.instanceMethod objectInit) (by decide +kernel)) (hts (.code objectInit ⟨#[0xb1]⟩ 1 none) (by decide +kernel)) rfl (by rw [hml]; exact hl.1) rfl dX5_init_1 (Nat.le_of_ble_eq_true rfl) (Nat.le_of_ble_eq_true rfl) ?_
  refine W.eq (g2 := F0 m 4 ls []) rfl ?_
  refine lv_aload_n hx hb dX5_init_4 rfl (lv_at hl 0 rfl) ?_
  refine lv_bipush (v := (40 : Int32)) hx hb dX5_init_5 (by decide) ?_
  refine va_newa (atype := .int) (ty := .int) (a0 := (40, .inl (fun _ => 0))) (N' := 40) hx hb (hts (.arrayClass .int) (by decide +kernel)) rfl hK hP hD hS hA (nz_int 40) (by decide +kernel) (by decide +kernel) (by decide +kernel) (by decide +kernel) (by decide +kernel) dX5_init_7 (fun q0 cI H hK hP hD hS => ?_)
  have hK : va_K (dC, dI) vwCl [(cI, .int)] s := hK
  refine W.cs (cells' := 1) (slots' := 40) rfl rfl ?_
  have hP : va_P (dC, dI) vwCl [(h0, .inr (2, [.null, .int 0, .int 0, .int 0])), (q0, .inl (cI, 40, .inl (fun _ => 0)))] H := hP
  have hD : va_D AA [(h0, .inr (2, [.null, .int 0, .int 0, .int 0])), (q0, .inl (cI, 40, .inl (fun _ => 0)))] := hD
  refine va_putF (D := (dC, dI)) (ci := 2) (v := .ref q0) (ty := .array .int) (C := RX5) (T := TX5) (N := 4) hx hb hts hinX5 tyX5 tyX5_ok nmX5 hown hK hP hD hS 0 (fs := [.null, .int 0, .int 0, .int 0]) rfl rfl 0 (by decide) hk13 (fun _ h9 => h9) rfl hin rfl (by decide +kernel) rfl rfl (Nat.le_of_ble_eq_true rfl) dX5_init_9 (fun H locs hP hD hS => ?_)
  have hP : va_P (dC, dI) vwCl [(h0, .inr (2, [.ref q0, .int 0, .int 0, .int 0])), (q0, .inl (cI, 40, .inl (fun _ => 0)))] H := hP
  have hD : va_D AA [(h0, .inr (2, [.ref q0, .int 0, .int 0, .int 0])), (q0, .inl (cI, 40, .inl (fun _ => 0)))] := hD
  obtain ⟨Q, hQe⟩ : ∃ Q : Nat → Nat, Q = (va_up (va_up (fun _ => 0) 100 h0) 0 q0) := ⟨_, rfl⟩
  have hQ : Q 100 = h0 := by rw [hQe]; rfl
  have hPn : va_P (dC, dI) vwCl (wT cI Q (fun _ => 0) (fun _ _ => 0)) H := by rw [hQe]; exact hP
  have hDn : va_D AA (wT cI Q (fun _ => 0) (fun _ _ => 0)) := by rw [hQe]; exact hD
  clear hQe
  clear hAe hD0
  subst hQ
  have hP := hPn
  have hD := hDn
  unfold fX5_init at hf
  exact W.vret hx hb hr (fun t ht hW => ⟨⟨((fun _ => 0), (fun _ _ => 0)), rfl, Option.some.inj hf, cI, Q, rfl, by rw [ht]; exact hP, va_K.moved hW.alike hK, hD⟩, hS.F ht⟩) hS.2.2 dX5_init_12
def fX6_init : Option ((Nat → Int32) × (Nat → Nat → Int32)) :=
  (some ((fun _ => 0), (fun _ _ => 0)))
set_option maxRecDepth 100000 in
set_option maxHeartbeats 4000000 in
theorem mX6_init (l : Launch) (dC : Nat → ClassId) (dI : Nat → Nat → Nat) (h0 sz : Nat) (z : (Nat → Int32) × (Nat → Nat → Int32)) (hf : fX6_init = some z) : Met l yX6_init wsX6_init ({ frames := 1, cells := 1, slots := 12, locals := 12 }) (va_Pc [.ref h0] (fun U => U.heap.size = sz ∧ va_P (dC, dI) vwCl [(h0, .inr (3, [.null, .int 0]))] U.heap ∧ va_K (dC, dI) vwCl [] U ∧ va_D (fun _ => True) [(h0, .inr (3, [.null, .int 0]))])) (va_Qv (fun (u : (Nat → Int32) × (Nat → Nat → Int32)) => u = z) (fun (u : (Nat → Int32) × (Nat → Nat → Int32)) (t : State) => ∃ (cI : ClassId) (Q : Nat → Nat), Q 100 = h0 ∧ atX dC dI cI Q (va_A [(h0, .inr (3, [.null, .int 0]))] sz) u t) (va_A [(h0, .inr (3, [.null, .int 0]))] sz)) 1 12 (va_A [(h0, .inr (3, [.null, .int 0]))] sz) := by
  refine Met.ofW (cc := cX6_init) (maxL := 1) (ret := none) (by decide) rfl ?_
  intro p e s m args below meth c s₁ BL hml hv
  obtain ⟨rfl, hsz, hP, hK, hD0⟩ := hv
  have hx := BL.exec
  have hb := BL.bytes
  have hr := BL.returns
  have hts := atoms_spec (ws := wsX6_init) BL.pre
  have hown : s.vm.findClass RX6 = some m.cls := findClass_of_methodNamed BL.named
  have hlocks := BL.notSynchronized
  have hin : meth.name = "<init>" := (name_of_methodNamed BL.named BL.method).1
  have hinX6 : ∀ w ∈ u_ws RX6 TX6 2, w ∈ wsX6_init := by decide +kernel
  have hk9 := hts (.fieldLink RX6 9 "LeadSheets$Text" "bytes" "[I") (by decide +kernel)
  subst hsz
  have hD := hD0.self (sz := s.heap.size)
  generalize hAe : va_A [(h0, .inr (3, [.null, .int 0]))] s.heap.size = AA at hD ⊢
  have hA : ∀ q : Nat, s.heap.size ≤ q → AA q := fun q h => by rw [← hAe]; exact Or.inr h
  have hS : va_S AA s.heap s.heap [] := va_S.rf
  have hl := lv_entry ([.ref h0]) (n := 1) (Nat.le_of_ble_eq_true rfl)
  rw [lg_entry_eq]
  generalize (lg_sl ([.ref h0]) ++ List.replicate (1 - (lg_sl ([.ref h0])).length) Slot.unset).toArray = ls at hl ⊢
  have hl : lv_has ls 1 [(0, .ref h0)] := hl
  refine lv_aload_n hx hb dX6_init_0 rfl (lv_at hl 0 rfl) ?_
  refine W.objInit hx hb hown (hts (.methodLink RX6 3 objectInit) (by decide +kernel)) (hts (.instanceMethod objectInit) (by decide +kernel)) (hts (.code objectInit ⟨#[0xb1]⟩ 1 none) (by decide +kernel)) rfl (by rw [hml]; exact hl.1) rfl dX6_init_1 (Nat.le_of_ble_eq_true rfl) (Nat.le_of_ble_eq_true rfl) ?_
  refine W.eq (g2 := F0 m 4 ls []) rfl ?_
  refine lv_aload_n hx hb dX6_init_4 rfl (lv_at hl 0 rfl) ?_
  refine lv_bipush (v := (12 : Int32)) hx hb dX6_init_5 (by decide) ?_
  refine va_newa (atype := .int) (ty := .int) (a0 := (12, .inl (fun _ => 0))) (N' := 12) hx hb (hts (.arrayClass .int) (by decide +kernel)) rfl hK hP hD hS hA (nz_int 12) (by decide +kernel) (by decide +kernel) (by decide +kernel) (by decide +kernel) (by decide +kernel) dX6_init_7 (fun q0 cI H hK hP hD hS => ?_)
  have hK : va_K (dC, dI) vwCl [(cI, .int)] s := hK
  refine W.cs (cells' := 1) (slots' := 12) rfl rfl ?_
  have hP : va_P (dC, dI) vwCl [(h0, .inr (3, [.null, .int 0])), (q0, .inl (cI, 12, .inl (fun _ => 0)))] H := hP
  have hD : va_D AA [(h0, .inr (3, [.null, .int 0])), (q0, .inl (cI, 12, .inl (fun _ => 0)))] := hD
  refine va_putF (D := (dC, dI)) (ci := 3) (v := .ref q0) (ty := .array .int) (C := RX6) (T := TX6) (N := 2) hx hb hts hinX6 tyX6 tyX6_ok nmX6 hown hK hP hD hS 0 (fs := [.null, .int 0]) rfl rfl 0 (by decide) hk9 (fun _ h9 => h9) rfl hin rfl (by decide +kernel) rfl rfl (Nat.le_of_ble_eq_true rfl) dX6_init_9 (fun H locs hP hD hS => ?_)
  have hP : va_P (dC, dI) vwCl [(h0, .inr (3, [.ref q0, .int 0])), (q0, .inl (cI, 12, .inl (fun _ => 0)))] H := hP
  have hD : va_D AA [(h0, .inr (3, [.ref q0, .int 0])), (q0, .inl (cI, 12, .inl (fun _ => 0)))] := hD
  obtain ⟨Q, hQe⟩ : ∃ Q : Nat → Nat, Q = (va_up (va_up (fun _ => 0) 100 h0) 0 q0) := ⟨_, rfl⟩
  have hQ : Q 100 = h0 := by rw [hQe]; rfl
  have hPn : va_P (dC, dI) vwCl (wX cI Q (fun _ => 0) (fun _ _ => 0)) H := by rw [hQe]; exact hP
  have hDn : va_D AA (wX cI Q (fun _ => 0) (fun _ _ => 0)) := by rw [hQe]; exact hD
  clear hQe
  clear hAe hD0
  subst hQ
  have hP := hPn
  have hD := hDn
  unfold fX6_init at hf
  exact W.vret hx hb hr (fun t ht hW => ⟨⟨((fun _ => 0), (fun _ _ => 0)), rfl, Option.some.inj hf, cI, Q, rfl, by rw [ht]; exact hP, va_K.moved hW.alike hK, hD⟩, hS.F ht⟩) hS.2.2 dX6_init_12
def fX7_init : Option ((Nat → Int32) × (Nat → Int64) × (Nat → Nat → Int32)) :=
  (some ((fun _ => 0), (fun _ => 0), (fun _ _ => 0)))
set_option maxRecDepth 100000 in
set_option maxHeartbeats 4000000 in
theorem mX7_init (l : Launch) (dC : Nat → ClassId) (dI : Nat → Nat → Nat) (h0 sz : Nat) (z : (Nat → Int32) × (Nat → Int64) × (Nat → Nat → Int32)) (hf : fX7_init = some z) : Met l yX7_init wsX7_init ({ frames := 1, cells := 3, slots := 152, locals := 12 }) (va_Pc [.ref h0] (fun U => U.heap.size = sz ∧ va_P (dC, dI) vwCl [(h0, .inr (4, [.null, .int 0, .null, .null, .long 0, .int 0]))] U.heap ∧ va_K (dC, dI) vwCl [] U ∧ va_D (fun _ => True) [(h0, .inr (4, [.null, .int 0, .null, .null, .long 0, .int 0]))])) (va_Qv (fun (u : (Nat → Int32) × (Nat → Int64) × (Nat → Nat → Int32)) => u = z) (fun (u : (Nat → Int32) × (Nat → Int64) × (Nat → Nat → Int32)) (t : State) => ∃ (cI : ClassId) (Q : Nat → Nat), Q 100 = h0 ∧ atV dC dI cI Q (va_A [(h0, .inr (4, [.null, .int 0, .null, .null, .long 0, .int 0]))] sz) u t) (va_A [(h0, .inr (4, [.null, .int 0, .null, .null, .long 0, .int 0]))] sz)) 3 152 (va_A [(h0, .inr (4, [.null, .int 0, .null, .null, .long 0, .int 0]))] sz) := by
  refine Met.ofW (cc := cX7_init) (maxL := 1) (ret := none) (by decide) rfl ?_
  intro p e s m args below meth c s₁ BL hml hv
  obtain ⟨rfl, hsz, hP, hK, hD0⟩ := hv
  have hx := BL.exec
  have hb := BL.bytes
  have hr := BL.returns
  have hts := atoms_spec (ws := wsX7_init) BL.pre
  have hown : s.vm.findClass RX7 = some m.cls := findClass_of_methodNamed BL.named
  have hlocks := BL.notSynchronized
  have hin : meth.name = "<init>" := (name_of_methodNamed BL.named BL.method).1
  have hinX7 : ∀ w ∈ u_ws RX7 TX7 6, w ∈ wsX7_init := by decide +kernel
  have hk9 := hts (.fieldLink RX7 9 "LeadSheets$Voicing" "keys" "[I") (by decide +kernel)
  have hk15 := hts (.fieldLink RX7 15 "LeadSheets$Voicing" "away" "[I") (by decide +kernel)
  have hk18 := hts (.fieldLink RX7 18 "LeadSheets$Voicing" "chosen" "[I") (by decide +kernel)
  subst hsz
  have hD := hD0.self (sz := s.heap.size)
  generalize hAe : va_A [(h0, .inr (4, [.null, .int 0, .null, .null, .long 0, .int 0]))] s.heap.size = AA at hD ⊢
  have hA : ∀ q : Nat, s.heap.size ≤ q → AA q := fun q h => by rw [← hAe]; exact Or.inr h
  have hS : va_S AA s.heap s.heap [] := va_S.rf
  have hl := lv_entry ([.ref h0]) (n := 1) (Nat.le_of_ble_eq_true rfl)
  rw [lg_entry_eq]
  generalize (lg_sl ([.ref h0]) ++ List.replicate (1 - (lg_sl ([.ref h0])).length) Slot.unset).toArray = ls at hl ⊢
  have hl : lv_has ls 1 [(0, .ref h0)] := hl
  refine lv_aload_n hx hb dX7_init_0 rfl (lv_at hl 0 rfl) ?_
  refine W.objInit hx hb hown (hts (.methodLink RX7 3 objectInit) (by decide +kernel)) (hts (.instanceMethod objectInit) (by decide +kernel)) (hts (.code objectInit ⟨#[0xb1]⟩ 1 none) (by decide +kernel)) rfl (by rw [hml]; exact hl.1) rfl dX7_init_1 (Nat.le_of_ble_eq_true rfl) (Nat.le_of_ble_eq_true rfl) ?_
  refine W.eq (g2 := F0 m 4 ls []) rfl ?_
  refine lv_aload_n hx hb dX7_init_4 rfl (lv_at hl 0 rfl) ?_
  refine lv_bipush (v := (12 : Int32)) hx hb dX7_init_5 (by decide) ?_
  refine va_newa (atype := .int) (ty := .int) (a0 := (12, .inl (fun _ => 0))) (N' := 12) hx hb (hts (.arrayClass .int) (by decide +kernel)) rfl hK hP hD hS hA (nz_int 12) (by decide +kernel) (by decide +kernel) (by decide +kernel) (by decide +kernel) (by decide +kernel) dX7_init_7 (fun q0 cI H hK hP hD hS => ?_)
  have hK : va_K (dC, dI) vwCl [(cI, .int)] s := hK
  refine W.cs (cells' := 1) (slots' := 12) rfl rfl ?_
  have hP : va_P (dC, dI) vwCl [(h0, .inr (4, [.null, .int 0, .null, .null, .long 0, .int 0])), (q0, .inl (cI, 12, .inl (fun _ => 0)))] H := hP
  have hD : va_D AA [(h0, .inr (4, [.null, .int 0, .null, .null, .long 0, .int 0])), (q0, .inl (cI, 12, .inl (fun _ => 0)))] := hD
  refine va_putF (D := (dC, dI)) (ci := 4) (v := .ref q0) (ty := .array .int) (C := RX7) (T := TX7) (N := 6) hx hb hts hinX7 tyX7 tyX7_ok nmX7 hown hK hP hD hS 0 (fs := [.null, .int 0, .null, .null, .long 0, .int 0]) rfl rfl 0 (by decide) hk9 (fun _ h9 => h9) rfl hin rfl (by decide +kernel) rfl rfl (Nat.le_of_ble_eq_true rfl) dX7_init_9 (fun H locs hP hD hS => ?_)
  have hP : va_P (dC, dI) vwCl [(h0, .inr (4, [.ref q0, .int 0, .null, .null, .long 0, .int 0])), (q0, .inl (cI, 12, .inl (fun _ => 0)))] H := hP
  have hD : va_D AA [(h0, .inr (4, [.ref q0, .int 0, .null, .null, .long 0, .int 0])), (q0, .inl (cI, 12, .inl (fun _ => 0)))] := hD
  refine lv_aload_n hx hb dX7_init_12 rfl (lv_at hl 0 rfl) ?_
  refine lv_sipush (v := (128 : Int32)) hx hb dX7_init_13 (by decide) ?_
  refine va_newa (atype := .int) (ty := .int) (a0 := (128, .inl (fun _ => 0))) (N' := 128) hx hb (hts (.arrayClass .int) (by decide +kernel)) rfl hK hP hD hS hA (nz_int 128) (by decide +kernel) (by decide +kernel) (by decide +kernel) (by decide +kernel) (by decide +kernel) dX7_init_16 (fun q1 cN H hK hP hD hS => ?_)
  have ecN : cI = cN := Option.some.inj ((hK.2 0 (cI, .int) rfl).2.symm.trans (hK.2 1 (cN, .int) rfl).2)
  subst ecN
  have hK : va_K (dC, dI) vwCl [(cI, .int)] s := hK.sub [0] rfl
  refine W.cs (cells' := 2) (slots' := 140) rfl rfl ?_
  have hP : va_P (dC, dI) vwCl [(h0, .inr (4, [.ref q0, .int 0, .null, .null, .long 0, .int 0])), (q0, .inl (cI, 12, .inl (fun _ => 0))), (q1, .inl (cI, 128, .inl (fun _ => 0)))] H := hP
  have hD : va_D AA [(h0, .inr (4, [.ref q0, .int 0, .null, .null, .long 0, .int 0])), (q0, .inl (cI, 12, .inl (fun _ => 0))), (q1, .inl (cI, 128, .inl (fun _ => 0)))] := hD
  refine va_putF (D := (dC, dI)) (ci := 4) (v := .ref q1) (ty := .array .int) (C := RX7) (T := TX7) (N := 6) hx hb hts hinX7 tyX7 tyX7_ok nmX7 hown hK hP hD hS 0 (fs := [.ref q0, .int 0, .null, .null, .long 0, .int 0]) rfl rfl 2 (by decide) hk15 (fun _ h9 => h9) rfl hin rfl (by decide +kernel) rfl rfl (Nat.le_of_ble_eq_true rfl) dX7_init_18 (fun H locs hP hD hS => ?_)
  have hP : va_P (dC, dI) vwCl [(h0, .inr (4, [.ref q0, .int 0, .ref q1, .null, .long 0, .int 0])), (q0, .inl (cI, 12, .inl (fun _ => 0))), (q1, .inl (cI, 128, .inl (fun _ => 0)))] H := hP
  have hD : va_D AA [(h0, .inr (4, [.ref q0, .int 0, .ref q1, .null, .long 0, .int 0])), (q0, .inl (cI, 12, .inl (fun _ => 0))), (q1, .inl (cI, 128, .inl (fun _ => 0)))] := hD
  refine lv_aload_n hx hb dX7_init_21 rfl (lv_at hl 0 rfl) ?_
  refine lv_bipush (v := (12 : Int32)) hx hb dX7_init_22 (by decide) ?_
  refine va_newa (atype := .int) (ty := .int) (a0 := (12, .inl (fun _ => 0))) (N' := 12) hx hb (hts (.arrayClass .int) (by decide +kernel)) rfl hK hP hD hS hA (nz_int 12) (by decide +kernel) (by decide +kernel) (by decide +kernel) (by decide +kernel) (by decide +kernel) dX7_init_24 (fun q2 cN H hK hP hD hS => ?_)
  have ecN : cI = cN := Option.some.inj ((hK.2 0 (cI, .int) rfl).2.symm.trans (hK.2 1 (cN, .int) rfl).2)
  subst ecN
  have hK : va_K (dC, dI) vwCl [(cI, .int)] s := hK.sub [0] rfl
  refine W.cs (cells' := 3) (slots' := 152) rfl rfl ?_
  have hP : va_P (dC, dI) vwCl [(h0, .inr (4, [.ref q0, .int 0, .ref q1, .null, .long 0, .int 0])), (q0, .inl (cI, 12, .inl (fun _ => 0))), (q1, .inl (cI, 128, .inl (fun _ => 0))), (q2, .inl (cI, 12, .inl (fun _ => 0)))] H := hP
  have hD : va_D AA [(h0, .inr (4, [.ref q0, .int 0, .ref q1, .null, .long 0, .int 0])), (q0, .inl (cI, 12, .inl (fun _ => 0))), (q1, .inl (cI, 128, .inl (fun _ => 0))), (q2, .inl (cI, 12, .inl (fun _ => 0)))] := hD
  refine va_putF (D := (dC, dI)) (ci := 4) (v := .ref q2) (ty := .array .int) (C := RX7) (T := TX7) (N := 6) hx hb hts hinX7 tyX7 tyX7_ok nmX7 hown hK hP hD hS 0 (fs := [.ref q0, .int 0, .ref q1, .null, .long 0, .int 0]) rfl rfl 3 (by decide) hk18 (fun _ h9 => h9) rfl hin rfl (by decide +kernel) rfl rfl (Nat.le_of_ble_eq_true rfl) dX7_init_26 (fun H locs hP hD hS => ?_)
  have hP : va_P (dC, dI) vwCl [(h0, .inr (4, [.ref q0, .int 0, .ref q1, .ref q2, .long 0, .int 0])), (q0, .inl (cI, 12, .inl (fun _ => 0))), (q1, .inl (cI, 128, .inl (fun _ => 0))), (q2, .inl (cI, 12, .inl (fun _ => 0)))] H := hP
  have hD : va_D AA [(h0, .inr (4, [.ref q0, .int 0, .ref q1, .ref q2, .long 0, .int 0])), (q0, .inl (cI, 12, .inl (fun _ => 0))), (q1, .inl (cI, 128, .inl (fun _ => 0))), (q2, .inl (cI, 12, .inl (fun _ => 0)))] := hD
  obtain ⟨Q, hQe⟩ : ∃ Q : Nat → Nat, Q = (va_up (va_up (va_up (va_up (fun _ => 0) 100 h0) 0 q0) 2 q1) 3 q2) := ⟨_, rfl⟩
  have hQ : Q 100 = h0 := by rw [hQe]; rfl
  have hPn : va_P (dC, dI) vwCl (wV cI Q (fun _ => 0) (fun _ => 0) (fun _ _ => 0)) H := by rw [hQe]; exact hP
  have hDn : va_D AA (wV cI Q (fun _ => 0) (fun _ => 0) (fun _ _ => 0)) := by rw [hQe]; exact hD
  clear hQe
  clear hAe hD0
  subst hQ
  have hP := hPn
  have hD := hDn
  unfold fX7_init at hf
  exact W.vret hx hb hr (fun t ht hW => ⟨⟨((fun _ => 0), (fun _ => 0), (fun _ _ => 0)), rfl, Option.some.inj hf, cI, Q, rfl, by rw [ht]; exact hP, va_K.moved hW.alike hK, hD⟩, hS.F ht⟩) hS.2.2 dX7_init_29
def fX2_init_23B (k23 : (Nat → Int32) → (Nat → Nat → Int32) → Int32 → Option ((Nat → Int32) × (Nat → Nat → Int32))) (I : Nat → Int32) (A : Nat → Nat → Int32) (v1 : Int32) : Option ((Nat → Int32) × (Nat → Nat → Int32)) :=
  (if (20 : Int32) ≤ v1 then (some (I, A)) else ((fX0_steps v1).bind fun r2 => ((fX4_set (0 : Int32) r2).bind fun r4 => (if gd v1 20 then (k23 I (va_up A 0 (upd (A 0) v1.toNatClampNeg r4)) (v1 + (1 : Int32))) else none))))
def fX2_init_23 : Nat → ((Nat → Int32) → (Nat → Nat → Int32) → Int32 → Option ((Nat → Int32) × (Nat → Nat → Int32)))
  | 0 => fun _ _ _ => none
  | n + 1 => fX2_init_23B (fX2_init_23 n)
def fX2_init : Option ((Nat → Int32) × (Nat → Nat → Int32)) :=
  (fX2_init_23   FU (fun _ => 0) (fun _ _ => 0) (0 : Int32))
set_option maxRecDepth 100000 in
set_option maxHeartbeats 4000000 in
theorem mX2_init (l : Launch) (en : Nat → Nat) (dC : Nat → ClassId) (dI : Nat → Nat → Nat) (h0 sz : Nat) (z : (Nat → Int32) × (Nat → Nat → Int32)) (hf : fX2_init = some z) : Met l yX2_init wsX2_init ({ frames := 3, cells := 2, slots := 260, locals := 64 }) (va_Pc [.ref h0] (fun U => U.heap.size = sz ∧ va_P (dC, dI) vwCl [(h0, .inr (1, [.null, .null, .int 0, .int 0]))] U.heap ∧ va_K (dC, dI) vwCl [] U ∧ va_D (fun _ => True) [(h0, .inr (1, [.null, .null, .int 0, .int 0]))] ∧ cE en (va_A [(h0, .inr (1, [.null, .null, .int 0, .int 0]))] sz) U U.heap)) (va_Qv (fun (u : (Nat → Int32) × (Nat → Nat → Int32)) => u = z) (fun (u : (Nat → Int32) × (Nat → Nat → Int32)) (t : State) => ∃ (cI : ClassId) (Q : Nat → Nat), Q 100 = h0 ∧ atN dC dI cI Q (va_A [(h0, .inr (1, [.null, .null, .int 0, .int 0]))] sz) u t) (va_A [(h0, .inr (1, [.null, .null, .int 0, .int 0]))] sz)) 2 260 (va_A [(h0, .inr (1, [.null, .null, .int 0, .int 0]))] sz) := by
  refine Met.ofW (cc := cX2_init) (maxL := 2) (ret := none) (by decide) rfl ?_
  intro p e s m args below meth c s₁ BL hml hv
  obtain ⟨rfl, hsz, hP, hK, hD0, hE⟩ := hv
  have hx := BL.exec
  have hb := BL.bytes
  have hr := BL.returns
  have hts := atoms_spec (ws := wsX2_init) BL.pre
  have hown : s.vm.findClass RX2 = some m.cls := findClass_of_methodNamed BL.named
  have hlocks := BL.notSynchronized
  have hin : meth.name = "<init>" := (name_of_methodNamed BL.named BL.method).1
  have hinX2 : ∀ w ∈ u_ws RX2 TX2 4, w ∈ wsX2_init := by decide +kernel
  have hk11 := hts (.fieldLink RX2 11 "LeadSheets$Names" "bodySets" "[I") (by decide +kernel)
  have hk17 := hts (.fieldLink RX2 17 "LeadSheets$Names" "found" "[I") (by decide +kernel)
  subst hsz
  have hD := hD0.self (sz := s.heap.size)
  generalize hAe : va_A [(h0, .inr (1, [.null, .null, .int 0, .int 0]))] s.heap.size = AA at hD hE ⊢
  have hA : ∀ q : Nat, s.heap.size ≤ q → AA q := fun q h => by rw [← hAe]; exact Or.inr h
  have hS : va_S AA s.heap s.heap [] := va_S.rf
  have hl := lv_entry ([.ref h0]) (n := 2) (Nat.le_of_ble_eq_true rfl)
  rw [lg_entry_eq]
  generalize (lg_sl ([.ref h0]) ++ List.replicate (2 - (lg_sl ([.ref h0])).length) Slot.unset).toArray = ls at hl ⊢
  have hl : lv_has ls 2 [(0, .ref h0)] := hl
  refine lv_aload_n hx hb dX2_init_0 rfl (lv_at hl 0 rfl) ?_
  refine W.objInit hx hb hown (hts (.methodLink RX2 5 objectInit) (by decide +kernel)) (hts (.instanceMethod objectInit) (by decide +kernel)) (hts (.code objectInit ⟨#[0xb1]⟩ 1 none) (by decide +kernel)) rfl (by rw [hml]; exact hl.1) rfl dX2_init_1 (Nat.le_of_ble_eq_true rfl) (Nat.le_of_ble_eq_true rfl) ?_
  refine W.eq (g2 := F0 m 4 ls []) rfl ?_
  refine lv_aload_n hx hb dX2_init_4 rfl (lv_at hl 0 rfl) ?_
  refine lv_bipush (v := (20 : Int32)) hx hb dX2_init_5 (by decide) ?_
  refine va_newa (atype := .int) (ty := .int) (a0 := (20, .inl (fun _ => 0))) (N' := 20) hx hb (hts (.arrayClass .int) (by decide +kernel)) rfl hK hP hD hS hA (nz_int 20) (by decide +kernel) (by decide +kernel) (by decide +kernel) (by decide +kernel) (by decide +kernel) dX2_init_7 (fun q0 cI H hK hP hD hS => ?_)
  have hK : va_K (dC, dI) vwCl [(cI, .int)] s := hK
  refine W.cs (cells' := 1) (slots' := 20) rfl rfl ?_
  have hP : va_P (dC, dI) vwCl [(h0, .inr (1, [.null, .null, .int 0, .int 0])), (q0, .inl (cI, 20, .inl (fun _ => 0)))] H := hP
  have hD : va_D AA [(h0, .inr (1, [.null, .null, .int 0, .int 0])), (q0, .inl (cI, 20, .inl (fun _ => 0)))] := hD
  refine va_putF (D := (dC, dI)) (ci := 1) (v := .ref q0) (ty := .array .int) (C := RX2) (T := TX2) (N := 4) hx hb hts hinX2 tyX2 tyX2_ok nmX2 hown hK hP hD hS 0 (fs := [.null, .null, .int 0, .int 0]) rfl rfl 0 (by decide) hk11 (fun _ h9 => h9) rfl hin rfl (by decide +kernel) rfl rfl (Nat.le_of_ble_eq_true rfl) dX2_init_9 (fun H locs hP hD hS => ?_)
  have hP : va_P (dC, dI) vwCl [(h0, .inr (1, [.ref q0, .null, .int 0, .int 0])), (q0, .inl (cI, 20, .inl (fun _ => 0)))] H := hP
  have hD : va_D AA [(h0, .inr (1, [.ref q0, .null, .int 0, .int 0])), (q0, .inl (cI, 20, .inl (fun _ => 0)))] := hD
  refine lv_aload_n hx hb dX2_init_12 rfl (lv_at hl 0 rfl) ?_
  refine lv_sipush (v := (240 : Int32)) hx hb dX2_init_13 (by decide) ?_
  refine va_newa (atype := .int) (ty := .int) (a0 := (240, .inl (fun _ => 0))) (N' := 240) hx hb (hts (.arrayClass .int) (by decide +kernel)) rfl hK hP hD hS hA (nz_int 240) (by decide +kernel) (by decide +kernel) (by decide +kernel) (by decide +kernel) (by decide +kernel) dX2_init_16 (fun q1 cN H hK hP hD hS => ?_)
  have ecN : cI = cN := Option.some.inj ((hK.2 0 (cI, .int) rfl).2.symm.trans (hK.2 1 (cN, .int) rfl).2)
  subst ecN
  have hK : va_K (dC, dI) vwCl [(cI, .int)] s := hK.sub [0] rfl
  refine W.cs (cells' := 2) (slots' := 260) rfl rfl ?_
  have hP : va_P (dC, dI) vwCl [(h0, .inr (1, [.ref q0, .null, .int 0, .int 0])), (q0, .inl (cI, 20, .inl (fun _ => 0))), (q1, .inl (cI, 240, .inl (fun _ => 0)))] H := hP
  have hD : va_D AA [(h0, .inr (1, [.ref q0, .null, .int 0, .int 0])), (q0, .inl (cI, 20, .inl (fun _ => 0))), (q1, .inl (cI, 240, .inl (fun _ => 0)))] := hD
  refine va_putF (D := (dC, dI)) (ci := 1) (v := .ref q1) (ty := .array .int) (C := RX2) (T := TX2) (N := 4) hx hb hts hinX2 tyX2 tyX2_ok nmX2 hown hK hP hD hS 0 (fs := [.ref q0, .null, .int 0, .int 0]) rfl rfl 1 (by decide) hk17 (fun _ h9 => h9) rfl hin rfl (by decide +kernel) rfl rfl (Nat.le_of_ble_eq_true rfl) dX2_init_18 (fun H locs hP hD hS => ?_)
  have hP : va_P (dC, dI) vwCl [(h0, .inr (1, [.ref q0, .ref q1, .int 0, .int 0])), (q0, .inl (cI, 20, .inl (fun _ => 0))), (q1, .inl (cI, 240, .inl (fun _ => 0)))] H := hP
  have hD : va_D AA [(h0, .inr (1, [.ref q0, .ref q1, .int 0, .int 0])), (q0, .inl (cI, 20, .inl (fun _ => 0))), (q1, .inl (cI, 240, .inl (fun _ => 0)))] := hD
  refine lv_iconst (v := (0 : Int32)) hx hb dX2_init_21 (by decide) ?_
  refine lv_istore_n (lv' := [(1, .int (0 : Int32)), (0, .ref h0)]) hx hb dX2_init_22 rfl hl (by decide) rfl (fun ls hl => ?_)
  obtain ⟨Q, hQe⟩ : ∃ Q : Nat → Nat, Q = (va_up (va_up (va_up (fun _ => 0) 100 h0) 0 q0) 1 q1) := ⟨_, rfl⟩
  have hQ : Q 100 = h0 := by rw [hQe]; rfl
  have hPn : va_P (dC, dI) vwCl (wN cI Q (fun _ => 0) (fun _ _ => 0)) H := by rw [hQe]; exact hP
  have hDn : va_D AA (wN cI Q (fun _ => 0) (fun _ _ => 0)) := by rw [hQe]; exact hD
  clear hQe
  clear hAe hD0
  subst hQ
  have hP := hPn
  have hD := hDn
  have sg23 : ∀ n : Nat, ∀ (I : Nat → Int32) (A : Nat → Nat → Int32) (v1 : Int32) (H : Heap) (locs : List Loc) (ls : Array Slot), fX2_init_23 n I A v1 = some z → va_P (dC, dI) vwCl (wN cI Q I A) H → va_D AA (wN cI Q I A) → va_S AA s.heap H locs → lv_has ls 2 [(0, .ref (Q 100)), (1, .int v1)] → W p l e (headSpec wsX2_init ({ frames := 3, cells := 2, slots := 260, locals := 64 })).room s m (([.ref (Q 100)] : List Value).toArray) below meth c H locs 2 260 (MQ below (va_Qv (fun (u : (Nat → Int32) × (Nat → Nat → Int32)) => u = z) (fun (u : (Nat → Int32) × (Nat → Nat → Int32)) (t : State) => ∃ (cI : ClassId) (Q' : Nat → Nat), Q' 100 = Q 100 ∧ atN dC dI cI Q' AA u t) AA) (([.ref (Q 100)] : List Value).toArray) s 2 260 AA) (F0 m 23 ls []) := by
    intro n
    induction n with
    | zero => intro I A v1 H locs ls hf hP hD hS hl; exact of_none hf
    | succ n ih23 =>
      intro I A v1 H locs ls hf hP hD hS hl
      change fX2_init_23B (fX2_init_23 n) I A v1 = _ at hf
      unfold fX2_init_23B at hf
      refine lv_iload_n hx hb dX2_init_23 rfl (lv_at hl 1 rfl) ?_
      refine lv_bipush (v := (20 : Int32)) hx hb dX2_init_24 (by decide) ?_
      refine lv_icmp_ge (tgt := 49) hx hb dX2_init_26 (by decide) (fun c1 => ?_) (fun c1 => ?_)
      · have hf := (if_pos c1).symm.trans hf
        exact W.vret hx hb hr (fun t ht hW => ⟨⟨(I, A), rfl, Option.some.inj hf, cI, Q, rfl, by rw [ht]; exact hP, va_K.moved hW.alike hK, hD⟩, hS.F ht⟩) hS.2.2 dX2_init_49
      · have hf := (if_neg c1).symm.trans hf
        refine lv_aload_n hx hb dX2_init_29 rfl (lv_at hl 0 rfl) ?_
        refine va_get (D := (dC, dI)) (ci := 1) (v := .ref (Q 0)) (C := RX2) (T := TX2) (N := 4) hx hb hts hinX2 hown hK hP 0 rfl rfl 0 (by decide) hk11 (fun _ h9 => h9) rfl dX2_init_30 ?_
        refine lv_iload_n hx hb dX2_init_33 rfl (lv_at hl 1 rfl) ?_
        refine lv_iconst (v := (0 : Int32)) hx hb dX2_init_34 (by decide) ?_
        refine lv_iload_n hx hb dX2_init_35 rfl (lv_at hl 1 rfl) ?_
        obtain ⟨r2, hc3, hf⟩ := of_bind_some hf
        refine W.callR (r := r2) (W.runS (As := [.int v1]) (rest := [.int (0 : Int32), .int v1, .ref (Q 0)]) ⟨hx, hb, hml, hown, hts⟩ (mX0_steps l en v1 r2 hc3) (va_cwS 1 hts gX2_init_X0_steps rfl rfl rfl (by decide +kernel) ⟨Nat.le_of_ble_eq_true rfl, Nat.le_of_ble_eq_true rfl⟩) ⟨blindS, fun U hU hW => ⟨rfl, cE_read hE hS hW hU⟩⟩ rfl rfl hl.1 rfl (lv_room (Nat.le_of_ble_eq_true rfl)) dX2_init_36 ⟨Nat.le_refl 2, Nat.le_refl 260⟩) ?_
        refine W.eq (g2 := F0 m 39 ls [.int r2, .int (0 : Int32), .int v1, .ref (Q 0)]) rfl ?_
        obtain ⟨r4, hc5, hf⟩ := of_bind_some hf
        refine W.callR (r := r4) (W.runS (As := [.int (0 : Int32), .int r2]) (rest := [.int v1, .ref (Q 0)]) ⟨hx, hb, hml, hown, hts⟩ (mX4_set l en (0 : Int32) r2 r4 hc5) (va_cwS 2 hts gX2_init_X4_set rfl rfl rfl (by decide +kernel) ⟨Nat.le_of_ble_eq_true rfl, Nat.le_of_ble_eq_true rfl⟩) ⟨blindS, fun U hU hW => ⟨rfl, cE_read hE hS hW hU⟩⟩ rfl rfl hl.1 rfl (lv_room (Nat.le_of_ble_eq_true rfl)) dX2_init_39 ⟨Nat.le_refl 2, Nat.le_refl 260⟩) ?_
        refine W.eq (g2 := F0 m 42 ls [.int r4, .int v1, .ref (Q 0)]) rfl ?_
        obtain ⟨g6, hf⟩ := of_ite_some hf
        refine va_iast hx hb hK hP hD hS 1 0 (n := 20) (f := (A 0)) rfl rfl g6 dX2_init_42 (fun H locs hP hD hS => ?_)
        have hP : va_P (dC, dI) vwCl (wN cI Q I (va_up A 0 (upd (A 0) v1.toNatClampNeg r4))) H := Eq.mp (congrArg (fun w => va_P (dC, dI) vwCl w H) (wNA_0 cI Q I A (upd (A 0) v1.toNatClampNeg r4))) hP
        have hD : va_D AA (wN cI Q I (va_up A 0 (upd (A 0) v1.toNatClampNeg r4))) := Eq.mp (congrArg (fun w => va_D AA w) (wNA_0 cI Q I A (upd (A 0) v1.toNatClampNeg r4))) hD
        refine lv_iinc (v := (v1 + (1 : Int32))) (lv' := [(1, .int (v1 + (1 : Int32))), (0, .ref (Q 100))]) hx hb dX2_init_43 hl (k := 1) rfl rfl (by decide) rfl (fun ls hl => ?_)
        refine lv_goto (tgt := 23) hx hb dX2_init_46 (by decide) ?_
        exact ih23 I (va_up A 0 (upd (A 0) v1.toNatClampNeg r4)) (v1 + (1 : Int32)) H locs ls hf hP hD hS (lv_sub hl [1, 0] rfl)
  unfold fX2_init at hf
  exact sg23  FU (fun _ => 0) (fun _ _ => 0) (0 : Int32) H locs ls hf hP hD hS (lv_sub hl [1, 0] rfl)
