def fX6_clear  (I : Nat → Int32) (A : Nat → Nat → Int32)  : Option ((Nat → Int32) × (Nat → Nat → Int32)) :=
  (some ((upd I 1 (0 : Int32)), A))
set_option maxRecDepth 100000 in
set_option maxHeartbeats 4000000 in
theorem mX6_clear (l : Launch) (dC : Nat → ClassId) (dI : Nat → Nat → Nat) (cI : ClassId) (Q : Nat → Nat)  (I : Nat → Int32) (A : Nat → Nat → Int32)  (sz : Nat) (z : (Nat → Int32) × (Nat → Nat → Int32)) (hf : fX6_clear I A = some z) : Met l yX6_clear wsX6_clear ({ frames := 0, cells := 0, slots := 0, locals := 0 }) (va_Pc [.ref (Q 100)] (fun U => U.heap.size = sz ∧ va_P (dC, dI) vwCl (wX cI Q I A) U.heap ∧ va_K (dC, dI) vwCl [(cI, .int)] U ∧ va_D (fun _ => True) (wX cI Q I A))) (va_Qv (fun (u : (Nat → Int32) × (Nat → Nat → Int32)) => u = z) (atX dC dI cI Q (va_A (wX cI Q I A) sz)) (va_A (wX cI Q I A) sz)) 0 0 (va_A (wX cI Q I A) sz) := by
  refine Met.ofW (cc := cX6_clear) (maxL := 1) (ret := none) (by decide) rfl ?_
  intro p e s m args below meth c s₁ BL hml hv
  obtain ⟨rfl, hsz, hP, hK, hD0⟩ := hv
  have hx := BL.exec
  have hb := BL.bytes
  have hr := BL.returns
  have hts := atoms_spec (ws := wsX6_clear) BL.pre
  have hown : s.vm.findClass RX6 = some m.cls := findClass_of_methodNamed BL.named
  have hlocks := BL.notSynchronized
  have hinX6 : ∀ w ∈ u_ws RX6 TX6 2, w ∈ wsX6_clear := by decide +kernel
  have hk15 := hts (.fieldLink RX6 15 "LeadSheets$Text" "size" "I") (by decide +kernel)
  subst hsz
  have hD := hD0.self (sz := s.heap.size)
  generalize hAe : va_A (wX cI Q I A) s.heap.size = AA at hD ⊢
  have hA : ∀ q : Nat, s.heap.size ≤ q → AA q := fun q h => by rw [← hAe]; exact Or.inr h
  have hS : va_S AA s.heap s.heap [] := va_S.rf
  have hl := lv_entry ([.ref (Q 100)]) (n := 1) (Nat.le_of_ble_eq_true rfl)
  rw [lg_entry_eq]
  generalize (lg_sl ([.ref (Q 100)]) ++ List.replicate (1 - (lg_sl ([.ref (Q 100)])).length) Slot.unset).toArray = ls at hl ⊢
  have hl : lv_has ls 1 [(0, .ref (Q 100))] := hl
  unfold fX6_clear at hf
  refine lv_aload_n hx hb dX6_clear_0 rfl (lv_at hl 0 rfl) ?_
  refine lv_iconst (v := (0 : Int32)) hx hb dX6_clear_1 (by decide) ?_
  refine va_put (D := (dC, dI)) (ci := 3) (v := .int (0 : Int32)) (ty := .int) (C := RX6) (T := TX6) (N := 2) hx hb hts hinX6 tyX6 tyX6_ok nmX6 hown hK hP hD hS 0 (fs := (oX Q I)) rfl rfl 1 (by decide) hk15 (fun _ h9 => h9) rfl (by decide +kernel) rfl rfl (Nat.le_of_ble_eq_true rfl) dX6_clear_2 (fun H locs hP hD hS => ?_)
  have hP : va_P (dC, dI) vwCl (wX cI Q (upd I 1 (0 : Int32)) A) H := Eq.mp (congrArg (fun w => va_P (dC, dI) vwCl w H) (wXI_1 cI Q I A (0 : Int32))) hP
  have hD : va_D AA (wX cI Q (upd I 1 (0 : Int32)) A) := Eq.mp (congrArg (fun w => va_D AA w) (wXI_1 cI Q I A (0 : Int32))) hD
  exact W.vret hx hb hr (fun t ht hW => ⟨⟨((upd I 1 (0 : Int32)), A), rfl, Option.some.inj hf, by rw [ht]; exact hP, va_K.moved hW.alike hK, hD⟩, hS.F ht⟩) hS.2.2 dX6_clear_5
def fX6_byteAt (I : Nat → Int32) (A : Nat → Nat → Int32)  (x1 : Int32) : Option Int32 :=
  (if x1 < 0 then (some (-1 : Int32)) else (if (I 1) ≤ x1 then (some (-1 : Int32)) else (if (12 : Int32) ≤ x1 then (some (-1 : Int32)) else (if gd x1 12 then (some ((A 0) x1.toNatClampNeg)) else none))))
set_option maxRecDepth 100000 in
set_option maxHeartbeats 4000000 in
theorem mX6_byteAt (l : Launch) (dC : Nat → ClassId) (dI : Nat → Nat → Nat) (cI : ClassId) (Q : Nat → Nat) (I : Nat → Int32) (A : Nat → Nat → Int32)  (x1 : Int32) (r : Int32) (hf : fX6_byteAt I A x1 = some r) : Met l yX6_byteAt wsX6_byteAt ({ frames := 0, cells := 0, slots := 0, locals := 0 }) (va_Pc [.ref (Q 100), .int x1] (fun U => va_P (dC, dI) vwCl (wX cI Q I A) U.heap ∧ va_K (dC, dI) vwCl [(cI, .int)] U)) (QcRead r) 0 0 (fun _ => False) := by
  refine Met.ofW (cc := cX6_byteAt) (maxL := 2) (ret := (some .int)) (by decide) rfl ?_
  intro p e s m args below meth c s₁ BL hml hv
  obtain ⟨rfl, hP, hK⟩ := hv
  have hx := BL.exec
  have hb := BL.bytes
  have hr := BL.returns
  have hts := atoms_spec (ws := wsX6_byteAt) BL.pre
  have hown : s.vm.findClass RX6 = some m.cls := findClass_of_methodNamed BL.named
  have hlocks := BL.notSynchronized
  have hinX6 : ∀ w ∈ u_ws RX6 TX6 2, w ∈ wsX6_byteAt := by decide +kernel
  have hk9 := hts (.fieldLink RX6 9 "LeadSheets$Text" "bytes" "[I") (by decide +kernel)
  have hk15 := hts (.fieldLink RX6 15 "LeadSheets$Text" "size" "I") (by decide +kernel)
  have hl := lv_entry ([.ref (Q 100), .int x1]) (n := 2) (Nat.le_of_ble_eq_true rfl)
  rw [lg_entry_eq]
  generalize (lg_sl ([.ref (Q 100), .int x1]) ++ List.replicate (2 - (lg_sl ([.ref (Q 100), .int x1])).length) Slot.unset).toArray = ls at hl ⊢
  have hl : lv_has ls 2 [(0, .ref (Q 100)), (1, .int x1)] := hl
  unfold fX6_byteAt at hf
  refine lv_iload_n hx hb dX6_byteAt_0 rfl (lv_at hl 1 rfl) ?_
  refine lv_if_lt (tgt := 30) hx hb dX6_byteAt_1 (by decide) (fun c1 => ?_) (fun c1 => ?_)
  · have hf := (if_pos c1).symm.trans hf
    refine lv_iconst (v := (-1 : Int32)) hx hb dX6_byteAt_30 (by decide) ?_
    exact W.iret (v := (-1 : Int32)) hx hb hr (fun t ht hW => ⟨congrArg (fun z => Outcome.returned (some (Value.int z))) (Option.some.inj hf), ht⟩) (fun _ h => nomatch h) dX6_byteAt_31
  · have hf := (if_neg c1).symm.trans hf
    refine lv_iload_n hx hb dX6_byteAt_4 rfl (lv_at hl 1 rfl) ?_
    refine lv_aload_n hx hb dX6_byteAt_5 rfl (lv_at hl 0 rfl) ?_
    refine va_get (D := (dC, dI)) (ci := 3) (v := .int (I 1)) (C := RX6) (T := TX6) (N := 2) hx hb hts hinX6 hown hK hP 0 rfl rfl 1 (by decide) hk15 (fun _ h9 => h9) rfl dX6_byteAt_6 ?_
    refine lv_icmp_ge (tgt := 30) hx hb dX6_byteAt_9 (by decide) (fun c2 => ?_) (fun c2 => ?_)
    · have hf := (if_pos c2).symm.trans hf
      refine lv_iconst (v := (-1 : Int32)) hx hb dX6_byteAt_30 (by decide) ?_
      exact W.iret (v := (-1 : Int32)) hx hb hr (fun t ht hW => ⟨congrArg (fun z => Outcome.returned (some (Value.int z))) (Option.some.inj hf), ht⟩) (fun _ h => nomatch h) dX6_byteAt_31
    · have hf := (if_neg c2).symm.trans hf
      refine lv_iload_n hx hb dX6_byteAt_12 rfl (lv_at hl 1 rfl) ?_
      refine lv_aload_n hx hb dX6_byteAt_13 rfl (lv_at hl 0 rfl) ?_
      refine va_get (D := (dC, dI)) (ci := 3) (v := .ref (Q 0)) (C := RX6) (T := TX6) (N := 2) hx hb hts hinX6 hown hK hP 0 rfl rfl 0 (by decide) hk9 (fun _ h9 => h9) rfl dX6_byteAt_14 ?_
      refine va_alen (v := (12 : Int32)) hx hb hK hP 1 0 rfl rfl rfl dX6_byteAt_17 ?_
      refine lv_icmp_ge (tgt := 30) hx hb dX6_byteAt_18 (by decide) (fun c3 => ?_) (fun c3 => ?_)
      · have hf := (if_pos c3).symm.trans hf
        refine lv_iconst (v := (-1 : Int32)) hx hb dX6_byteAt_30 (by decide) ?_
        exact W.iret (v := (-1 : Int32)) hx hb hr (fun t ht hW => ⟨congrArg (fun z => Outcome.returned (some (Value.int z))) (Option.some.inj hf), ht⟩) (fun _ h => nomatch h) dX6_byteAt_31
      · have hf := (if_neg c3).symm.trans hf
        refine lv_aload_n hx hb dX6_byteAt_21 rfl (lv_at hl 0 rfl) ?_
        refine va_get (D := (dC, dI)) (ci := 3) (v := .ref (Q 0)) (C := RX6) (T := TX6) (N := 2) hx hb hts hinX6 hown hK hP 0 rfl rfl 0 (by decide) hk9 (fun _ h9 => h9) rfl dX6_byteAt_22 ?_
        refine lv_iload_n hx hb dX6_byteAt_25 rfl (lv_at hl 1 rfl) ?_
        obtain ⟨g4, hf⟩ := of_ite_some hf
        refine va_iald hx hb hK hP 1 0 (n := 12) (f := (A 0)) rfl rfl g4 dX6_byteAt_26 ?_
        refine lv_goto (tgt := 31) hx hb dX6_byteAt_27 (by decide) ?_
        exact W.iret (v := ((A 0) x1.toNatClampNeg)) hx hb hr (fun t ht hW => ⟨congrArg (fun z => Outcome.returned (some (Value.int z))) (Option.some.inj hf), ht⟩) (fun _ h => nomatch h) dX6_byteAt_31
def fX6_add  (I : Nat → Int32) (A : Nat → Nat → Int32) (x1 : Int32) : Option ((Nat → Int32) × (Nat → Nat → Int32)) :=
  (if (12 : Int32) ≤ (I 1) then (some (I, A)) else (if gd (I 1) 12 then (some ((upd I 1 ((I 1) + (1 : Int32))), (va_up A 0 (upd (A 0) (I 1).toNatClampNeg x1)))) else none))
set_option maxRecDepth 100000 in
set_option maxHeartbeats 4000000 in
theorem mX6_add (l : Launch) (dC : Nat → ClassId) (dI : Nat → Nat → Nat) (cI : ClassId) (Q : Nat → Nat)  (I : Nat → Int32) (A : Nat → Nat → Int32) (x1 : Int32) (sz : Nat) (z : (Nat → Int32) × (Nat → Nat → Int32)) (hf : fX6_add I A x1 = some z) : Met l yX6_add wsX6_add ({ frames := 0, cells := 0, slots := 0, locals := 0 }) (va_Pc [.ref (Q 100), .int x1] (fun U => U.heap.size = sz ∧ va_P (dC, dI) vwCl (wX cI Q I A) U.heap ∧ va_K (dC, dI) vwCl [(cI, .int)] U ∧ va_D (fun _ => True) (wX cI Q I A))) (va_Qv (fun (u : (Nat → Int32) × (Nat → Nat → Int32)) => u = z) (atX dC dI cI Q (va_A (wX cI Q I A) sz)) (va_A (wX cI Q I A) sz)) 0 0 (va_A (wX cI Q I A) sz) := by
  refine Met.ofW (cc := cX6_add) (maxL := 2) (ret := none) (by decide) rfl ?_
  intro p e s m args below meth c s₁ BL hml hv
  obtain ⟨rfl, hsz, hP, hK, hD0⟩ := hv
  have hx := BL.exec
  have hb := BL.bytes
  have hr := BL.returns
  have hts := atoms_spec (ws := wsX6_add) BL.pre
  have hown : s.vm.findClass RX6 = some m.cls := findClass_of_methodNamed BL.named
  have hlocks := BL.notSynchronized
  have hinX6 : ∀ w ∈ u_ws RX6 TX6 2, w ∈ wsX6_add := by decide +kernel
  have hk9 := hts (.fieldLink RX6 9 "LeadSheets$Text" "bytes" "[I") (by decide +kernel)
  have hk15 := hts (.fieldLink RX6 15 "LeadSheets$Text" "size" "I") (by decide +kernel)
  subst hsz
  have hD := hD0.self (sz := s.heap.size)
  generalize hAe : va_A (wX cI Q I A) s.heap.size = AA at hD ⊢
  have hA : ∀ q : Nat, s.heap.size ≤ q → AA q := fun q h => by rw [← hAe]; exact Or.inr h
  have hS : va_S AA s.heap s.heap [] := va_S.rf
  have hl := lv_entry ([.ref (Q 100), .int x1]) (n := 2) (Nat.le_of_ble_eq_true rfl)
  rw [lg_entry_eq]
  generalize (lg_sl ([.ref (Q 100), .int x1]) ++ List.replicate (2 - (lg_sl ([.ref (Q 100), .int x1])).length) Slot.unset).toArray = ls at hl ⊢
  have hl : lv_has ls 2 [(0, .ref (Q 100)), (1, .int x1)] := hl
  unfold fX6_add at hf
  refine lv_aload_n hx hb dX6_add_0 rfl (lv_at hl 0 rfl) ?_
  refine va_get (D := (dC, dI)) (ci := 3) (v := .int (I 1)) (C := RX6) (T := TX6) (N := 2) hx hb hts hinX6 hown hK hP 0 rfl rfl 1 (by decide) hk15 (fun _ h9 => h9) rfl dX6_add_1 ?_
  refine lv_aload_n hx hb dX6_add_4 rfl (lv_at hl 0 rfl) ?_
  refine va_get (D := (dC, dI)) (ci := 3) (v := .ref (Q 0)) (C := RX6) (T := TX6) (N := 2) hx hb hts hinX6 hown hK hP 0 rfl rfl 0 (by decide) hk9 (fun _ h9 => h9) rfl dX6_add_5 ?_
  refine va_alen (v := (12 : Int32)) hx hb hK hP 1 0 rfl rfl rfl dX6_add_8 ?_
  refine lv_icmp_ge (tgt := 32) hx hb dX6_add_9 (by decide) (fun c1 => ?_) (fun c1 => ?_)
  · have hf := (if_pos c1).symm.trans hf
    exact W.vret hx hb hr (fun t ht hW => ⟨⟨(I, A), rfl, Option.some.inj hf, by rw [ht]; exact hP, va_K.moved hW.alike hK, hD⟩, hS.F ht⟩) hS.2.2 dX6_add_32
  · have hf := (if_neg c1).symm.trans hf
    refine lv_aload_n hx hb dX6_add_12 rfl (lv_at hl 0 rfl) ?_
    refine va_get (D := (dC, dI)) (ci := 3) (v := .ref (Q 0)) (C := RX6) (T := TX6) (N := 2) hx hb hts hinX6 hown hK hP 0 rfl rfl 0 (by decide) hk9 (fun _ h9 => h9) rfl dX6_add_13 ?_
    refine lv_aload_n hx hb dX6_add_16 rfl (lv_at hl 0 rfl) ?_
    refine va_get (D := (dC, dI)) (ci := 3) (v := .int (I 1)) (C := RX6) (T := TX6) (N := 2) hx hb hts hinX6 hown hK hP 0 rfl rfl 1 (by decide) hk15 (fun _ h9 => h9) rfl dX6_add_17 ?_
    refine lv_iload_n hx hb dX6_add_20 rfl (lv_at hl 1 rfl) ?_
    obtain ⟨g2, hf⟩ := of_ite_some hf
    refine va_iast hx hb hK hP hD hS 1 0 (n := 12) (f := (A 0)) rfl rfl g2 dX6_add_21 (fun H locs hP hD hS => ?_)
    have hP : va_P (dC, dI) vwCl (wX cI Q I (va_up A 0 (upd (A 0) (I 1).toNatClampNeg x1))) H := Eq.mp (congrArg (fun w => va_P (dC, dI) vwCl w H) (wXA_0 cI Q I A (upd (A 0) (I 1).toNatClampNeg x1))) hP
    have hD : va_D AA (wX cI Q I (va_up A 0 (upd (A 0) (I 1).toNatClampNeg x1))) := Eq.mp (congrArg (fun w => va_D AA w) (wXA_0 cI Q I A (upd (A 0) (I 1).toNatClampNeg x1))) hD
    refine lv_aload_n hx hb dX6_add_22 rfl (lv_at hl 0 rfl) ?_
    refine lv_dup hx hb dX6_add_23 rfl ?_
    refine va_get (D := (dC, dI)) (ci := 3) (v := .int (I 1)) (C := RX6) (T := TX6) (N := 2) hx hb hts hinX6 hown hK hP 0 rfl rfl 1 (by decide) hk15 (fun _ h9 => h9) rfl dX6_add_24 ?_
    refine lv_iconst (v := (1 : Int32)) hx hb dX6_add_27 (by decide) ?_
    refine lv_iadd hx hb dX6_add_28 ?_
    refine va_put (D := (dC, dI)) (ci := 3) (v := .int ((I 1) + (1 : Int32))) (ty := .int) (C := RX6) (T := TX6) (N := 2) hx hb hts hinX6 tyX6 tyX6_ok nmX6 hown hK hP hD hS 0 (fs := (oX Q I)) rfl rfl 1 (by decide) hk15 (fun _ h9 => h9) rfl (by decide +kernel) rfl rfl (Nat.le_of_ble_eq_true rfl) dX6_add_29 (fun H locs hP hD hS => ?_)
    have hP : va_P (dC, dI) vwCl (wX cI Q (upd I 1 ((I 1) + (1 : Int32))) (va_up A 0 (upd (A 0) (I 1).toNatClampNeg x1))) H := Eq.mp (congrArg (fun w => va_P (dC, dI) vwCl w H) (wXI_1 cI Q I (va_up A 0 (upd (A 0) (I 1).toNatClampNeg x1)) ((I 1) + (1 : Int32)))) hP
    have hD : va_D AA (wX cI Q (upd I 1 ((I 1) + (1 : Int32))) (va_up A 0 (upd (A 0) (I 1).toNatClampNeg x1))) := Eq.mp (congrArg (fun w => va_D AA w) (wXI_1 cI Q I (va_up A 0 (upd (A 0) (I 1).toNatClampNeg x1)) ((I 1) + (1 : Int32)))) hD
    exact W.vret hx hb hr (fun t ht hW => ⟨⟨((upd I 1 ((I 1) + (1 : Int32))), (va_up A 0 (upd (A 0) (I 1).toNatClampNeg x1))), rfl, Option.some.inj hf, by rw [ht]; exact hP, va_K.moved hW.alike hK, hD⟩, hS.F ht⟩) hS.2.2 dX6_add_32
def fX6_addWord_6B  (si : Nat)  (k6 : (Nat → Int32) → (Nat → Nat → Int32) → Int32 → Int32 → Int32 → Int32 → Option ((Nat → Int32) × (Nat → Nat → Int32))) (I : Nat → Int32) (A : Nat → Nat → Int32) (v2 : Int32) (v3 : Int32) (v4 : Int32) (v5 : Int32) : Option ((Nat → Int32) × (Nat → Nat → Int32)) :=
  (if (Int32.ofNat (jN si)) ≤ v5 then (some (I, A)) else (if gd v5 (jN si) then (if (jC si v5.toNatClampNeg) = (32 : Int32) then (k6 I A v2 v3 (v4 + (1 : Int32)) (v5 + (1 : Int32))) else (if v4 = v2 then (if v3 = 0 then ((fX6_add I A (jC si v5.toNatClampNeg)).bind fun (I7, A8) => (k6 I7 A8 v2 v3 v4 (v5 + (1 : Int32)))) else (if (jC si v5.toNatClampNeg) = (98 : Int32) then ((fX6_add I A (jC si v5.toNatClampNeg)).bind fun (I12, A13) => (k6 I12 A13 v2 v3 v4 (v5 + (1 : Int32)))) else ((fX6_add I A (((((jC si v5.toNatClampNeg) - (65 : Int32)) + (97 : Int32)).toUInt32 % 65536).toInt32)).bind fun (I16, A17) => (k6 I16 A17 v2 v3 v4 (v5 + (1 : Int32)))))) else (k6 I A v2 v3 v4 (v5 + (1 : Int32))))) else none))
def fX6_addWord_6  (si : Nat)  : Nat → ((Nat → Int32) → (Nat → Nat → Int32) → Int32 → Int32 → Int32 → Int32 → Option ((Nat → Int32) × (Nat → Nat → Int32)))
  | 0 => fun _ _ _ _ _ _ => none
  | n + 1 => fX6_addWord_6B si  (fX6_addWord_6 si  n)
def fX6_addWord  (I : Nat → Int32) (A : Nat → Nat → Int32) (si : Nat) (x2 : Int32) (x3 : Int32) : Option ((Nat → Int32) × (Nat → Nat → Int32)) :=
  (fX6_addWord_6 si  FU I A x2 x3 (0 : Int32) (0 : Int32))
set_option maxRecDepth 100000 in
set_option maxHeartbeats 4000000 in
theorem mX6_addWord (l : Launch) (en : Nat → Nat) (dC : Nat → ClassId) (dI : Nat → Nat → Nat) (cI : ClassId) (Q : Nat → Nat)  (I : Nat → Int32) (A : Nat → Nat → Int32) (si : Nat) (hsi : si < 10) (x2 : Int32) (x3 : Int32) (sz : Nat) (z : (Nat → Int32) × (Nat → Nat → Int32)) (hf : fX6_addWord I A si x2 x3 = some z) : Met l yX6_addWord wsX6_addWord ({ frames := 4, cells := 0, slots := 0, locals := 85 }) (va_Pc [.ref (Q 100), .ref (en (100 + si)), .int x2, .int x3] (fun U => U.heap.size = sz ∧ va_P (dC, dI) vwCl (wX cI Q I A) U.heap ∧ va_K (dC, dI) vwCl [(cI, .int)] U ∧ va_D (fun _ => True) (wX cI Q I A) ∧ cE en (va_A (wX cI Q I A) sz) U U.heap)) (va_Qv (fun (u : (Nat → Int32) × (Nat → Nat → Int32)) => u = z) (atX dC dI cI Q (va_A (wX cI Q I A) sz)) (va_A (wX cI Q I A) sz)) 0 0 (va_A (wX cI Q I A) sz) := by
  refine Met.ofW (cc := cX6_addWord) (maxL := 7) (ret := none) (by decide) rfl ?_
  intro p e s m args below meth c s₁ BL hml hv
  obtain ⟨rfl, hsz, hP, hK, hD0, hE⟩ := hv
  have hx := BL.exec
  have hb := BL.bytes
  have hr := BL.returns
  have hts := atoms_spec (ws := wsX6_addWord) BL.pre
  have hown : s.vm.findClass RX6 = some m.cls := findClass_of_methodNamed BL.named
  have hlocks := BL.notSynchronized
  subst hsz
  have hD := hD0.self (sz := s.heap.size)
  generalize hAe : va_A (wX cI Q I A) s.heap.size = AA at hD hE ⊢
  have hA : ∀ q : Nat, s.heap.size ≤ q → AA q := fun q h => by rw [← hAe]; exact Or.inr h
  have hS : va_S AA s.heap s.heap [] := va_S.rf
  have sg6 : ∀ n : Nat, ∀ (I : Nat → Int32) (A : Nat → Nat → Int32) (v2 : Int32) (v3 : Int32) (v4 : Int32) (v5 : Int32) (H : Heap) (locs : List Loc) (ls : Array Slot), fX6_addWord_6 si  n I A v2 v3 v4 v5 = some z → va_P (dC, dI) vwCl (wX cI Q I A) H → va_D AA (wX cI Q I A) → va_S AA s.heap H locs → lv_has ls 7 [(0, .ref (Q 100)), (1, .ref (en (100 + si))), (2, .int v2), (3, .int v3), (4, .int v4), (5, .int v5)] → W p l e (headSpec wsX6_addWord ({ frames := 4, cells := 0, slots := 0, locals := 85 })).room s m (([.ref (Q 100), .ref (en (100 + si)), .int x2, .int x3] : List Value).toArray) below meth c H locs 0 0 (MQ below (va_Qv (fun (u : (Nat → Int32) × (Nat → Nat → Int32)) => u = z) (atX dC dI cI Q AA) AA) (([.ref (Q 100), .ref (en (100 + si)), .int x2, .int x3] : List Value).toArray) s 0 0 AA) (F0 m 6 ls []) := by
    intro n
    induction n with
    | zero => intro I A v2 v3 v4 v5 H locs ls hf hP hD hS hl; exact of_none hf
    | succ n ih6 =>
      intro I A v2 v3 v4 v5 H locs ls hf hP hD hS hl
      change fX6_addWord_6B si  (fX6_addWord_6 si  n) I A v2 v3 v4 v5 = _ at hf
      unfold fX6_addWord_6B at hf
      refine lv_iload hx hb dX6_addWord_6 (lv_at hl 5 rfl) ?_
      refine lv_aload_n hx hb dX6_addWord_8 rfl (lv_at hl 1 rfl) ?_
      refine W.callR (r := (Int32.ofNat (jN si))) (W.runV (As := []) (rest := [.int v5]) ⟨hx, hb, hml, hown, hts⟩ (mJ0_length l en si hsi) (cwV 0 hts gX6_addWord_J0_length_8abf5 rfl rfl rfl (by decide +kernel) ⟨Nat.le_of_ble_eq_true rfl, Nat.le_of_ble_eq_true rfl⟩) ⟨blindS, cE_recv hE hS si hsi, fun U hU hW => ⟨rfl, cE_read hE hS hW hU⟩⟩ rfl rfl hl.1 rfl (lv_room (Nat.le_of_ble_eq_true rfl)) dX6_addWord_9 ⟨Nat.zero_le _, Nat.zero_le _⟩) ?_
      refine W.eq (g2 := F0 m 12 ls [.int (Int32.ofNat (jN si)), .int v5]) rfl ?_
      refine lv_icmp_ge (tgt := 77) hx hb dX6_addWord_12 (by decide) (fun c1 => ?_) (fun c1 => ?_)
      · have hf := (if_pos c1).symm.trans hf
        exact W.vret hx hb hr (fun t ht hW => ⟨⟨(I, A), rfl, Option.some.inj hf, by rw [ht]; exact hP, va_K.moved hW.alike hK, hD⟩, hS.F ht⟩) hS.2.2 dX6_addWord_77
      · have hf := (if_neg c1).symm.trans hf
        refine lv_aload_n hx hb dX6_addWord_15 rfl (lv_at hl 1 rfl) ?_
        refine lv_iload hx hb dX6_addWord_16 (lv_at hl 5 rfl) ?_
        obtain ⟨g2, hf⟩ := of_ite_some hf
        refine W.callR (r := (jC si v5.toNatClampNeg)) (W.runV (As := [.int v5]) (rest := []) ⟨hx, hb, hml, hown, hts⟩ (mJ0_charAt l en si hsi v5 g2) (cwV 1 hts gX6_addWord_J0_charAt_5068e rfl rfl rfl (by decide +kernel) ⟨Nat.le_of_ble_eq_true rfl, Nat.le_of_ble_eq_true rfl⟩) ⟨blindS, cE_recv hE hS si hsi, fun U hU hW => ⟨rfl, cE_read hE hS hW hU⟩⟩ rfl rfl hl.1 rfl (lv_room (Nat.le_of_ble_eq_true rfl)) dX6_addWord_18 ⟨Nat.zero_le _, Nat.zero_le _⟩) ?_
        refine W.eq (g2 := F0 m 21 ls [.int (jC si v5.toNatClampNeg)]) rfl ?_
        refine lv_istore (lv' := [(6, .int (jC si v5.toNatClampNeg)), (0, .ref (Q 100)), (1, .ref (en (100 + si))), (2, .int v2), (3, .int v3), (4, .int v4), (5, .int v5)]) hx hb dX6_addWord_21 hl (by decide) rfl (fun ls hl => ?_)
        refine lv_iload hx hb dX6_addWord_23 (lv_at hl 0 rfl) ?_
        refine lv_bipush (v := (32 : Int32)) hx hb dX6_addWord_25 (by decide) ?_
        refine lv_icmp_ne (tgt := 36) hx hb dX6_addWord_27 (by decide) (fun c3 => ?_) (fun c3 => ?_)
        · have hf := (if_neg c3).symm.trans hf
          refine lv_iload hx hb dX6_addWord_36 (lv_at hl 5 rfl) ?_
          refine lv_iload_n hx hb dX6_addWord_38 rfl (lv_at hl 3 rfl) ?_
          refine lv_icmp_ne (tgt := 71) hx hb dX6_addWord_39 (by decide) (fun c4 => ?_) (fun c4 => ?_)
          · have hf := (if_neg c4).symm.trans hf
            refine lv_iinc (v := (v5 + (1 : Int32))) (lv' := [(5, .int (v5 + (1 : Int32))), (6, .int (jC si v5.toNatClampNeg)), (0, .ref (Q 100)), (1, .ref (en (100 + si))), (2, .int v2), (3, .int v3), (4, .int v4)]) hx hb dX6_addWord_71 hl (k := 6) rfl rfl (by decide) rfl (fun ls hl => ?_)
            refine lv_goto (tgt := 6) hx hb dX6_addWord_74 (by decide) ?_
            exact ih6 I A v2 v3 v4 (v5 + (1 : Int32)) H locs ls hf hP hD hS (lv_sub hl [2, 3, 4, 5, 6, 0] rfl)
          · have hf := (if_pos c4).symm.trans hf
            refine lv_aload_n hx hb dX6_addWord_42 rfl (lv_at hl 1 rfl) ?_
            refine lv_iload_n hx hb dX6_addWord_43 rfl (lv_at hl 4 rfl) ?_
            refine lv_if_eq (tgt := 66) hx hb dX6_addWord_44 (by decide) (fun c5 => ?_) (fun c5 => ?_)
            · have hf := (if_pos c5).symm.trans hf
              refine lv_iload hx hb dX6_addWord_66 (lv_at hl 0 rfl) ?_
              obtain ⟨⟨I7, A8⟩, hc6, hf⟩ := of_bind_some hf
              have hF9 := va_freeAll hD hS hA
              refine va_callv (va_runV (As := [.int (jC si v5.toNatClampNeg)]) (rest := []) ⟨hx, hb, hml, hown, hts⟩ (mX6_add l dC dI cI Q I A (jC si v5.toNatClampNeg) H.size _ hc6) (cwV 1 hts gX6_addWord_X6_add rfl rfl rfl (by decide +kernel) ⟨Nat.le_of_ble_eq_true rfl, Nat.le_of_ble_eq_true rfl⟩) ⟨blindW, va_recv hK hP (ci := 3) (q0 := 0) rfl rfl, fun U hU hW => ⟨rfl, by rw [hU], by rw [hU]; exact hP, va_K.moved hW.alike hK, hD.weaken (fun _ _ _ _ => trivial)⟩⟩ rfl rfl hl.1 rfl (lv_room (Nat.le_of_ble_eq_true rfl)) dX6_addWord_68 ⟨Nat.zero_le _, Nat.zero_le _⟩) hS (fun q _ h => hF9 q h) hF9 (fun u t H locs ht hvm hw hB hz1 hk1 hS => ?_)
              cases hw
              obtain ⟨hP, hK9, hD⟩ := hB
              rw [ht] at hP
              have hP : va_P (dC, dI) vwCl (wX cI Q I7 A8) H := hP
              have hD : va_D AA (wX cI Q I7 A8) := hD.weaken (fun _ _ _ h => hF9 _ h)
              refine lv_iinc (v := (v5 + (1 : Int32))) (lv' := [(5, .int (v5 + (1 : Int32))), (6, .int (jC si v5.toNatClampNeg)), (0, .ref (Q 100)), (1, .ref (en (100 + si))), (2, .int v2), (3, .int v3), (4, .int v4)]) hx hb dX6_addWord_71 hl (k := 6) rfl rfl (by decide) rfl (fun ls hl => ?_)
              refine lv_goto (tgt := 6) hx hb dX6_addWord_74 (by decide) ?_
              exact ih6 I7 A8 v2 v3 v4 (v5 + (1 : Int32)) H locs ls hf hP hD hS (lv_sub hl [2, 3, 4, 5, 6, 0] rfl)
            · have hf := (if_neg c5).symm.trans hf
              refine lv_iload hx hb dX6_addWord_47 (lv_at hl 0 rfl) ?_
              refine lv_bipush (v := (98 : Int32)) hx hb dX6_addWord_49 (by decide) ?_
              refine lv_icmp_eq (tgt := 66) hx hb dX6_addWord_51 (by decide) (fun c10 => ?_) (fun c10 => ?_)
              · have hf := (if_pos c10).symm.trans hf
                refine lv_iload hx hb dX6_addWord_66 (lv_at hl 0 rfl) ?_
                obtain ⟨⟨I12, A13⟩, hc11, hf⟩ := of_bind_some hf
                have hF14 := va_freeAll hD hS hA
                refine va_callv (va_runV (As := [.int (jC si v5.toNatClampNeg)]) (rest := []) ⟨hx, hb, hml, hown, hts⟩ (mX6_add l dC dI cI Q I A (jC si v5.toNatClampNeg) H.size _ hc11) (cwV 1 hts gX6_addWord_X6_add rfl rfl rfl (by decide +kernel) ⟨Nat.le_of_ble_eq_true rfl, Nat.le_of_ble_eq_true rfl⟩) ⟨blindW, va_recv hK hP (ci := 3) (q0 := 0) rfl rfl, fun U hU hW => ⟨rfl, by rw [hU], by rw [hU]; exact hP, va_K.moved hW.alike hK, hD.weaken (fun _ _ _ _ => trivial)⟩⟩ rfl rfl hl.1 rfl (lv_room (Nat.le_of_ble_eq_true rfl)) dX6_addWord_68 ⟨Nat.zero_le _, Nat.zero_le _⟩) hS (fun q _ h => hF14 q h) hF14 (fun u t H locs ht hvm hw hB hz1 hk1 hS => ?_)
                cases hw
                obtain ⟨hP, hK9, hD⟩ := hB
                rw [ht] at hP
                have hP : va_P (dC, dI) vwCl (wX cI Q I12 A13) H := hP
                have hD : va_D AA (wX cI Q I12 A13) := hD.weaken (fun _ _ _ h => hF14 _ h)
                refine lv_iinc (v := (v5 + (1 : Int32))) (lv' := [(5, .int (v5 + (1 : Int32))), (6, .int (jC si v5.toNatClampNeg)), (0, .ref (Q 100)), (1, .ref (en (100 + si))), (2, .int v2), (3, .int v3), (4, .int v4)]) hx hb dX6_addWord_71 hl (k := 6) rfl rfl (by decide) rfl (fun ls hl => ?_)
                refine lv_goto (tgt := 6) hx hb dX6_addWord_74 (by decide) ?_
                exact ih6 I12 A13 v2 v3 v4 (v5 + (1 : Int32)) H locs ls hf hP hD hS (lv_sub hl [2, 3, 4, 5, 6, 0] rfl)
              · have hf := (if_neg c10).symm.trans hf
                refine lv_iload hx hb dX6_addWord_54 (lv_at hl 0 rfl) ?_
                refine lv_bipush (v := (65 : Int32)) hx hb dX6_addWord_56 (by decide) ?_
                refine lv_isub hx hb dX6_addWord_58 ?_
                refine lv_bipush (v := (97 : Int32)) hx hb dX6_addWord_59 (by decide) ?_
                refine lv_iadd hx hb dX6_addWord_61 ?_
                refine lv_i2c (v := (((((jC si v5.toNatClampNeg) - (65 : Int32)) + (97 : Int32)).toUInt32 % 65536).toInt32)) hx hb dX6_addWord_62 rfl ?_
                refine lv_goto (tgt := 68) hx hb dX6_addWord_63 (by decide) ?_
                obtain ⟨⟨I16, A17⟩, hc15, hf⟩ := of_bind_some hf
                have hF18 := va_freeAll hD hS hA
                refine va_callv (va_runV (As := [.int (((((jC si v5.toNatClampNeg) - (65 : Int32)) + (97 : Int32)).toUInt32 % 65536).toInt32)]) (rest := []) ⟨hx, hb, hml, hown, hts⟩ (mX6_add l dC dI cI Q I A (((((jC si v5.toNatClampNeg) - (65 : Int32)) + (97 : Int32)).toUInt32 % 65536).toInt32) H.size _ hc15) (cwV 1 hts gX6_addWord_X6_add rfl rfl rfl (by decide +kernel) ⟨Nat.le_of_ble_eq_true rfl, Nat.le_of_ble_eq_true rfl⟩) ⟨blindW, va_recv hK hP (ci := 3) (q0 := 0) rfl rfl, fun U hU hW => ⟨rfl, by rw [hU], by rw [hU]; exact hP, va_K.moved hW.alike hK, hD.weaken (fun _ _ _ _ => trivial)⟩⟩ rfl rfl hl.1 rfl (lv_room (Nat.le_of_ble_eq_true rfl)) dX6_addWord_68 ⟨Nat.zero_le _, Nat.zero_le _⟩) hS (fun q _ h => hF18 q h) hF18 (fun u t H locs ht hvm hw hB hz1 hk1 hS => ?_)
                cases hw
                obtain ⟨hP, hK9, hD⟩ := hB
                rw [ht] at hP
                have hP : va_P (dC, dI) vwCl (wX cI Q I16 A17) H := hP
                have hD : va_D AA (wX cI Q I16 A17) := hD.weaken (fun _ _ _ h => hF18 _ h)
                refine lv_iinc (v := (v5 + (1 : Int32))) (lv' := [(5, .int (v5 + (1 : Int32))), (6, .int (jC si v5.toNatClampNeg)), (0, .ref (Q 100)), (1, .ref (en (100 + si))), (2, .int v2), (3, .int v3), (4, .int v4)]) hx hb dX6_addWord_71 hl (k := 6) rfl rfl (by decide) rfl (fun ls hl => ?_)
                refine lv_goto (tgt := 6) hx hb dX6_addWord_74 (by decide) ?_
                exact ih6 I16 A17 v2 v3 v4 (v5 + (1 : Int32)) H locs ls hf hP hD hS (lv_sub hl [2, 3, 4, 5, 6, 0] rfl)
        · have hf := (if_pos c3).symm.trans hf
          refine lv_iinc (v := (v4 + (1 : Int32))) (lv' := [(4, .int (v4 + (1 : Int32))), (6, .int (jC si v5.toNatClampNeg)), (0, .ref (Q 100)), (1, .ref (en (100 + si))), (2, .int v2), (3, .int v3), (5, .int v5)]) hx hb dX6_addWord_30 hl (k := 5) rfl rfl (by decide) rfl (fun ls hl => ?_)
          refine lv_goto (tgt := 71) hx hb dX6_addWord_33 (by decide) ?_
          refine lv_iinc (v := (v5 + (1 : Int32))) (lv' := [(5, .int (v5 + (1 : Int32))), (4, .int (v4 + (1 : Int32))), (6, .int (jC si v5.toNatClampNeg)), (0, .ref (Q 100)), (1, .ref (en (100 + si))), (2, .int v2), (3, .int v3)]) hx hb dX6_addWord_71 hl (k := 6) rfl rfl (by decide) rfl (fun ls hl => ?_)
          refine lv_goto (tgt := 6) hx hb dX6_addWord_74 (by decide) ?_
          exact ih6 I A v2 v3 (v4 + (1 : Int32)) (v5 + (1 : Int32)) H locs ls hf hP hD hS (lv_sub hl [3, 4, 5, 6, 1, 0] rfl)
  have hl := lv_entry ([.ref (Q 100), .ref (en (100 + si)), .int x2, .int x3]) (n := 7) (Nat.le_of_ble_eq_true rfl)
  rw [lg_entry_eq]
  generalize (lg_sl ([.ref (Q 100), .ref (en (100 + si)), .int x2, .int x3]) ++ List.replicate (7 - (lg_sl ([.ref (Q 100), .ref (en (100 + si)), .int x2, .int x3])).length) Slot.unset).toArray = ls at hl ⊢
  have hl : lv_has ls 7 [(0, .ref (Q 100)), (1, .ref (en (100 + si))), (2, .int x2), (3, .int x3)] := hl
  unfold fX6_addWord at hf
  refine lv_iconst (v := (0 : Int32)) hx hb dX6_addWord_0 (by decide) ?_
  refine lv_istore (lv' := [(4, .int (0 : Int32)), (0, .ref (Q 100)), (1, .ref (en (100 + si))), (2, .int x2), (3, .int x3)]) hx hb dX6_addWord_1 hl (by decide) rfl (fun ls hl => ?_)
  refine lv_iconst (v := (0 : Int32)) hx hb dX6_addWord_3 (by decide) ?_
  refine lv_istore (lv' := [(5, .int (0 : Int32)), (4, .int (0 : Int32)), (0, .ref (Q 100)), (1, .ref (en (100 + si))), (2, .int x2), (3, .int x3)]) hx hb dX6_addWord_4 hl (by decide) rfl (fun ls hl => ?_)
  exact sg6  FU I A x2 x3 (0 : Int32) (0 : Int32) s.heap [] ls hf hP hD hS (lv_sub hl [2, 3, 4, 5, 1, 0] rfl)
def fX6_addNote  (I : Nat → Int32) (A : Nat → Nat → Int32) (x1 : Int32) : Option ((Nat → Int32) × (Nat → Nat → Int32)) :=
  ((fX6_addWord I A 8 (fX3_letter x1) (0 : Int32)).bind fun (I2, A3) => ((fX6_addWord I2 A3 9 ((fX3_signs x1) + (2 : Int32)) (0 : Int32)).bind fun (I6, A7) => (some (I6, A7))))
set_option maxRecDepth 100000 in
set_option maxHeartbeats 4000000 in
theorem mX6_addNote (l : Launch) (en : Nat → Nat) (dC : Nat → ClassId) (dI : Nat → Nat → Nat) (cI : ClassId) (Q : Nat → Nat)  (I : Nat → Int32) (A : Nat → Nat → Int32) (x1 : Int32) (sz : Nat) (z : (Nat → Int32) × (Nat → Nat → Int32)) (hf : fX6_addNote I A x1 = some z) : Met l yX6_addNote wsX6_addNote ({ frames := 5, cells := 0, slots := 0, locals := 111 }) (va_Pc [.ref (Q 100), .int x1] (fun U => U.heap.size = sz ∧ va_P (dC, dI) vwCl (wX cI Q I A) U.heap ∧ va_K (dC, dI) vwCl [(cI, .int)] U ∧ va_D (fun _ => True) (wX cI Q I A) ∧ cE en (va_A (wX cI Q I A) sz) U U.heap)) (va_Qv (fun (u : (Nat → Int32) × (Nat → Nat → Int32)) => u = z) (atX dC dI cI Q (va_A (wX cI Q I A) sz)) (va_A (wX cI Q I A) sz)) 0 0 (va_A (wX cI Q I A) sz) := by
  refine Met.ofW (cc := cX6_addNote) (maxL := 2) (ret := none) (by decide) rfl ?_
  intro p e s m args below meth c s₁ BL hml hv
  obtain ⟨rfl, hsz, hP, hK, hD0, hE⟩ := hv
  have hx := BL.exec
  have hb := BL.bytes
  have hr := BL.returns
  have hts := atoms_spec (ws := wsX6_addNote) BL.pre
  have hown : s.vm.findClass RX6 = some m.cls := findClass_of_methodNamed BL.named
  have hlocks := BL.notSynchronized
  subst hsz
  have hD := hD0.self (sz := s.heap.size)
  generalize hAe : va_A (wX cI Q I A) s.heap.size = AA at hD hE ⊢
  have hA : ∀ q : Nat, s.heap.size ≤ q → AA q := fun q h => by rw [← hAe]; exact Or.inr h
  have hS : va_S AA s.heap s.heap [] := va_S.rf
  have hl := lv_entry ([.ref (Q 100), .int x1]) (n := 2) (Nat.le_of_ble_eq_true rfl)
  rw [lg_entry_eq]
  generalize (lg_sl ([.ref (Q 100), .int x1]) ++ List.replicate (2 - (lg_sl ([.ref (Q 100), .int x1])).length) Slot.unset).toArray = ls at hl ⊢
  have hl : lv_has ls 2 [(0, .ref (Q 100)), (1, .int x1)] := hl
  unfold fX6_addNote at hf
  refine lv_aload_n hx hb dX6_addNote_0 rfl (lv_at hl 0 rfl) ?_
  refine va_ldcS hx hb hown (hE.2.1 8 (by decide)).2 dX6_addNote_1 ?_
  refine lv_iload_n hx hb dX6_addNote_3 rfl (lv_at hl 1 rfl) ?_
  refine W.callR (r := (fX3_letter x1)) (W.runS (As := [.int x1]) (rest := [.ref (en (100 + 8)), .ref (Q 100)]) ⟨hx, hb, hml, hown, hts⟩ (mX3_letter l x1 (fX3_letter x1) rfl) (va_cwS 1 hts gX6_addNote_X3_letter rfl rfl rfl (by decide +kernel) ⟨Nat.le_of_ble_eq_true rfl, Nat.le_of_ble_eq_true rfl⟩) ⟨fun _ _ _ _ q => q, fun U hU hW => ⟨rfl, trivial⟩⟩ rfl rfl hl.1 rfl (lv_room (Nat.le_of_ble_eq_true rfl)) dX6_addNote_4 ⟨Nat.zero_le _, Nat.zero_le _⟩) ?_
  refine W.eq (g2 := F0 m 7 ls [.int (fX3_letter x1), .ref (en (100 + 8)), .ref (Q 100)]) rfl ?_
  refine lv_iconst (v := (0 : Int32)) hx hb dX6_addNote_7 (by decide) ?_
  obtain ⟨⟨I2, A3⟩, hc1, hf⟩ := of_bind_some hf
  have hF4 := va_freeAll hD hS hA
  refine va_callv (va_runV (As := [.ref (en (100 + 8)), .int (fX3_letter x1), .int (0 : Int32)]) (rest := []) ⟨hx, hb, hml, hown, hts⟩ (mX6_addWord l en dC dI cI Q I A 8 (by decide) (fX3_letter x1) (0 : Int32) s.heap.size _ hc1) (cwV 3 hts gX6_addNote_X6_addWord rfl rfl rfl (by decide +kernel) ⟨Nat.le_of_ble_eq_true rfl, Nat.le_of_ble_eq_true rfl⟩) ⟨blindWE, va_recv hK hP (ci := 3) (q0 := 0) rfl rfl, fun U hU hW => ⟨rfl, by rw [hU], by rw [hU]; exact hP, va_K.moved hW.alike hK, hD.weaken (fun _ _ _ _ => trivial), cE_sub hE hS hW hU hF4⟩⟩ rfl rfl hl.1 rfl (lv_room (Nat.le_of_ble_eq_true rfl)) dX6_addNote_8 ⟨Nat.zero_le _, Nat.zero_le _⟩) hS (fun q _ h => hF4 q h) hF4 (fun u t H locs ht hvm hw hB hz1 hk1 hS => ?_)
  cases hw
  obtain ⟨hP, hK9, hD⟩ := hB
  rw [ht] at hP
  have hP : va_P (dC, dI) vwCl (wX cI Q I2 A3) H := hP
  have hD : va_D AA (wX cI Q I2 A3) := hD.weaken (fun _ _ _ h => hF4 _ h)
  refine lv_aload_n hx hb dX6_addNote_11 rfl (lv_at hl 0 rfl) ?_
  refine va_ldcS hx hb hown (hE.2.1 9 (by decide)).2 dX6_addNote_12 ?_
  refine lv_iload_n hx hb dX6_addNote_14 rfl (lv_at hl 1 rfl) ?_
  refine W.callR (r := (fX3_signs x1)) (W.runS (As := [.int x1]) (rest := [.ref (en (100 + 9)), .ref (Q 100)]) ⟨hx, hb, hml, hown, hts⟩ (mX3_signs l x1 (fX3_signs x1) rfl) (va_cwS 1 hts gX6_addNote_X3_signs rfl rfl rfl (by decide +kernel) ⟨Nat.le_of_ble_eq_true rfl, Nat.le_of_ble_eq_true rfl⟩) ⟨fun _ _ _ _ q => q, fun U hU hW => ⟨rfl, trivial⟩⟩ rfl rfl hl.1 rfl (lv_room (Nat.le_of_ble_eq_true rfl)) dX6_addNote_15 ⟨Nat.zero_le _, Nat.zero_le _⟩) ?_
  refine W.eq (g2 := F0 m 18 ls [.int (fX3_signs x1), .ref (en (100 + 9)), .ref (Q 100)]) rfl ?_
  refine lv_iconst (v := (2 : Int32)) hx hb dX6_addNote_18 (by decide) ?_
  refine lv_iadd hx hb dX6_addNote_19 ?_
  refine lv_iconst (v := (0 : Int32)) hx hb dX6_addNote_20 (by decide) ?_
  obtain ⟨⟨I6, A7⟩, hc5, hf⟩ := of_bind_some hf
  have hF8 := va_freeAll hD hS hA
  refine va_callv (va_runV (As := [.ref (en (100 + 9)), .int ((fX3_signs x1) + (2 : Int32)), .int (0 : Int32)]) (rest := []) ⟨hx, hb, hml, hown, hts⟩ (mX6_addWord l en dC dI cI Q I2 A3 9 (by decide) ((fX3_signs x1) + (2 : Int32)) (0 : Int32) H.size _ hc5) (cwV 3 hts gX6_addNote_X6_addWord rfl rfl rfl (by decide +kernel) ⟨Nat.le_of_ble_eq_true rfl, Nat.le_of_ble_eq_true rfl⟩) ⟨blindWE, va_recv hK hP (ci := 3) (q0 := 0) rfl rfl, fun U hU hW => ⟨rfl, by rw [hU], by rw [hU]; exact hP, va_K.moved hW.alike hK, hD.weaken (fun _ _ _ _ => trivial), cE_sub hE hS hW hU hF8⟩⟩ rfl rfl hl.1 rfl (lv_room (Nat.le_of_ble_eq_true rfl)) dX6_addNote_21 ⟨Nat.zero_le _, Nat.zero_le _⟩) hS (fun q _ h => hF8 q h) hF8 (fun u t H locs ht hvm hw hB hz1 hk1 hS => ?_)
  cases hw
  obtain ⟨hP, hK9, hD⟩ := hB
  rw [ht] at hP
  have hP : va_P (dC, dI) vwCl (wX cI Q I6 A7) H := hP
  have hD : va_D AA (wX cI Q I6 A7) := hD.weaken (fun _ _ _ h => hF8 _ h)
  exact W.vret hx hb hr (fun t ht hW => ⟨⟨(I6, A7), rfl, Option.some.inj hf, by rw [ht]; exact hP, va_K.moved hW.alike hK, hD⟩, hS.F ht⟩) hS.2.2 dX6_addNote_24
