def fX5_byteAt (I : Nat → Int32) (A : Nat → Nat → Int32)  (x1 : Int32) : Option Int32 :=
  (if x1 < 0 then (some (-1 : Int32)) else (if (I 1) ≤ x1 then (some (-1 : Int32)) else (if (40 : Int32) ≤ x1 then (some (-1 : Int32)) else (if gd x1 40 then (some ((A 0) x1.toNatClampNeg)) else none))))
set_option maxRecDepth 100000 in
set_option maxHeartbeats 4000000 in
theorem mX5_byteAt (l : Launch) (dC : Nat → ClassId) (dI : Nat → Nat → Nat) (cI : ClassId) (Q : Nat → Nat) (I : Nat → Int32) (A : Nat → Nat → Int32)  (x1 : Int32) (r : Int32) (hf : fX5_byteAt I A x1 = some r) : Met l yX5_byteAt wsX5_byteAt ({ frames := 0, cells := 0, slots := 0, locals := 0 }) (va_Pc [.ref (Q 100), .int x1] (fun U => va_P (dC, dI) vwCl (wT cI Q I A) U.heap ∧ va_K (dC, dI) vwCl [(cI, .int)] U)) (QcRead r) 0 0 (fun _ => False) := by
  refine Met.ofW (cc := cX5_byteAt) (maxL := 2) (ret := (some .int)) (by decide) rfl ?_
  intro p e s m args below meth c s₁ BL hml hv
  obtain ⟨rfl, hP, hK⟩ := hv
  have hx := BL.exec
  have hb := BL.bytes
  have hr := BL.returns
  have hts := atoms_spec (ws := wsX5_byteAt) BL.pre
  have hown : s.vm.findClass RX5 = some m.cls := findClass_of_methodNamed BL.named
  have hlocks := BL.notSynchronized
  have hinX5 : ∀ w ∈ u_ws RX5 TX5 4, w ∈ wsX5_byteAt := by decide +kernel
  have hk13 := hts (.fieldLink RX5 13 "LeadSheets$Tape" "bytes" "[I") (by decide +kernel)
  have hk17 := hts (.fieldLink RX5 17 "LeadSheets$Tape" "length" "I") (by decide +kernel)
  have hl := lv_entry ([.ref (Q 100), .int x1]) (n := 2) (Nat.le_of_ble_eq_true rfl)
  rw [lg_entry_eq]
  generalize (lg_sl ([.ref (Q 100), .int x1]) ++ List.replicate (2 - (lg_sl ([.ref (Q 100), .int x1])).length) Slot.unset).toArray = ls at hl ⊢
  have hl : lv_has ls 2 [(0, .ref (Q 100)), (1, .int x1)] := hl
  unfold fX5_byteAt at hf
  refine lv_iload_n hx hb dX5_byteAt_0 rfl (lv_at hl 1 rfl) ?_
  refine lv_if_lt (tgt := 30) hx hb dX5_byteAt_1 (by decide) (fun c1 => ?_) (fun c1 => ?_)
  · have hf := (if_pos c1).symm.trans hf
    refine lv_iconst (v := (-1 : Int32)) hx hb dX5_byteAt_30 (by decide) ?_
    exact W.iret (v := (-1 : Int32)) hx hb hr (fun t ht hW => ⟨congrArg (fun z => Outcome.returned (some (Value.int z))) (Option.some.inj hf), ht⟩) (fun _ h => nomatch h) dX5_byteAt_31
  · have hf := (if_neg c1).symm.trans hf
    refine lv_iload_n hx hb dX5_byteAt_4 rfl (lv_at hl 1 rfl) ?_
    refine lv_aload_n hx hb dX5_byteAt_5 rfl (lv_at hl 0 rfl) ?_
    refine va_get (D := (dC, dI)) (ci := 2) (v := .int (I 1)) (C := RX5) (T := TX5) (N := 4) hx hb hts hinX5 hown hK hP 0 rfl rfl 1 (by decide) hk17 (fun _ h9 => h9) rfl dX5_byteAt_6 ?_
    refine lv_icmp_ge (tgt := 30) hx hb dX5_byteAt_9 (by decide) (fun c2 => ?_) (fun c2 => ?_)
    · have hf := (if_pos c2).symm.trans hf
      refine lv_iconst (v := (-1 : Int32)) hx hb dX5_byteAt_30 (by decide) ?_
      exact W.iret (v := (-1 : Int32)) hx hb hr (fun t ht hW => ⟨congrArg (fun z => Outcome.returned (some (Value.int z))) (Option.some.inj hf), ht⟩) (fun _ h => nomatch h) dX5_byteAt_31
    · have hf := (if_neg c2).symm.trans hf
      refine lv_iload_n hx hb dX5_byteAt_12 rfl (lv_at hl 1 rfl) ?_
      refine lv_aload_n hx hb dX5_byteAt_13 rfl (lv_at hl 0 rfl) ?_
      refine va_get (D := (dC, dI)) (ci := 2) (v := .ref (Q 0)) (C := RX5) (T := TX5) (N := 4) hx hb hts hinX5 hown hK hP 0 rfl rfl 0 (by decide) hk13 (fun _ h9 => h9) rfl dX5_byteAt_14 ?_
      refine va_alen (v := (40 : Int32)) hx hb hK hP 1 0 rfl rfl rfl dX5_byteAt_17 ?_
      refine lv_icmp_ge (tgt := 30) hx hb dX5_byteAt_18 (by decide) (fun c3 => ?_) (fun c3 => ?_)
      · have hf := (if_pos c3).symm.trans hf
        refine lv_iconst (v := (-1 : Int32)) hx hb dX5_byteAt_30 (by decide) ?_
        exact W.iret (v := (-1 : Int32)) hx hb hr (fun t ht hW => ⟨congrArg (fun z => Outcome.returned (some (Value.int z))) (Option.some.inj hf), ht⟩) (fun _ h => nomatch h) dX5_byteAt_31
      · have hf := (if_neg c3).symm.trans hf
        refine lv_aload_n hx hb dX5_byteAt_21 rfl (lv_at hl 0 rfl) ?_
        refine va_get (D := (dC, dI)) (ci := 2) (v := .ref (Q 0)) (C := RX5) (T := TX5) (N := 4) hx hb hts hinX5 hown hK hP 0 rfl rfl 0 (by decide) hk13 (fun _ h9 => h9) rfl dX5_byteAt_22 ?_
        refine lv_iload_n hx hb dX5_byteAt_25 rfl (lv_at hl 1 rfl) ?_
        obtain ⟨g4, hf⟩ := of_ite_some hf
        refine va_iald hx hb hK hP 1 0 (n := 40) (f := (A 0)) rfl rfl g4 dX5_byteAt_26 ?_
        refine lv_goto (tgt := 31) hx hb dX5_byteAt_27 (by decide) ?_
        exact W.iret (v := ((A 0) x1.toNatClampNeg)) hx hb hr (fun t ht hW => ⟨congrArg (fun z => Outcome.returned (some (Value.int z))) (Option.some.inj hf), ht⟩) (fun _ h => nomatch h) dX5_byteAt_31
def fX5_add_33B   (k33 : (Nat → Int32) → (Nat → Nat → Int32) → Int32 → Int64 → Int32 → Option (Int32 × (Nat → Int32) × (Nat → Nat → Int32))) (I : Nat → Int32) (A : Nat → Nat → Int32) (v1 : Int32) (v2 : Int64) (v4 : Int32) : Option (Int32 × (Nat → Int32) × (Nat → Nat → Int32)) :=
  (if v1 ≤ v4 then (some (((I 1) + v1), ((upd I 1 ((I 1) + v1)), A))) else (if gd ((I 1) + v4) 40 then (k33 I (va_up A 0 (upd (A 0) ((I 1) + v4).toNatClampNeg ((((v2.toUInt64 >>> (((8 : Int32) * v4).toInt64.toUInt64 &&& Int64.toUInt64 63)).toInt64).toInt32) &&& (255 : Int32)))) v1 v2 (v4 + (1 : Int32))) else none))
def fX5_add_33   : Nat → ((Nat → Int32) → (Nat → Nat → Int32) → Int32 → Int64 → Int32 → Option (Int32 × (Nat → Int32) × (Nat → Nat → Int32)))
  | 0 => fun _ _ _ _ _ => none
  | n + 1 => fX5_add_33B   (fX5_add_33   n)
def fX5_add  (I : Nat → Int32) (A : Nat → Nat → Int32) (x1 : Int32) (x2 : Int64) : Option (Int32 × (Nat → Int32) × (Nat → Nat → Int32)) :=
  (if x1 < (1 : Int32) then (some ((-1 : Int32), (I, A))) else (if x1 ≤ (8 : Int32) then (if ((I 1) + x1) ≤ (40 : Int32) then (fX5_add_33   FU I A x1 x2 (0 : Int32)) else (some ((-3 : Int32), (I, A)))) else (some ((-1 : Int32), (I, A)))))
set_option maxRecDepth 100000 in
set_option maxHeartbeats 4000000 in
theorem mX5_add (l : Launch) (dC : Nat → ClassId) (dI : Nat → Nat → Nat) (cI : ClassId) (Q : Nat → Nat)  (I : Nat → Int32) (A : Nat → Nat → Int32) (x1 : Int32) (x2 : Int64) (sz : Nat) (z : Int32 × (Nat → Int32) × (Nat → Nat → Int32)) (hf : fX5_add I A x1 x2 = some z) : Met l yX5_add wsX5_add ({ frames := 0, cells := 0, slots := 0, locals := 0 }) (va_Pc [.ref (Q 100), .int x1, .long x2] (fun U => U.heap.size = sz ∧ va_P (dC, dI) vwCl (wT cI Q I A) U.heap ∧ va_K (dC, dI) vwCl [(cI, .int)] U ∧ va_D (fun _ => True) (wT cI Q I A))) (va_Qi (fun (r : Int32) (u : (Nat → Int32) × (Nat → Nat → Int32)) => (r, u) = z) (atT dC dI cI Q (va_A (wT cI Q I A) sz)) (va_A (wT cI Q I A) sz)) 0 0 (va_A (wT cI Q I A) sz) := by
  refine Met.ofW (cc := cX5_add) (maxL := 5) (ret := (some .int)) (by decide) rfl ?_
  intro p e s m args below meth c s₁ BL hml hv
  obtain ⟨rfl, hsz, hP, hK, hD0⟩ := hv
  have hx := BL.exec
  have hb := BL.bytes
  have hr := BL.returns
  have hts := atoms_spec (ws := wsX5_add) BL.pre
  have hown : s.vm.findClass RX5 = some m.cls := findClass_of_methodNamed BL.named
  have hlocks := BL.notSynchronized
  have hinX5 : ∀ w ∈ u_ws RX5 TX5 4, w ∈ wsX5_add := by decide +kernel
  have hk13 := hts (.fieldLink RX5 13 "LeadSheets$Tape" "bytes" "[I") (by decide +kernel)
  have hk17 := hts (.fieldLink RX5 17 "LeadSheets$Tape" "length" "I") (by decide +kernel)
  subst hsz
  have hD := hD0.self (sz := s.heap.size)
  generalize hAe : va_A (wT cI Q I A) s.heap.size = AA at hD ⊢
  have hA : ∀ q : Nat, s.heap.size ≤ q → AA q := fun q h => by rw [← hAe]; exact Or.inr h
  have hS : va_S AA s.heap s.heap [] := va_S.rf
  have sg33 : ∀ n : Nat, ∀ (I : Nat → Int32) (A : Nat → Nat → Int32) (v1 : Int32) (v2 : Int64) (v4 : Int32) (H : Heap) (locs : List Loc) (ls : Array Slot), fX5_add_33   n I A v1 v2 v4 = some z → va_P (dC, dI) vwCl (wT cI Q I A) H → va_D AA (wT cI Q I A) → va_S AA s.heap H locs → lv_has ls 5 [(0, .ref (Q 100)), (1, .int v1), (2, .long v2), (4, .int v4)] → W p l e (headSpec wsX5_add ({ frames := 0, cells := 0, slots := 0, locals := 0 })).room s m (([.ref (Q 100), .int x1, .long x2] : List Value).toArray) below meth c H locs 0 0 (MQ below (va_Qi (fun (r : Int32) (u : (Nat → Int32) × (Nat → Nat → Int32)) => (r, u) = z) (atT dC dI cI Q AA) AA) (([.ref (Q 100), .int x1, .long x2] : List Value).toArray) s 0 0 AA) (F0 m 33 ls []) := by
    intro n
    induction n with
    | zero => intro I A v1 v2 v4 H locs ls hf hP hD hS hl; exact of_none hf
    | succ n ih33 =>
      intro I A v1 v2 v4 H locs ls hf hP hD hS hl
      change fX5_add_33B   (fX5_add_33   n) I A v1 v2 v4 = _ at hf
      unfold fX5_add_33B at hf
      refine lv_iload hx hb dX5_add_33 (lv_at hl 3 rfl) ?_
      refine lv_iload_n hx hb dX5_add_35 rfl (lv_at hl 1 rfl) ?_
      refine lv_icmp_ge (tgt := 69) hx hb dX5_add_36 (by decide) (fun c4 => ?_) (fun c4 => ?_)
      · have hf := (if_pos c4).symm.trans hf
        refine lv_aload_n hx hb dX5_add_69 rfl (lv_at hl 0 rfl) ?_
        refine lv_dup hx hb dX5_add_70 rfl ?_
        refine va_get (D := (dC, dI)) (ci := 2) (v := .int (I 1)) (C := RX5) (T := TX5) (N := 4) hx hb hts hinX5 hown hK hP 0 rfl rfl 1 (by decide) hk17 (fun _ h9 => h9) rfl dX5_add_71 ?_
        refine lv_iload_n hx hb dX5_add_74 rfl (lv_at hl 1 rfl) ?_
        refine lv_iadd hx hb dX5_add_75 ?_
        refine va_put (D := (dC, dI)) (ci := 2) (v := .int ((I 1) + v1)) (ty := .int) (C := RX5) (T := TX5) (N := 4) hx hb hts hinX5 tyX5 tyX5_ok nmX5 hown hK hP hD hS 0 (fs := (oT Q I)) rfl rfl 1 (by decide) hk17 (fun _ h9 => h9) rfl (by decide +kernel) rfl rfl (Nat.le_of_ble_eq_true rfl) dX5_add_76 (fun H locs hP hD hS => ?_)
        have hP : va_P (dC, dI) vwCl (wT cI Q (upd I 1 ((I 1) + v1)) A) H := Eq.mp (congrArg (fun w => va_P (dC, dI) vwCl w H) (wTI_1 cI Q I A ((I 1) + v1))) hP
        have hD : va_D AA (wT cI Q (upd I 1 ((I 1) + v1)) A) := Eq.mp (congrArg (fun w => va_D AA w) (wTI_1 cI Q I A ((I 1) + v1))) hD
        refine lv_aload_n hx hb dX5_add_79 rfl (lv_at hl 0 rfl) ?_
        refine va_get (D := (dC, dI)) (ci := 2) (v := .int ((I 1) + v1)) (C := RX5) (T := TX5) (N := 4) hx hb hts hinX5 hown hK hP 0 rfl rfl 1 (by decide) hk17 (fun _ h9 => h9) rfl dX5_add_80 ?_
        exact W.iret (v := ((I 1) + v1)) hx hb hr (fun t ht hW => ⟨⟨((I 1) + v1), ((upd I 1 ((I 1) + v1)), A), rfl, Option.some.inj hf, by rw [ht]; exact hP, va_K.moved hW.alike hK, hD⟩, hS.F ht⟩) hS.2.2 dX5_add_83
      · have hf := (if_neg c4).symm.trans hf
        refine lv_aload_n hx hb dX5_add_39 rfl (lv_at hl 0 rfl) ?_
        refine va_get (D := (dC, dI)) (ci := 2) (v := .ref (Q 0)) (C := RX5) (T := TX5) (N := 4) hx hb hts hinX5 hown hK hP 0 rfl rfl 0 (by decide) hk13 (fun _ h9 => h9) rfl dX5_add_40 ?_
        refine lv_aload_n hx hb dX5_add_43 rfl (lv_at hl 0 rfl) ?_
        refine va_get (D := (dC, dI)) (ci := 2) (v := .int (I 1)) (C := RX5) (T := TX5) (N := 4) hx hb hts hinX5 hown hK hP 0 rfl rfl 1 (by decide) hk17 (fun _ h9 => h9) rfl dX5_add_44 ?_
        refine lv_iload hx hb dX5_add_47 (lv_at hl 3 rfl) ?_
        refine lv_iadd hx hb dX5_add_49 ?_
        refine lv_lload_n hx hb dX5_add_50 rfl (lv_at hl 2 rfl) ?_
        refine lv_bipush (v := (8 : Int32)) hx hb dX5_add_51 (by decide) ?_
        refine lv_iload hx hb dX5_add_53 (lv_at hl 3 rfl) ?_
        refine lv_imul hx hb dX5_add_55 ?_
        refine lv_lushr (v := (v2.toUInt64 >>> (((8 : Int32) * v4).toInt64.toUInt64 &&& Int64.toUInt64 63)).toInt64) hx hb dX5_add_56 rfl ?_
        refine lv_l2i (v := (((v2.toUInt64 >>> (((8 : Int32) * v4).toInt64.toUInt64 &&& Int64.toUInt64 63)).toInt64).toInt32)) hx hb dX5_add_57 rfl ?_
        refine lv_sipush (v := (255 : Int32)) hx hb dX5_add_58 (by decide) ?_
        refine lv_iand hx hb dX5_add_61 ?_
        obtain ⟨g5, hf⟩ := of_ite_some hf
        refine va_iast hx hb hK hP hD hS 1 0 (n := 40) (f := (A 0)) rfl rfl g5 dX5_add_62 (fun H locs hP hD hS => ?_)
        have hP : va_P (dC, dI) vwCl (wT cI Q I (va_up A 0 (upd (A 0) ((I 1) + v4).toNatClampNeg ((((v2.toUInt64 >>> (((8 : Int32) * v4).toInt64.toUInt64 &&& Int64.toUInt64 63)).toInt64).toInt32) &&& (255 : Int32))))) H := Eq.mp (congrArg (fun w => va_P (dC, dI) vwCl w H) (wTA_0 cI Q I A (upd (A 0) ((I 1) + v4).toNatClampNeg ((((v2.toUInt64 >>> (((8 : Int32) * v4).toInt64.toUInt64 &&& Int64.toUInt64 63)).toInt64).toInt32) &&& (255 : Int32))))) hP
        have hD : va_D AA (wT cI Q I (va_up A 0 (upd (A 0) ((I 1) + v4).toNatClampNeg ((((v2.toUInt64 >>> (((8 : Int32) * v4).toInt64.toUInt64 &&& Int64.toUInt64 63)).toInt64).toInt32) &&& (255 : Int32))))) := Eq.mp (congrArg (fun w => va_D AA w) (wTA_0 cI Q I A (upd (A 0) ((I 1) + v4).toNatClampNeg ((((v2.toUInt64 >>> (((8 : Int32) * v4).toInt64.toUInt64 &&& Int64.toUInt64 63)).toInt64).toInt32) &&& (255 : Int32))))) hD
        refine lv_iinc (v := (v4 + (1 : Int32))) (lv' := [(4, .int (v4 + (1 : Int32))), (0, .ref (Q 100)), (1, .int v1), (2, .long v2)]) hx hb dX5_add_63 hl (k := 3) rfl rfl (by decide) rfl (fun ls hl => ?_)
        refine lv_goto (tgt := 33) hx hb dX5_add_66 (by decide) ?_
        exact ih33 I (va_up A 0 (upd (A 0) ((I 1) + v4).toNatClampNeg ((((v2.toUInt64 >>> (((8 : Int32) * v4).toInt64.toUInt64 &&& Int64.toUInt64 63)).toInt64).toInt32) &&& (255 : Int32)))) v1 v2 (v4 + (1 : Int32)) H locs ls hf hP hD hS (lv_sub hl [1, 2, 3, 0] rfl)
  have hl := lv_entry ([.ref (Q 100), .int x1, .long x2]) (n := 5) (Nat.le_of_ble_eq_true rfl)
  rw [lg_entry_eq]
  generalize (lg_sl ([.ref (Q 100), .int x1, .long x2]) ++ List.replicate (5 - (lg_sl ([.ref (Q 100), .int x1, .long x2])).length) Slot.unset).toArray = ls at hl ⊢
  have hl : lv_has ls 5 [(0, .ref (Q 100)), (1, .int x1), (2, .long x2)] := hl
  unfold fX5_add at hf
  refine lv_iload_n hx hb dX5_add_0 rfl (lv_at hl 1 rfl) ?_
  refine lv_iconst (v := (1 : Int32)) hx hb dX5_add_1 (by decide) ?_
  refine lv_icmp_lt (tgt := 11) hx hb dX5_add_2 (by decide) (fun c1 => ?_) (fun c1 => ?_)
  · have hf := (if_pos c1).symm.trans hf
    refine lv_iconst (v := (-1 : Int32)) hx hb dX5_add_11 (by decide) ?_
    exact W.iret (v := (-1 : Int32)) hx hb hr (fun t ht hW => ⟨⟨(-1 : Int32), (I, A), rfl, Option.some.inj hf, by rw [ht]; exact hP, va_K.moved hW.alike hK, hD⟩, hS.F ht⟩) hS.2.2 dX5_add_12
  · have hf := (if_neg c1).symm.trans hf
    refine lv_iload_n hx hb dX5_add_5 rfl (lv_at hl 1 rfl) ?_
    refine lv_bipush (v := (8 : Int32)) hx hb dX5_add_6 (by decide) ?_
    refine lv_icmp_le (tgt := 13) hx hb dX5_add_8 (by decide) (fun c2 => ?_) (fun c2 => ?_)
    · have hf := (if_pos c2).symm.trans hf
      refine lv_aload_n hx hb dX5_add_13 rfl (lv_at hl 0 rfl) ?_
      refine va_get (D := (dC, dI)) (ci := 2) (v := .int (I 1)) (C := RX5) (T := TX5) (N := 4) hx hb hts hinX5 hown hK hP 0 rfl rfl 1 (by decide) hk17 (fun _ h9 => h9) rfl dX5_add_14 ?_
      refine lv_iload_n hx hb dX5_add_17 rfl (lv_at hl 1 rfl) ?_
      refine lv_iadd hx hb dX5_add_18 ?_
      refine lv_aload_n hx hb dX5_add_19 rfl (lv_at hl 0 rfl) ?_
      refine va_get (D := (dC, dI)) (ci := 2) (v := .ref (Q 0)) (C := RX5) (T := TX5) (N := 4) hx hb hts hinX5 hown hK hP 0 rfl rfl 0 (by decide) hk13 (fun _ h9 => h9) rfl dX5_add_20 ?_
      refine va_alen (v := (40 : Int32)) hx hb hK hP 1 0 rfl rfl rfl dX5_add_23 ?_
      refine lv_icmp_le (tgt := 30) hx hb dX5_add_24 (by decide) (fun c3 => ?_) (fun c3 => ?_)
      · have hf := (if_pos c3).symm.trans hf
        refine lv_iconst (v := (0 : Int32)) hx hb dX5_add_30 (by decide) ?_
        refine lv_istore (lv' := [(4, .int (0 : Int32)), (0, .ref (Q 100)), (1, .int x1), (2, .long x2)]) hx hb dX5_add_31 hl (by decide) rfl (fun ls hl => ?_)
        exact sg33  FU I A x1 x2 (0 : Int32) s.heap [] ls hf hP hD hS (lv_sub hl [1, 2, 3, 0] rfl)
      · have hf := (if_neg c3).symm.trans hf
        refine lv_bipush (v := (-3 : Int32)) hx hb dX5_add_27 (by decide) ?_
        exact W.iret (v := (-3 : Int32)) hx hb hr (fun t ht hW => ⟨⟨(-3 : Int32), (I, A), rfl, Option.some.inj hf, by rw [ht]; exact hP, va_K.moved hW.alike hK, hD⟩, hS.F ht⟩) hS.2.2 dX5_add_29
    · have hf := (if_neg c2).symm.trans hf
      refine lv_iconst (v := (-1 : Int32)) hx hb dX5_add_11 (by decide) ?_
      exact W.iret (v := (-1 : Int32)) hx hb hr (fun t ht hW => ⟨⟨(-1 : Int32), (I, A), rfl, Option.some.inj hf, by rw [ht]; exact hP, va_K.moved hW.alike hK, hD⟩, hS.F ht⟩) hS.2.2 dX5_add_12
def fX5_clear  (I : Nat → Int32) (A : Nat → Nat → Int32)  : Option ((Nat → Int32) × (Nat → Nat → Int32)) :=
  (some ((upd I 1 (0 : Int32)), A))
set_option maxRecDepth 100000 in
set_option maxHeartbeats 4000000 in
theorem mX5_clear (l : Launch) (dC : Nat → ClassId) (dI : Nat → Nat → Nat) (cI : ClassId) (Q : Nat → Nat)  (I : Nat → Int32) (A : Nat → Nat → Int32)  (sz : Nat) (z : (Nat → Int32) × (Nat → Nat → Int32)) (hf : fX5_clear I A = some z) : Met l yX5_clear wsX5_clear ({ frames := 0, cells := 0, slots := 0, locals := 0 }) (va_Pc [.ref (Q 100)] (fun U => U.heap.size = sz ∧ va_P (dC, dI) vwCl (wT cI Q I A) U.heap ∧ va_K (dC, dI) vwCl [(cI, .int)] U ∧ va_D (fun _ => True) (wT cI Q I A))) (va_Qv (fun (u : (Nat → Int32) × (Nat → Nat → Int32)) => u = z) (atT dC dI cI Q (va_A (wT cI Q I A) sz)) (va_A (wT cI Q I A) sz)) 0 0 (va_A (wT cI Q I A) sz) := by
  refine Met.ofW (cc := cX5_clear) (maxL := 1) (ret := none) (by decide) rfl ?_
  intro p e s m args below meth c s₁ BL hml hv
  obtain ⟨rfl, hsz, hP, hK, hD0⟩ := hv
  have hx := BL.exec
  have hb := BL.bytes
  have hr := BL.returns
  have hts := atoms_spec (ws := wsX5_clear) BL.pre
  have hown : s.vm.findClass RX5 = some m.cls := findClass_of_methodNamed BL.named
  have hlocks := BL.notSynchronized
  have hinX5 : ∀ w ∈ u_ws RX5 TX5 4, w ∈ wsX5_clear := by decide +kernel
  have hk17 := hts (.fieldLink RX5 17 "LeadSheets$Tape" "length" "I") (by decide +kernel)
  subst hsz
  have hD := hD0.self (sz := s.heap.size)
  generalize hAe : va_A (wT cI Q I A) s.heap.size = AA at hD ⊢
  have hA : ∀ q : Nat, s.heap.size ≤ q → AA q := fun q h => by rw [← hAe]; exact Or.inr h
  have hS : va_S AA s.heap s.heap [] := va_S.rf
  have hl := lv_entry ([.ref (Q 100)]) (n := 1) (Nat.le_of_ble_eq_true rfl)
  rw [lg_entry_eq]
  generalize (lg_sl ([.ref (Q 100)]) ++ List.replicate (1 - (lg_sl ([.ref (Q 100)])).length) Slot.unset).toArray = ls at hl ⊢
  have hl : lv_has ls 1 [(0, .ref (Q 100))] := hl
  unfold fX5_clear at hf
  refine lv_aload_n hx hb dX5_clear_0 rfl (lv_at hl 0 rfl) ?_
  refine lv_iconst (v := (0 : Int32)) hx hb dX5_clear_1 (by decide) ?_
  refine va_put (D := (dC, dI)) (ci := 2) (v := .int (0 : Int32)) (ty := .int) (C := RX5) (T := TX5) (N := 4) hx hb hts hinX5 tyX5 tyX5_ok nmX5 hown hK hP hD hS 0 (fs := (oT Q I)) rfl rfl 1 (by decide) hk17 (fun _ h9 => h9) rfl (by decide +kernel) rfl rfl (Nat.le_of_ble_eq_true rfl) dX5_clear_2 (fun H locs hP hD hS => ?_)
  have hP : va_P (dC, dI) vwCl (wT cI Q (upd I 1 (0 : Int32)) A) H := Eq.mp (congrArg (fun w => va_P (dC, dI) vwCl w H) (wTI_1 cI Q I A (0 : Int32))) hP
  have hD : va_D AA (wT cI Q (upd I 1 (0 : Int32)) A) := Eq.mp (congrArg (fun w => va_D AA w) (wTI_1 cI Q I A (0 : Int32))) hD
  exact W.vret hx hb hr (fun t ht hW => ⟨⟨((upd I 1 (0 : Int32)), A), rfl, Option.some.inj hf, by rw [ht]; exact hP, va_K.moved hW.alike hK, hD⟩, hS.F ht⟩) hS.2.2 dX5_clear_5
def fX5_stands_3B (I : Nat → Int32) (A : Nat → Nat → Int32) (si : Nat)  (k3 : Int32 → Int32 → Int32 → Option Int32)  (v2 : Int32) (v3 : Int32) (v4 : Int32) : Option Int32 :=
  (if v3 ≤ v4 then (some (1 : Int32)) else ((fX5_byteAt I A (((I 2) + v4) - v2)).bind fun r2 => (if gd v4 (jN si) then (if r2 = (jC si v4.toNatClampNeg) then (k3 v2 v3 (v4 + (1 : Int32))) else (some (0 : Int32))) else none)))
def fX5_stands_3 (I : Nat → Int32) (A : Nat → Nat → Int32) (si : Nat)  : Nat → (Int32 → Int32 → Int32 → Option Int32)
  | 0 => fun _ _ _ => none
  | n + 1 => fX5_stands_3B I A si  (fX5_stands_3 I A si  n)
def fX5_stands (I : Nat → Int32) (A : Nat → Nat → Int32)  (si : Nat) (x2 : Int32) (x3 : Int32) : Option Int32 :=
  (fX5_stands_3 I A si  FU x2 x3 x2)
set_option maxRecDepth 100000 in
set_option maxHeartbeats 4000000 in
theorem mX5_stands (l : Launch) (en : Nat → Nat) (dC : Nat → ClassId) (dI : Nat → Nat → Nat) (cI : ClassId) (Q : Nat → Nat) (I : Nat → Int32) (A : Nat → Nat → Int32)  (si : Nat) (hsi : si < 10) (x2 : Int32) (x3 : Int32) (r : Int32) (hf : fX5_stands I A si x2 x3 = some r) : Met l yX5_stands wsX5_stands ({ frames := 4, cells := 0, slots := 0, locals := 85 }) (va_Pc [.ref (Q 100), .ref (en (100 + si)), .int x2, .int x3] (fun U => va_P (dC, dI) vwCl (wT cI Q I A) U.heap ∧ va_K (dC, dI) vwCl [(cI, .int)] U ∧ cE en NA U U.heap)) (QcRead r) 0 0 (fun _ => False) := by
  refine Met.ofW (cc := cX5_stands) (maxL := 5) (ret := (some .boolean)) (by decide) rfl ?_
  intro p e s m args below meth c s₁ BL hml hv
  obtain ⟨rfl, hP, hK, hE⟩ := hv
  have hS : va_S NA s.heap s.heap [] := va_S.rf
  have hx := BL.exec
  have hb := BL.bytes
  have hr := BL.returns
  have hts := atoms_spec (ws := wsX5_stands) BL.pre
  have hown : s.vm.findClass RX5 = some m.cls := findClass_of_methodNamed BL.named
  have hlocks := BL.notSynchronized
  have hinX5 : ∀ w ∈ u_ws RX5 TX5 4, w ∈ wsX5_stands := by decide +kernel
  have hk21 := hts (.fieldLink RX5 21 "LeadSheets$Tape" "place" "I") (by decide +kernel)
  have sg3 : ∀ n : Nat, ∀  (v2 : Int32) (v3 : Int32) (v4 : Int32) (ls : Array Slot), fX5_stands_3 I A si  n  v2 v3 v4 = some r → lv_has ls 5 [(0, .ref (Q 100)), (1, .ref (en (100 + si))), (2, .int v2), (3, .int v3), (4, .int v4)] → W p l e (headSpec wsX5_stands ({ frames := 4, cells := 0, slots := 0, locals := 85 })).room s m (([.ref (Q 100), .ref (en (100 + si)), .int x2, .int x3] : List Value).toArray) below meth c s.heap [] 0 0 (MQ below (QcRead r) (([.ref (Q 100), .ref (en (100 + si)), .int x2, .int x3] : List Value).toArray) s 0 0 (fun _ => False)) (F0 m 3 ls []) := by
    intro n
    induction n with
    | zero => intro v2 v3 v4 ls hf hl; exact of_none hf
    | succ n ih3 =>
      intro v2 v3 v4 ls hf hl
      change fX5_stands_3B I A si  (fX5_stands_3 I A si  n) v2 v3 v4 = _ at hf
      unfold fX5_stands_3B at hf
      refine lv_iload hx hb dX5_stands_3 (lv_at hl 4 rfl) ?_
      refine lv_iload_n hx hb dX5_stands_5 rfl (lv_at hl 3 rfl) ?_
      refine lv_icmp_ge (tgt := 39) hx hb dX5_stands_6 (by decide) (fun c1 => ?_) (fun c1 => ?_)
      · have hf := (if_pos c1).symm.trans hf
        refine lv_iconst (v := (1 : Int32)) hx hb dX5_stands_39 (by decide) ?_
        exact W.zret (v := (1 : Int32)) hx hb hr rfl (fun t ht hW => ⟨congrArg (fun z => Outcome.returned (some (Value.int z))) (Option.some.inj hf), ht⟩) (fun _ h => nomatch h) dX5_stands_40
      · have hf := (if_neg c1).symm.trans hf
        refine lv_aload_n hx hb dX5_stands_9 rfl (lv_at hl 0 rfl) ?_
        refine lv_aload_n hx hb dX5_stands_10 rfl (lv_at hl 0 rfl) ?_
        refine va_get (D := (dC, dI)) (ci := 2) (v := .int (I 2)) (C := RX5) (T := TX5) (N := 4) hx hb hts hinX5 hown hK hP 0 rfl rfl 2 (by decide) hk21 (fun _ h9 => h9) rfl dX5_stands_11 ?_
        refine lv_iload hx hb dX5_stands_14 (lv_at hl 4 rfl) ?_
        refine lv_iadd hx hb dX5_stands_16 ?_
        refine lv_iload_n hx hb dX5_stands_17 rfl (lv_at hl 2 rfl) ?_
        refine lv_isub hx hb dX5_stands_18 ?_
        obtain ⟨r2, hc3, hf⟩ := of_bind_some hf
        refine W.callR (r := r2) (W.runV (As := [.int (((I 2) + v4) - v2)]) (rest := []) ⟨hx, hb, hml, hown, hts⟩ (mX5_byteAt l dC dI cI Q I A (((I 2) + v4) - v2) r2 hc3) (cwV 1 hts gX5_stands_X5_byteAt rfl rfl rfl (by decide +kernel) ⟨Nat.le_of_ble_eq_true rfl, Nat.le_of_ble_eq_true rfl⟩) ⟨blindR, va_recv hK hP (ci := 2) (q0 := 0) rfl rfl, fun U hU hW => ⟨rfl, by rw [hU]; exact hP, va_K.moved hW.alike hK⟩⟩ rfl rfl hl.1 rfl (lv_room (Nat.le_of_ble_eq_true rfl)) dX5_stands_19 ⟨Nat.zero_le _, Nat.zero_le _⟩) ?_
        refine W.eq (g2 := F0 m 22 ls [.int r2]) rfl ?_
        refine lv_aload_n hx hb dX5_stands_22 rfl (lv_at hl 1 rfl) ?_
        refine lv_iload hx hb dX5_stands_23 (lv_at hl 4 rfl) ?_
        obtain ⟨g4, hf⟩ := of_ite_some hf
        refine W.callR (r := (jC si v4.toNatClampNeg)) (W.runV (As := [.int v4]) (rest := [.int r2]) ⟨hx, hb, hml, hown, hts⟩ (mJ0_charAt l en si hsi v4 g4) (cwV 1 hts gX5_stands_J0_charAt_5068e rfl rfl rfl (by decide +kernel) ⟨Nat.le_of_ble_eq_true rfl, Nat.le_of_ble_eq_true rfl⟩) ⟨blindS, cE_recv hE hS si hsi, fun U hU hW => ⟨rfl, cE_read hE hS hW hU⟩⟩ rfl rfl hl.1 rfl (lv_room (Nat.le_of_ble_eq_true rfl)) dX5_stands_25 ⟨Nat.zero_le _, Nat.zero_le _⟩) ?_
        refine W.eq (g2 := F0 m 28 ls [.int (jC si v4.toNatClampNeg), .int r2]) rfl ?_
        refine lv_icmp_eq (tgt := 33) hx hb dX5_stands_28 (by decide) (fun c5 => ?_) (fun c5 => ?_)
        · have hf := (if_pos c5).symm.trans hf
          refine lv_iinc (v := (v4 + (1 : Int32))) (lv' := [(4, .int (v4 + (1 : Int32))), (0, .ref (Q 100)), (1, .ref (en (100 + si))), (2, .int v2), (3, .int v3)]) hx hb dX5_stands_33 hl (k := 4) rfl rfl (by decide) rfl (fun ls hl => ?_)
          refine lv_goto (tgt := 3) hx hb dX5_stands_36 (by decide) ?_
          exact ih3 v2 v3 (v4 + (1 : Int32)) ls hf (lv_sub hl [1, 2, 3, 4, 0] rfl)
        · have hf := (if_neg c5).symm.trans hf
          refine lv_iconst (v := (0 : Int32)) hx hb dX5_stands_31 (by decide) ?_
          exact W.zret (v := (0 : Int32)) hx hb hr rfl (fun t ht hW => ⟨congrArg (fun z => Outcome.returned (some (Value.int z))) (Option.some.inj hf), ht⟩) (fun _ h => nomatch h) dX5_stands_32
  have hl := lv_entry ([.ref (Q 100), .ref (en (100 + si)), .int x2, .int x3]) (n := 5) (Nat.le_of_ble_eq_true rfl)
  rw [lg_entry_eq]
  generalize (lg_sl ([.ref (Q 100), .ref (en (100 + si)), .int x2, .int x3]) ++ List.replicate (5 - (lg_sl ([.ref (Q 100), .ref (en (100 + si)), .int x2, .int x3])).length) Slot.unset).toArray = ls at hl ⊢
  have hl : lv_has ls 5 [(0, .ref (Q 100)), (1, .ref (en (100 + si))), (2, .int x2), (3, .int x3)] := hl
  unfold fX5_stands at hf
  refine lv_iload_n hx hb dX5_stands_0 rfl (lv_at hl 2 rfl) ?_
  refine lv_istore (lv' := [(4, .int x2), (0, .ref (Q 100)), (1, .ref (en (100 + si))), (2, .int x2), (3, .int x3)]) hx hb dX5_stands_1 hl (by decide) rfl (fun ls hl => ?_)
  exact sg3  FU x2 x3 x2 ls hf (lv_sub hl [1, 2, 3, 4, 0] rfl)
def fX5_readLongest_75  (si : Nat) (k13 : (Nat → Int32) → (Nat → Nat → Int32) → Int32 → Int32 → Int32 → Int32 → Int32 → Option (Int32 × (Nat → Int32) × (Nat → Nat → Int32))) (I : Nat → Int32) (A : Nat → Nat → Int32) (v2 : Int32) (v3 : Int32) (v4 : Int32) (v6 : Int32) : Option (Int32 × (Nat → Int32) × (Nat → Nat → Int32)) :=
  (k13 I A v2 v3 (v4 + (1 : Int32)) (v6 + (1 : Int32)) (v6 + (1 : Int32)))
def fX5_readLongest_45  (si : Nat) (k13 : (Nat → Int32) → (Nat → Nat → Int32) → Int32 → Int32 → Int32 → Int32 → Int32 → Option (Int32 × (Nat → Int32) × (Nat → Nat → Int32))) (I : Nat → Int32) (A : Nat → Nat → Int32) (v2 : Int32) (v3 : Int32) (v4 : Int32) (v5 : Int32) (v6 : Int32) : Option (Int32 × (Nat → Int32) × (Nat → Nat → Int32)) :=
  (if (v6 - v5) ≤ v3 then (fX5_readLongest_75 si k13 I A v2 v3 v4 v6) else ((fX5_stands I A si v5 v6).bind fun r6 => (if r6 = 0 then (fX5_readLongest_75 si k13 I A v2 v3 v4 v6) else (fX5_readLongest_75 si k13 I A v4 (v6 - v5) v4 v6))))
def fX5_readLongest_13B  (si : Nat)  (k13 : (Nat → Int32) → (Nat → Nat → Int32) → Int32 → Int32 → Int32 → Int32 → Int32 → Option (Int32 × (Nat → Int32) × (Nat → Nat → Int32))) (I : Nat → Int32) (A : Nat → Nat → Int32) (v2 : Int32) (v3 : Int32) (v4 : Int32) (v5 : Int32) (v6 : Int32) : Option (Int32 × (Nat → Int32) × (Nat → Nat → Int32)) :=
  (if (Int32.ofNat (jN si)) < v6 then (some (v2, ((upd I 2 ((I 2) + v3)), A))) else (if (Int32.ofNat (jN si)) ≤ v6 then (fX5_readLongest_45 si k13 I A v2 v3 v4 v5 v6) else (if gd v6 (jN si) then (if (jC si v6.toNatClampNeg) = (32 : Int32) then (fX5_readLongest_45 si k13 I A v2 v3 v4 v5 v6) else (k13 I A v2 v3 v4 v5 (v6 + (1 : Int32)))) else none)))
def fX5_readLongest_13  (si : Nat)  : Nat → ((Nat → Int32) → (Nat → Nat → Int32) → Int32 → Int32 → Int32 → Int32 → Int32 → Option (Int32 × (Nat → Int32) × (Nat → Nat → Int32)))
  | 0 => fun _ _ _ _ _ _ _ => none
  | n + 1 => fX5_readLongest_13B si  (fX5_readLongest_13 si  n)
def fX5_readLongest  (I : Nat → Int32) (A : Nat → Nat → Int32) (si : Nat) : Option (Int32 × (Nat → Int32) × (Nat → Nat → Int32)) :=
  (fX5_readLongest_13 si  FU I A (-1 : Int32) (0 : Int32) (0 : Int32) (0 : Int32) (0 : Int32))
set_option maxRecDepth 100000 in
set_option maxHeartbeats 4000000 in
theorem mX5_readLongest (l : Launch) (en : Nat → Nat) (dC : Nat → ClassId) (dI : Nat → Nat → Nat) (cI : ClassId) (Q : Nat → Nat)  (I : Nat → Int32) (A : Nat → Nat → Int32) (si : Nat) (hsi : si < 10) (sz : Nat) (z : Int32 × (Nat → Int32) × (Nat → Nat → Int32)) (hf : fX5_readLongest I A si = some z) : Met l yX5_readLongest wsX5_readLongest ({ frames := 5, cells := 0, slots := 0, locals := 109 }) (va_Pc [.ref (Q 100), .ref (en (100 + si))] (fun U => U.heap.size = sz ∧ va_P (dC, dI) vwCl (wT cI Q I A) U.heap ∧ va_K (dC, dI) vwCl [(cI, .int)] U ∧ va_D (fun _ => True) (wT cI Q I A) ∧ cE en (va_A (wT cI Q I A) sz) U U.heap)) (va_Qi (fun (r : Int32) (u : (Nat → Int32) × (Nat → Nat → Int32)) => (r, u) = z) (atT dC dI cI Q (va_A (wT cI Q I A) sz)) (va_A (wT cI Q I A) sz)) 0 0 (va_A (wT cI Q I A) sz) := by
  refine Met.ofW (cc := cX5_readLongest) (maxL := 7) (ret := (some .int)) (by decide) rfl ?_
  intro p e s m args below meth c s₁ BL hml hv
  obtain ⟨rfl, hsz, hP, hK, hD0, hE⟩ := hv
  have hx := BL.exec
  have hb := BL.bytes
  have hr := BL.returns
  have hts := atoms_spec (ws := wsX5_readLongest) BL.pre
  have hown : s.vm.findClass RX5 = some m.cls := findClass_of_methodNamed BL.named
  have hlocks := BL.notSynchronized
  have hinX5 : ∀ w ∈ u_ws RX5 TX5 4, w ∈ wsX5_readLongest := by decide +kernel
  have hk21 := hts (.fieldLink RX5 21 "LeadSheets$Tape" "place" "I") (by decide +kernel)
  subst hsz
  have hD := hD0.self (sz := s.heap.size)
  generalize hAe : va_A (wT cI Q I A) s.heap.size = AA at hD hE ⊢
  have hA : ∀ q : Nat, s.heap.size ≤ q → AA q := fun q h => by rw [← hAe]; exact Or.inr h
  have hS : va_S AA s.heap s.heap [] := va_S.rf
  have sg75 : ∀ (k13 : (Nat → Int32) → (Nat → Nat → Int32) → Int32 → Int32 → Int32 → Int32 → Int32 → Option (Int32 × (Nat → Int32) × (Nat → Nat → Int32))), (∀ (I : Nat → Int32) (A : Nat → Nat → Int32) (v2 : Int32) (v3 : Int32) (v4 : Int32) (v5 : Int32) (v6 : Int32) (H : Heap) (locs : List Loc) (ls : Array Slot), k13 I A v2 v3 v4 v5 v6 = some z → va_P (dC, dI) vwCl (wT cI Q I A) H → va_D AA (wT cI Q I A) → va_S AA s.heap H locs → lv_has ls 7 [(0, .ref (Q 100)), (1, .ref (en (100 + si))), (2, .int v2), (3, .int v3), (4, .int v4), (5, .int v5), (6, .int v6)] → W p l e (headSpec wsX5_readLongest ({ frames := 5, cells := 0, slots := 0, locals := 109 })).room s m (([.ref (Q 100), .ref (en (100 + si))] : List Value).toArray) below meth c H locs 0 0 (MQ below (va_Qi (fun (r : Int32) (u : (Nat → Int32) × (Nat → Nat → Int32)) => (r, u) = z) (atT dC dI cI Q AA) AA) (([.ref (Q 100), .ref (en (100 + si))] : List Value).toArray) s 0 0 AA) (F0 m 13 ls [])) → ∀ (I : Nat → Int32) (A : Nat → Nat → Int32) (v2 : Int32) (v3 : Int32) (v4 : Int32) (v6 : Int32) (H : Heap) (locs : List Loc) (ls : Array Slot), fX5_readLongest_75 si k13 I A v2 v3 v4 v6 = some z → va_P (dC, dI) vwCl (wT cI Q I A) H → va_D AA (wT cI Q I A) → va_S AA s.heap H locs → lv_has ls 7 [(0, .ref (Q 100)), (1, .ref (en (100 + si))), (2, .int v2), (3, .int v3), (4, .int v4), (6, .int v6)] → W p l e (headSpec wsX5_readLongest ({ frames := 5, cells := 0, slots := 0, locals := 109 })).room s m (([.ref (Q 100), .ref (en (100 + si))] : List Value).toArray) below meth c H locs 0 0 (MQ below (va_Qi (fun (r : Int32) (u : (Nat → Int32) × (Nat → Nat → Int32)) => (r, u) = z) (atT dC dI cI Q AA) AA) (([.ref (Q 100), .ref (en (100 + si))] : List Value).toArray) s 0 0 AA) (F0 m 75 ls []) := by
    intro k13 ih13
    intro I A v2 v3 v4 v6 H locs ls hf hP hD hS hl
    unfold fX5_readLongest_75 at hf
    refine lv_iinc (v := (v4 + (1 : Int32))) (lv' := [(4, .int (v4 + (1 : Int32))), (0, .ref (Q 100)), (1, .ref (en (100 + si))), (2, .int v2), (3, .int v3), (6, .int v6)]) hx hb dX5_readLongest_75 hl (k := 4) rfl rfl (by decide) rfl (fun ls hl => ?_)
    refine lv_iload hx hb dX5_readLongest_78 (lv_at hl 5 rfl) ?_
    refine lv_iconst (v := (1 : Int32)) hx hb dX5_readLongest_80 (by decide) ?_
    refine lv_iadd hx hb dX5_readLongest_81 ?_
    refine lv_istore (lv' := [(5, .int (v6 + (1 : Int32))), (4, .int (v4 + (1 : Int32))), (0, .ref (Q 100)), (1, .ref (en (100 + si))), (2, .int v2), (3, .int v3), (6, .int v6)]) hx hb dX5_readLongest_82 hl (by decide) rfl (fun ls hl => ?_)
    refine lv_iinc (v := (v6 + (1 : Int32))) (lv' := [(6, .int (v6 + (1 : Int32))), (5, .int (v6 + (1 : Int32))), (4, .int (v4 + (1 : Int32))), (0, .ref (Q 100)), (1, .ref (en (100 + si))), (2, .int v2), (3, .int v3)]) hx hb dX5_readLongest_84 hl (k := 6) rfl rfl (by decide) rfl (fun ls hl => ?_)
    refine lv_goto (tgt := 13) hx hb dX5_readLongest_87 (by decide) ?_
    exact ih13 I A v2 v3 (v4 + (1 : Int32)) (v6 + (1 : Int32)) (v6 + (1 : Int32)) H locs ls hf hP hD hS (lv_sub hl [3, 4, 5, 6, 2, 1, 0] rfl)
  have sg45 : ∀ (k13 : (Nat → Int32) → (Nat → Nat → Int32) → Int32 → Int32 → Int32 → Int32 → Int32 → Option (Int32 × (Nat → Int32) × (Nat → Nat → Int32))), (∀ (I : Nat → Int32) (A : Nat → Nat → Int32) (v2 : Int32) (v3 : Int32) (v4 : Int32) (v5 : Int32) (v6 : Int32) (H : Heap) (locs : List Loc) (ls : Array Slot), k13 I A v2 v3 v4 v5 v6 = some z → va_P (dC, dI) vwCl (wT cI Q I A) H → va_D AA (wT cI Q I A) → va_S AA s.heap H locs → lv_has ls 7 [(0, .ref (Q 100)), (1, .ref (en (100 + si))), (2, .int v2), (3, .int v3), (4, .int v4), (5, .int v5), (6, .int v6)] → W p l e (headSpec wsX5_readLongest ({ frames := 5, cells := 0, slots := 0, locals := 109 })).room s m (([.ref (Q 100), .ref (en (100 + si))] : List Value).toArray) below meth c H locs 0 0 (MQ below (va_Qi (fun (r : Int32) (u : (Nat → Int32) × (Nat → Nat → Int32)) => (r, u) = z) (atT dC dI cI Q AA) AA) (([.ref (Q 100), .ref (en (100 + si))] : List Value).toArray) s 0 0 AA) (F0 m 13 ls [])) → ∀ (I : Nat → Int32) (A : Nat → Nat → Int32) (v2 : Int32) (v3 : Int32) (v4 : Int32) (v5 : Int32) (v6 : Int32) (H : Heap) (locs : List Loc) (ls : Array Slot), fX5_readLongest_45 si k13 I A v2 v3 v4 v5 v6 = some z → va_P (dC, dI) vwCl (wT cI Q I A) H → va_D AA (wT cI Q I A) → va_S AA s.heap H locs → lv_has ls 7 [(0, .ref (Q 100)), (1, .ref (en (100 + si))), (2, .int v2), (3, .int v3), (4, .int v4), (5, .int v5), (6, .int v6)] → W p l e (headSpec wsX5_readLongest ({ frames := 5, cells := 0, slots := 0, locals := 109 })).room s m (([.ref (Q 100), .ref (en (100 + si))] : List Value).toArray) below meth c H locs 0 0 (MQ below (va_Qi (fun (r : Int32) (u : (Nat → Int32) × (Nat → Nat → Int32)) => (r, u) = z) (atT dC dI cI Q AA) AA) (([.ref (Q 100), .ref (en (100 + si))] : List Value).toArray) s 0 0 AA) (F0 m 45 ls []) := by
    intro k13 ih13
    intro I A v2 v3 v4 v5 v6 H locs ls hf hP hD hS hl
    unfold fX5_readLongest_45 at hf
    refine lv_iload hx hb dX5_readLongest_45 (lv_at hl 6 rfl) ?_
    refine lv_iload hx hb dX5_readLongest_47 (lv_at hl 5 rfl) ?_
    refine lv_isub hx hb dX5_readLongest_49 ?_
    refine lv_iload_n hx hb dX5_readLongest_50 rfl (lv_at hl 3 rfl) ?_
    refine lv_icmp_le (tgt := 75) hx hb dX5_readLongest_51 (by decide) (fun c5 => ?_) (fun c5 => ?_)
    · have hf := (if_pos c5).symm.trans hf
      exact sg75 _ ih13 I A v2 v3 v4 v6 H locs ls hf hP hD hS (lv_sub hl [0, 1, 2, 3, 4, 6] rfl)
    · have hf := (if_neg c5).symm.trans hf
      refine lv_aload_n hx hb dX5_readLongest_54 rfl (lv_at hl 0 rfl) ?_
      refine lv_aload_n hx hb dX5_readLongest_55 rfl (lv_at hl 1 rfl) ?_
      refine lv_iload hx hb dX5_readLongest_56 (lv_at hl 5 rfl) ?_
      refine lv_iload hx hb dX5_readLongest_58 (lv_at hl 6 rfl) ?_
      obtain ⟨r6, hc7, hf⟩ := of_bind_some hf
      refine W.callR (r := r6) (W.runV (As := [.ref (en (100 + si)), .int v5, .int v6]) (rest := []) ⟨hx, hb, hml, hown, hts⟩ (mX5_stands l en dC dI cI Q I A si hsi v5 v6 r6 hc7) (cwV 3 hts gX5_readLongest_X5_stands rfl rfl rfl (by decide +kernel) ⟨Nat.le_of_ble_eq_true rfl, Nat.le_of_ble_eq_true rfl⟩) ⟨blindRE, va_recv hK hP (ci := 2) (q0 := 0) rfl rfl, fun U hU hW => ⟨rfl, by rw [hU]; exact hP, va_K.moved hW.alike hK, cE_read hE hS hW hU⟩⟩ rfl rfl hl.1 rfl (lv_room (Nat.le_of_ble_eq_true rfl)) dX5_readLongest_60 ⟨Nat.zero_le _, Nat.zero_le _⟩) ?_
      refine W.eq (g2 := F0 m 63 ls [.int r6]) rfl ?_
      refine lv_if_eq (tgt := 75) hx hb dX5_readLongest_63 (by decide) (fun c8 => ?_) (fun c8 => ?_)
      · have hf := (if_pos c8).symm.trans hf
        exact sg75 _ ih13 I A v2 v3 v4 v6 H locs ls hf hP hD hS (lv_sub hl [0, 1, 2, 3, 4, 6] rfl)
      · have hf := (if_neg c8).symm.trans hf
        refine lv_iload hx hb dX5_readLongest_66 (lv_at hl 4 rfl) ?_
        refine lv_istore_n (lv' := [(2, .int v4), (0, .ref (Q 100)), (1, .ref (en (100 + si))), (3, .int v3), (4, .int v4), (5, .int v5), (6, .int v6)]) hx hb dX5_readLongest_68 rfl hl (by decide) rfl (fun ls hl => ?_)
        refine lv_iload hx hb dX5_readLongest_69 (lv_at hl 6 rfl) ?_
        refine lv_iload hx hb dX5_readLongest_71 (lv_at hl 5 rfl) ?_
        refine lv_isub hx hb dX5_readLongest_73 ?_
        refine lv_istore_n (lv' := [(3, .int (v6 - v5)), (2, .int v4), (0, .ref (Q 100)), (1, .ref (en (100 + si))), (4, .int v4), (5, .int v5), (6, .int v6)]) hx hb dX5_readLongest_74 rfl hl (by decide) rfl (fun ls hl => ?_)
        exact sg75 _ ih13 I A v4 (v6 - v5) v4 v6 H locs ls hf hP hD hS (lv_sub hl [2, 3, 1, 0, 4, 6] rfl)
  have sg13 : ∀ n : Nat, ∀ (I : Nat → Int32) (A : Nat → Nat → Int32) (v2 : Int32) (v3 : Int32) (v4 : Int32) (v5 : Int32) (v6 : Int32) (H : Heap) (locs : List Loc) (ls : Array Slot), fX5_readLongest_13 si  n I A v2 v3 v4 v5 v6 = some z → va_P (dC, dI) vwCl (wT cI Q I A) H → va_D AA (wT cI Q I A) → va_S AA s.heap H locs → lv_has ls 7 [(0, .ref (Q 100)), (1, .ref (en (100 + si))), (2, .int v2), (3, .int v3), (4, .int v4), (5, .int v5), (6, .int v6)] → W p l e (headSpec wsX5_readLongest ({ frames := 5, cells := 0, slots := 0, locals := 109 })).room s m (([.ref (Q 100), .ref (en (100 + si))] : List Value).toArray) below meth c H locs 0 0 (MQ below (va_Qi (fun (r : Int32) (u : (Nat → Int32) × (Nat → Nat → Int32)) => (r, u) = z) (atT dC dI cI Q AA) AA) (([.ref (Q 100), .ref (en (100 + si))] : List Value).toArray) s 0 0 AA) (F0 m 13 ls []) := by
    intro n
    induction n with
    | zero => intro I A v2 v3 v4 v5 v6 H locs ls hf hP hD hS hl; exact of_none hf
    | succ n ih13 =>
      intro I A v2 v3 v4 v5 v6 H locs ls hf hP hD hS hl
      change fX5_readLongest_13B si  (fX5_readLongest_13 si  n) I A v2 v3 v4 v5 v6 = _ at hf
      unfold fX5_readLongest_13B at hf
      refine lv_iload hx hb dX5_readLongest_13 (lv_at hl 6 rfl) ?_
      refine lv_aload_n hx hb dX5_readLongest_15 rfl (lv_at hl 1 rfl) ?_
      refine W.callR (r := (Int32.ofNat (jN si))) (W.runV (As := []) (rest := [.int v6]) ⟨hx, hb, hml, hown, hts⟩ (mJ0_length l en si hsi) (cwV 0 hts gX5_readLongest_J0_length_8abf5 rfl rfl rfl (by decide +kernel) ⟨Nat.le_of_ble_eq_true rfl, Nat.le_of_ble_eq_true rfl⟩) ⟨blindS, cE_recv hE hS si hsi, fun U hU hW => ⟨rfl, cE_read hE hS hW hU⟩⟩ rfl rfl hl.1 rfl (lv_room (Nat.le_of_ble_eq_true rfl)) dX5_readLongest_16 ⟨Nat.zero_le _, Nat.zero_le _⟩) ?_
      refine W.eq (g2 := F0 m 19 ls [.int (Int32.ofNat (jN si)), .int v6]) rfl ?_
      refine lv_icmp_gt (tgt := 90) hx hb dX5_readLongest_19 (by decide) (fun c1 => ?_) (fun c1 => ?_)
      · have hf := (if_pos c1).symm.trans hf
        refine lv_aload_n hx hb dX5_readLongest_90 rfl (lv_at hl 0 rfl) ?_
        refine lv_dup hx hb dX5_readLongest_91 rfl ?_
        refine va_get (D := (dC, dI)) (ci := 2) (v := .int (I 2)) (C := RX5) (T := TX5) (N := 4) hx hb hts hinX5 hown hK hP 0 rfl rfl 2 (by decide) hk21 (fun _ h9 => h9) rfl dX5_readLongest_92 ?_
        refine lv_iload_n hx hb dX5_readLongest_95 rfl (lv_at hl 3 rfl) ?_
        refine lv_iadd hx hb dX5_readLongest_96 ?_
        refine va_put (D := (dC, dI)) (ci := 2) (v := .int ((I 2) + v3)) (ty := .int) (C := RX5) (T := TX5) (N := 4) hx hb hts hinX5 tyX5 tyX5_ok nmX5 hown hK hP hD hS 0 (fs := (oT Q I)) rfl rfl 2 (by decide) hk21 (fun _ h9 => h9) rfl (by decide +kernel) rfl rfl (Nat.le_of_ble_eq_true rfl) dX5_readLongest_97 (fun H locs hP hD hS => ?_)
        have hP : va_P (dC, dI) vwCl (wT cI Q (upd I 2 ((I 2) + v3)) A) H := Eq.mp (congrArg (fun w => va_P (dC, dI) vwCl w H) (wTI_2 cI Q I A ((I 2) + v3))) hP
        have hD : va_D AA (wT cI Q (upd I 2 ((I 2) + v3)) A) := Eq.mp (congrArg (fun w => va_D AA w) (wTI_2 cI Q I A ((I 2) + v3))) hD
        refine lv_iload_n hx hb dX5_readLongest_100 rfl (lv_at hl 2 rfl) ?_
        exact W.iret (v := v2) hx hb hr (fun t ht hW => ⟨⟨v2, ((upd I 2 ((I 2) + v3)), A), rfl, Option.some.inj hf, by rw [ht]; exact hP, va_K.moved hW.alike hK, hD⟩, hS.F ht⟩) hS.2.2 dX5_readLongest_101
      · have hf := (if_neg c1).symm.trans hf
        refine lv_iload hx hb dX5_readLongest_22 (lv_at hl 6 rfl) ?_
        refine lv_aload_n hx hb dX5_readLongest_24 rfl (lv_at hl 1 rfl) ?_
        refine W.callR (r := (Int32.ofNat (jN si))) (W.runV (As := []) (rest := [.int v6]) ⟨hx, hb, hml, hown, hts⟩ (mJ0_length l en si hsi) (cwV 0 hts gX5_readLongest_J0_length_8abf5 rfl rfl rfl (by decide +kernel) ⟨Nat.le_of_ble_eq_true rfl, Nat.le_of_ble_eq_true rfl⟩) ⟨blindS, cE_recv hE hS si hsi, fun U hU hW => ⟨rfl, cE_read hE hS hW hU⟩⟩ rfl rfl hl.1 rfl (lv_room (Nat.le_of_ble_eq_true rfl)) dX5_readLongest_25 ⟨Nat.zero_le _, Nat.zero_le _⟩) ?_
        refine W.eq (g2 := F0 m 28 ls [.int (Int32.ofNat (jN si)), .int v6]) rfl ?_
        refine lv_icmp_ge (tgt := 45) hx hb dX5_readLongest_28 (by decide) (fun c2 => ?_) (fun c2 => ?_)
        · have hf := (if_pos c2).symm.trans hf
          exact sg45 _ ih13 I A v2 v3 v4 v5 v6 H locs ls hf hP hD hS (lv_sub hl [0, 1, 2, 3, 4, 5, 6] rfl)
        · have hf := (if_neg c2).symm.trans hf
          refine lv_aload_n hx hb dX5_readLongest_31 rfl (lv_at hl 1 rfl) ?_
          refine lv_iload hx hb dX5_readLongest_32 (lv_at hl 6 rfl) ?_
          obtain ⟨g3, hf⟩ := of_ite_some hf
          refine W.callR (r := (jC si v6.toNatClampNeg)) (W.runV (As := [.int v6]) (rest := []) ⟨hx, hb, hml, hown, hts⟩ (mJ0_charAt l en si hsi v6 g3) (cwV 1 hts gX5_readLongest_J0_charAt_5068e rfl rfl rfl (by decide +kernel) ⟨Nat.le_of_ble_eq_true rfl, Nat.le_of_ble_eq_true rfl⟩) ⟨blindS, cE_recv hE hS si hsi, fun U hU hW => ⟨rfl, cE_read hE hS hW hU⟩⟩ rfl rfl hl.1 rfl (lv_room (Nat.le_of_ble_eq_true rfl)) dX5_readLongest_34 ⟨Nat.zero_le _, Nat.zero_le _⟩) ?_
          refine W.eq (g2 := F0 m 37 ls [.int (jC si v6.toNatClampNeg)]) rfl ?_
          refine lv_bipush (v := (32 : Int32)) hx hb dX5_readLongest_37 (by decide) ?_
          refine lv_icmp_eq (tgt := 45) hx hb dX5_readLongest_39 (by decide) (fun c4 => ?_) (fun c4 => ?_)
          · have hf := (if_pos c4).symm.trans hf
            exact sg45 _ ih13 I A v2 v3 v4 v5 v6 H locs ls hf hP hD hS (lv_sub hl [0, 1, 2, 3, 4, 5, 6] rfl)
          · have hf := (if_neg c4).symm.trans hf
            refine lv_goto (tgt := 84) hx hb dX5_readLongest_42 (by decide) ?_
            refine lv_iinc (v := (v6 + (1 : Int32))) (lv' := [(6, .int (v6 + (1 : Int32))), (0, .ref (Q 100)), (1, .ref (en (100 + si))), (2, .int v2), (3, .int v3), (4, .int v4), (5, .int v5)]) hx hb dX5_readLongest_84 hl (k := 6) rfl rfl (by decide) rfl (fun ls hl => ?_)
            refine lv_goto (tgt := 13) hx hb dX5_readLongest_87 (by decide) ?_
            exact ih13 I A v2 v3 v4 v5 (v6 + (1 : Int32)) H locs ls hf hP hD hS (lv_sub hl [1, 2, 3, 4, 5, 6, 0] rfl)
  have hl := lv_entry ([.ref (Q 100), .ref (en (100 + si))]) (n := 7) (Nat.le_of_ble_eq_true rfl)
  rw [lg_entry_eq]
  generalize (lg_sl ([.ref (Q 100), .ref (en (100 + si))]) ++ List.replicate (7 - (lg_sl ([.ref (Q 100), .ref (en (100 + si))])).length) Slot.unset).toArray = ls at hl ⊢
  have hl : lv_has ls 7 [(0, .ref (Q 100)), (1, .ref (en (100 + si)))] := hl
  unfold fX5_readLongest at hf
  refine lv_iconst (v := (-1 : Int32)) hx hb dX5_readLongest_0 (by decide) ?_
  refine lv_istore_n (lv' := [(2, .int (-1 : Int32)), (0, .ref (Q 100)), (1, .ref (en (100 + si)))]) hx hb dX5_readLongest_1 rfl hl (by decide) rfl (fun ls hl => ?_)
  refine lv_iconst (v := (0 : Int32)) hx hb dX5_readLongest_2 (by decide) ?_
  refine lv_istore_n (lv' := [(3, .int (0 : Int32)), (2, .int (-1 : Int32)), (0, .ref (Q 100)), (1, .ref (en (100 + si)))]) hx hb dX5_readLongest_3 rfl hl (by decide) rfl (fun ls hl => ?_)
  refine lv_iconst (v := (0 : Int32)) hx hb dX5_readLongest_4 (by decide) ?_
  refine lv_istore (lv' := [(4, .int (0 : Int32)), (3, .int (0 : Int32)), (2, .int (-1 : Int32)), (0, .ref (Q 100)), (1, .ref (en (100 + si)))]) hx hb dX5_readLongest_5 hl (by decide) rfl (fun ls hl => ?_)
  refine lv_iconst (v := (0 : Int32)) hx hb dX5_readLongest_7 (by decide) ?_
  refine lv_istore (lv' := [(5, .int (0 : Int32)), (4, .int (0 : Int32)), (3, .int (0 : Int32)), (2, .int (-1 : Int32)), (0, .ref (Q 100)), (1, .ref (en (100 + si)))]) hx hb dX5_readLongest_8 hl (by decide) rfl (fun ls hl => ?_)
  refine lv_iconst (v := (0 : Int32)) hx hb dX5_readLongest_10 (by decide) ?_
  refine lv_istore (lv' := [(6, .int (0 : Int32)), (5, .int (0 : Int32)), (4, .int (0 : Int32)), (3, .int (0 : Int32)), (2, .int (-1 : Int32)), (0, .ref (Q 100)), (1, .ref (en (100 + si)))]) hx hb dX5_readLongest_11 hl (by decide) rfl (fun ls hl => ?_)
  exact sg13  FU I A (-1 : Int32) (0 : Int32) (0 : Int32) (0 : Int32) (0 : Int32) s.heap [] ls hf hP hD hS (lv_sub hl [5, 6, 4, 3, 2, 1, 0] rfl)
def fX5_isWrong_26 (I : Nat → Int32) (A : Nat → Nat → Int32)   (v1 : Int32) (t0 : Int32) : Option Int32 :=
  (if t0 = 0 then ((fX8_entry (sN 4) (sF 4) v1).bind fun r6 => (if ((I 3) &&& r6) = 0 then (some (0 : Int32)) else (some (1 : Int32)))) else (some (1 : Int32)))
def fX5_isWrong (I : Nat → Int32) (A : Nat → Nat → Int32)  (x1 : Int32) : Option Int32 :=
  ((fX8_entry (sN 6) (sF 6) x1).bind fun r1 => (if r1 = 0 then (fX5_isWrong_26 I A  x1 (0 : Int32)) else (if ((I 3) &&& r1) = 0 then (fX5_isWrong_26 I A  x1 (1 : Int32)) else (fX5_isWrong_26 I A  x1 (0 : Int32)))))
set_option maxRecDepth 100000 in
set_option maxHeartbeats 4000000 in
theorem mX5_isWrong (l : Launch) (en : Nat → Nat) (dC : Nat → ClassId) (dI : Nat → Nat → Nat) (cI : ClassId) (Q : Nat → Nat) (I : Nat → Int32) (A : Nat → Nat → Int32)  (x1 : Int32) (r : Int32) (hf : fX5_isWrong I A x1 = some r) : Met l yX5_isWrong wsX5_isWrong ({ frames := 1, cells := 0, slots := 0, locals := 21 }) (va_Pc [.ref (Q 100), .int x1] (fun U => va_P (dC, dI) vwCl (wT cI Q I A) U.heap ∧ va_K (dC, dI) vwCl [(cI, .int)] U ∧ cE en NA U U.heap)) (QcRead r) 0 0 (fun _ => False) := by
  refine Met.ofW (cc := cX5_isWrong) (maxL := 4) (ret := (some .boolean)) (by decide) rfl ?_
  intro p e s m args below meth c s₁ BL hml hv
  obtain ⟨rfl, hP, hK, hE⟩ := hv
  have hS : va_S NA s.heap s.heap [] := va_S.rf
  have hx := BL.exec
  have hb := BL.bytes
  have hr := BL.returns
  have hts := atoms_spec (ws := wsX5_isWrong) BL.pre
  have hown : s.vm.findClass RX5 = some m.cls := findClass_of_methodNamed BL.named
  have hlocks := BL.notSynchronized
  have hinX5 : ∀ w ∈ u_ws RX5 TX5 4, w ∈ wsX5_isWrong := by decide +kernel
  have hk31 := hts (.fieldLink RX5 31 "LeadSheets$Tape" "steps" "I") (by decide +kernel)
  have sg26 : ∀  (v1 : Int32) (t0 : Int32) (ls : Array Slot), fX5_isWrong_26 I A   v1 t0 = some r → lv_has ls 4 [(0, .ref (Q 100)), (1, .int v1)] → W p l e (headSpec wsX5_isWrong ({ frames := 1, cells := 0, slots := 0, locals := 21 })).room s m (([.ref (Q 100), .int x1] : List Value).toArray) below meth c s.heap [] 0 0 (MQ below (QcRead r) (([.ref (Q 100), .int x1] : List Value).toArray) s 0 0 (fun _ => False)) (F0 m 26 ls [.int t0]) := by
    intro v1 t0 ls hf hl
    unfold fX5_isWrong_26 at hf
    refine lv_istore_n (lv' := [(3, .int t0), (0, .ref (Q 100)), (1, .int v1)]) hx hb dX5_isWrong_26 rfl hl (by decide) rfl (fun ls hl => ?_)
    refine lv_iload_n hx hb dX5_isWrong_27 rfl (lv_at hl 0 rfl) ?_
    refine lv_if_ne (tgt := 46) hx hb dX5_isWrong_28 (by decide) (fun c5 => ?_) (fun c5 => ?_)
    · have hf := (if_neg c5).symm.trans hf
      refine lv_iconst (v := (1 : Int32)) hx hb dX5_isWrong_46 (by decide) ?_
      refine lv_goto (tgt := 51) hx hb dX5_isWrong_47 (by decide) ?_
      exact W.zret (v := (1 : Int32)) hx hb hr rfl (fun t ht hW => ⟨congrArg (fun z => Outcome.returned (some (Value.int z))) (Option.some.inj hf), ht⟩) (fun _ h => nomatch h) dX5_isWrong_51
    · have hf := (if_pos c5).symm.trans hf
      refine lv_aload_n hx hb dX5_isWrong_31 rfl (lv_at hl 1 rfl) ?_
      refine va_get (D := (dC, dI)) (ci := 2) (v := .int (I 3)) (C := RX5) (T := TX5) (N := 4) hx hb hts hinX5 hown hK hP 0 rfl rfl 3 (by decide) hk31 (fun _ h9 => h9) rfl dX5_isWrong_32 ?_
      refine va_gets hx hb (show va_Z "LeadSheets$Tape" "BROUGHT" "[I" (.ref (en 4)) _ s s.heap from (hE.1 4 (by decide)).1) hS hown (hts (.fieldLink RX5 89 "LeadSheets$Tape" "BROUGHT" "[I") (by decide +kernel)) (fun _ h9 => h9) dX5_isWrong_35 ?_
      refine lv_iload_n hx hb dX5_isWrong_38 rfl (lv_at hl 2 rfl) ?_
      obtain ⟨r6, hc7, hf⟩ := of_bind_some hf
      refine W.callR (r := r6) (va_Run.run (va_runSN (host := RX8) (As := [.ref (en 4), .int v1]) (rest := [.int (I 3)]) ⟨hx, hb, hml, hown, hts⟩ (mX8_entry_s l en 4 (by decide) v1 r6 hc7) ⟨va_cnB 2 hts gX5_isWrong_X8_entry_n69 rfl rfl rfl (hE.2.2.2.2.1 (RX5, 69, yX8_entry, RX8) (by decide +kernel)) (hts (.initialized RX8) (by decide +kernel)) (by decide +kernel) ⟨Nat.le_of_ble_eq_true rfl, Nat.le_of_ble_eq_true rfl⟩, hts (.static yX8_entry) (by decide +kernel), trivial⟩ ⟨blindS, fun U hU hW => ⟨rfl, cE_read hE hS hW hU⟩⟩ rfl rfl hl.1 rfl (lv_room (Nat.le_of_ble_eq_true rfl)) dX5_isWrong_39 ⟨Nat.zero_le _, Nat.zero_le _⟩)) ?_
      refine W.eq (g2 := F0 m 42 ls [.int r6, .int (I 3)]) rfl ?_
      refine lv_iand hx hb dX5_isWrong_42 ?_
      refine lv_if_eq (tgt := 50) hx hb dX5_isWrong_43 (by decide) (fun c8 => ?_) (fun c8 => ?_)
      · have hf := (if_pos c8).symm.trans hf
        refine lv_iconst (v := (0 : Int32)) hx hb dX5_isWrong_50 (by decide) ?_
        exact W.zret (v := (0 : Int32)) hx hb hr rfl (fun t ht hW => ⟨congrArg (fun z => Outcome.returned (some (Value.int z))) (Option.some.inj hf), ht⟩) (fun _ h => nomatch h) dX5_isWrong_51
      · have hf := (if_neg c8).symm.trans hf
        refine lv_iconst (v := (1 : Int32)) hx hb dX5_isWrong_46 (by decide) ?_
        refine lv_goto (tgt := 51) hx hb dX5_isWrong_47 (by decide) ?_
        exact W.zret (v := (1 : Int32)) hx hb hr rfl (fun t ht hW => ⟨congrArg (fun z => Outcome.returned (some (Value.int z))) (Option.some.inj hf), ht⟩) (fun _ h => nomatch h) dX5_isWrong_51
  have hl := lv_entry ([.ref (Q 100), .int x1]) (n := 4) (Nat.le_of_ble_eq_true rfl)
  rw [lg_entry_eq]
  generalize (lg_sl ([.ref (Q 100), .int x1]) ++ List.replicate (4 - (lg_sl ([.ref (Q 100), .int x1])).length) Slot.unset).toArray = ls at hl ⊢
  have hl : lv_has ls 4 [(0, .ref (Q 100)), (1, .int x1)] := hl
  unfold fX5_isWrong at hf
  refine va_gets hx hb (show va_Z "LeadSheets$Tape" "NEEDED" "[I" (.ref (en 6)) _ s s.heap from (hE.1 6 (by decide)).1) hS hown (hts (.fieldLink RX5 92 "LeadSheets$Tape" "NEEDED" "[I") (by decide +kernel)) (fun _ h9 => h9) dX5_isWrong_0 ?_
  refine lv_iload_n hx hb dX5_isWrong_3 rfl (lv_at hl 1 rfl) ?_
  obtain ⟨r1, hc2, hf⟩ := of_bind_some hf
  refine W.callR (r := r1) (va_Run.run (va_runSN (host := RX8) (As := [.ref (en 6), .int x1]) (rest := []) ⟨hx, hb, hml, hown, hts⟩ (mX8_entry_s l en 6 (by decide) x1 r1 hc2) ⟨va_cnB 2 hts gX5_isWrong_X8_entry_n69 rfl rfl rfl (hE.2.2.2.2.1 (RX5, 69, yX8_entry, RX8) (by decide +kernel)) (hts (.initialized RX8) (by decide +kernel)) (by decide +kernel) ⟨Nat.le_of_ble_eq_true rfl, Nat.le_of_ble_eq_true rfl⟩, hts (.static yX8_entry) (by decide +kernel), trivial⟩ ⟨blindS, fun U hU hW => ⟨rfl, cE_read hE hS hW hU⟩⟩ rfl rfl hl.1 rfl (lv_room (Nat.le_of_ble_eq_true rfl)) dX5_isWrong_4 ⟨Nat.zero_le _, Nat.zero_le _⟩)) ?_
  refine W.eq (g2 := F0 m 7 ls [.int r1]) rfl ?_
  refine lv_istore_n (lv' := [(2, .int r1), (0, .ref (Q 100)), (1, .int x1)]) hx hb dX5_isWrong_7 rfl hl (by decide) rfl (fun ls hl => ?_)
  refine lv_iload_n hx hb dX5_isWrong_8 rfl (lv_at hl 0 rfl) ?_
  refine lv_if_eq (tgt := 25) hx hb dX5_isWrong_9 (by decide) (fun c3 => ?_) (fun c3 => ?_)
  · have hf := (if_pos c3).symm.trans hf
    refine lv_iconst (v := (0 : Int32)) hx hb dX5_isWrong_25 (by decide) ?_
    exact sg26  x1 (0 : Int32) ls hf (lv_sub hl [1, 2] rfl)
  · have hf := (if_neg c3).symm.trans hf
    refine lv_aload_n hx hb dX5_isWrong_12 rfl (lv_at hl 1 rfl) ?_
    refine va_get (D := (dC, dI)) (ci := 2) (v := .int (I 3)) (C := RX5) (T := TX5) (N := 4) hx hb hts hinX5 hown hK hP 0 rfl rfl 3 (by decide) hk31 (fun _ h9 => h9) rfl dX5_isWrong_13 ?_
    refine lv_iload_n hx hb dX5_isWrong_16 rfl (lv_at hl 0 rfl) ?_
    refine lv_iand hx hb dX5_isWrong_17 ?_
    refine lv_if_ne (tgt := 25) hx hb dX5_isWrong_18 (by decide) (fun c4 => ?_) (fun c4 => ?_)
    · have hf := (if_neg c4).symm.trans hf
      refine lv_iconst (v := (0 : Int32)) hx hb dX5_isWrong_25 (by decide) ?_
      exact sg26  x1 (0 : Int32) ls hf (lv_sub hl [1, 2] rfl)
    · have hf := (if_pos c4).symm.trans hf
      refine lv_iconst (v := (1 : Int32)) hx hb dX5_isWrong_21 (by decide) ?_
      refine lv_goto (tgt := 26) hx hb dX5_isWrong_22 (by decide) ?_
      exact sg26  x1 (1 : Int32) ls hf (lv_sub hl [1, 2] rfl)
def fX5_readChanges_2B   (k2 : (Nat → Int32) → (Nat → Nat → Int32) → Int32 → Option (Int32 × (Nat → Int32) × (Nat → Nat → Int32))) (I : Nat → Int32) (A : Nat → Nat → Int32) (v1 : Int32) : Option (Int32 × (Nat → Int32) × (Nat → Nat → Int32)) :=
  (if (40 : Int32) ≤ v1 then (some ((1 : Int32), (I, A))) else ((fX5_readLongest I A 7).bind fun (r5, I3, A4) => (if r5 = (-1 : Int32) then (some ((1 : Int32), (I3, A4))) else ((fX5_isWrong I3 A4 r5).bind fun r8 => (if r8 = 0 then ((fX8_entry (sN 8) (sF 8) r5).bind fun r11 => ((fX8_entry (sN 4) (sF 4) r5).bind fun r13 => (k2 (upd I3 3 (((I3 3) &&& (r11 ^^^ (-1 : Int32))) ||| r13)) A4 (v1 + (1 : Int32))))) else (some ((0 : Int32), ((upd I3 2 (I 2)), A4))))))))
def fX5_readChanges_2   : Nat → ((Nat → Int32) → (Nat → Nat → Int32) → Int32 → Option (Int32 × (Nat → Int32) × (Nat → Nat → Int32)))
  | 0 => fun _ _ _ => none
  | n + 1 => fX5_readChanges_2B   (fX5_readChanges_2   n)
def fX5_readChanges  (I : Nat → Int32) (A : Nat → Nat → Int32)  : Option (Int32 × (Nat → Int32) × (Nat → Nat → Int32)) :=
  (fX5_readChanges_2   FU I A (0 : Int32))
set_option maxRecDepth 100000 in
set_option maxHeartbeats 4000000 in
theorem mX5_readChanges (l : Launch) (en : Nat → Nat) (dC : Nat → ClassId) (dI : Nat → Nat → Nat) (cI : ClassId) (Q : Nat → Nat)  (I : Nat → Int32) (A : Nat → Nat → Int32)  (sz : Nat) (z : Int32 × (Nat → Int32) × (Nat → Nat → Int32)) (hf : fX5_readChanges I A = some z) : Met l yX5_readChanges wsX5_readChanges ({ frames := 6, cells := 0, slots := 0, locals := 135 }) (va_Pc [.ref (Q 100)] (fun U => U.heap.size = sz ∧ va_P (dC, dI) vwCl (wT cI Q I A) U.heap ∧ va_K (dC, dI) vwCl [(cI, .int)] U ∧ va_D (fun _ => True) (wT cI Q I A) ∧ cE en (va_A (wT cI Q I A) sz) U U.heap)) (va_Qi (fun (r : Int32) (u : (Nat → Int32) × (Nat → Nat → Int32)) => (r, u) = z) (atT dC dI cI Q (va_A (wT cI Q I A) sz)) (va_A (wT cI Q I A) sz)) 0 0 (va_A (wT cI Q I A) sz) := by
  refine Met.ofW (cc := cX5_readChanges) (maxL := 4) (ret := (some .boolean)) (by decide) rfl ?_
  intro p e s m args below meth c s₁ BL hml hv
  obtain ⟨rfl, hsz, hP, hK, hD0, hE⟩ := hv
  have hx := BL.exec
  have hb := BL.bytes
  have hr := BL.returns
  have hts := atoms_spec (ws := wsX5_readChanges) BL.pre
  have hown : s.vm.findClass RX5 = some m.cls := findClass_of_methodNamed BL.named
  have hlocks := BL.notSynchronized
  have hinX5 : ∀ w ∈ u_ws RX5 TX5 4, w ∈ wsX5_readChanges := by decide +kernel
  have hk13 := hts (.fieldLink RX5 13 "LeadSheets$Tape" "bytes" "[I") (by decide +kernel)
  have hk21 := hts (.fieldLink RX5 21 "LeadSheets$Tape" "place" "I") (by decide +kernel)
  have hk31 := hts (.fieldLink RX5 31 "LeadSheets$Tape" "steps" "I") (by decide +kernel)
  subst hsz
  have hD := hD0.self (sz := s.heap.size)
  generalize hAe : va_A (wT cI Q I A) s.heap.size = AA at hD hE ⊢
  have hA : ∀ q : Nat, s.heap.size ≤ q → AA q := fun q h => by rw [← hAe]; exact Or.inr h
  have hS : va_S AA s.heap s.heap [] := va_S.rf
  have sg2 : ∀ n : Nat, ∀ (I : Nat → Int32) (A : Nat → Nat → Int32) (v1 : Int32) (H : Heap) (locs : List Loc) (ls : Array Slot), fX5_readChanges_2   n I A v1 = some z → va_P (dC, dI) vwCl (wT cI Q I A) H → va_D AA (wT cI Q I A) → va_S AA s.heap H locs → lv_has ls 4 [(0, .ref (Q 100)), (1, .int v1)] → W p l e (headSpec wsX5_readChanges ({ frames := 6, cells := 0, slots := 0, locals := 135 })).room s m (([.ref (Q 100)] : List Value).toArray) below meth c H locs 0 0 (MQ below (va_Qi (fun (r : Int32) (u : (Nat → Int32) × (Nat → Nat → Int32)) => (r, u) = z) (atT dC dI cI Q AA) AA) (([.ref (Q 100)] : List Value).toArray) s 0 0 AA) (F0 m 2 ls []) := by
    intro n
    induction n with
    | zero => intro I A v1 H locs ls hf hP hD hS hl; exact of_none hf
    | succ n ih2 =>
      intro I A v1 H locs ls hf hP hD hS hl
      change fX5_readChanges_2B   (fX5_readChanges_2   n) I A v1 = _ at hf
      unfold fX5_readChanges_2B at hf
      refine lv_iload_n hx hb dX5_readChanges_2 rfl (lv_at hl 1 rfl) ?_
      refine lv_aload_n hx hb dX5_readChanges_3 rfl (lv_at hl 0 rfl) ?_
      refine va_get (D := (dC, dI)) (ci := 2) (v := .ref (Q 0)) (C := RX5) (T := TX5) (N := 4) hx hb hts hinX5 hown hK hP 0 rfl rfl 0 (by decide) hk13 (fun _ h9 => h9) rfl dX5_readChanges_4 ?_
      refine va_alen (v := (40 : Int32)) hx hb hK hP 1 0 rfl rfl rfl dX5_readChanges_7 ?_
      refine lv_icmp_ge (tgt := 77) hx hb dX5_readChanges_8 (by decide) (fun c1 => ?_) (fun c1 => ?_)
      · have hf := (if_pos c1).symm.trans hf
        refine lv_iconst (v := (1 : Int32)) hx hb dX5_readChanges_77 (by decide) ?_
        exact W.zret (v := (1 : Int32)) hx hb hr rfl (fun t ht hW => ⟨⟨(1 : Int32), (I, A), rfl, Option.some.inj hf, by rw [ht]; exact hP, va_K.moved hW.alike hK, hD⟩, hS.F ht⟩) hS.2.2 dX5_readChanges_78
      · have hf := (if_neg c1).symm.trans hf
        refine lv_aload_n hx hb dX5_readChanges_11 rfl (lv_at hl 0 rfl) ?_
        refine va_get (D := (dC, dI)) (ci := 2) (v := .int (I 2)) (C := RX5) (T := TX5) (N := 4) hx hb hts hinX5 hown hK hP 0 rfl rfl 2 (by decide) hk21 (fun _ h9 => h9) rfl dX5_readChanges_12 ?_
        refine lv_istore_n (lv' := [(2, .int (I 2)), (0, .ref (Q 100)), (1, .int v1)]) hx hb dX5_readChanges_15 rfl hl (by decide) rfl (fun ls hl => ?_)
        refine lv_aload_n hx hb dX5_readChanges_16 rfl (lv_at hl 1 rfl) ?_
        refine va_ldcS hx hb hown (hE.2.1 7 (by decide)).2 dX5_readChanges_17 ?_
        obtain ⟨⟨r5, I3, A4⟩, hc2, hf⟩ := of_bind_some hf
        have hF6 := va_freeAll hD hS hA
        refine va_calli (va_runV (As := [.ref (en (100 + 7))]) (rest := []) ⟨hx, hb, hml, hown, hts⟩ (mX5_readLongest l en dC dI cI Q I A 7 (by decide) H.size _ hc2) (cwV 1 hts gX5_readChanges_X5_readLongest rfl rfl rfl (by decide +kernel) ⟨Nat.le_of_ble_eq_true rfl, Nat.le_of_ble_eq_true rfl⟩) ⟨blindWE, va_recv hK hP (ci := 2) (q0 := 0) rfl rfl, fun U hU hW => ⟨rfl, by rw [hU], by rw [hU]; exact hP, va_K.moved hW.alike hK, hD.weaken (fun _ _ _ _ => trivial), cE_sub hE hS hW hU hF6⟩⟩ rfl rfl hl.1 rfl (lv_room (Nat.le_of_ble_eq_true rfl)) dX5_readChanges_19 ⟨Nat.zero_le _, Nat.zero_le _⟩) hS (fun q _ h => hF6 q h) hF6 (fun r0 u t H locs ht hvm hw hB hz1 hk1 hS => ?_)
        cases hw
        obtain ⟨hP, hK9, hD⟩ := hB
        rw [ht] at hP
        have hP : va_P (dC, dI) vwCl (wT cI Q I3 A4) H := hP
        have hD : va_D AA (wT cI Q I3 A4) := hD.weaken (fun _ _ _ h => hF6 _ h)
        refine lv_istore_n (lv' := [(3, .int r5), (2, .int (I 2)), (0, .ref (Q 100)), (1, .int v1)]) hx hb dX5_readChanges_22 rfl hl (by decide) rfl (fun ls hl => ?_)
        refine lv_iload_n hx hb dX5_readChanges_23 rfl (lv_at hl 0 rfl) ?_
        refine lv_iconst (v := (-1 : Int32)) hx hb dX5_readChanges_24 (by decide) ?_
        refine lv_icmp_ne (tgt := 30) hx hb dX5_readChanges_25 (by decide) (fun c7 => ?_) (fun c7 => ?_)
        · have hf := (if_neg c7).symm.trans hf
          refine lv_aload_n hx hb dX5_readChanges_30 rfl (lv_at hl 2 rfl) ?_
          refine lv_iload_n hx hb dX5_readChanges_31 rfl (lv_at hl 0 rfl) ?_
          obtain ⟨r8, hc9, hf⟩ := of_bind_some hf
          refine W.callR (r := r8) (W.runV (As := [.int r5]) (rest := []) ⟨hx, hb, hml, hown, hts⟩ (mX5_isWrong l en dC dI cI Q I3 A4 r5 r8 hc9) (cwV 1 hts gX5_readChanges_X5_isWrong rfl rfl rfl (by decide +kernel) ⟨Nat.le_of_ble_eq_true rfl, Nat.le_of_ble_eq_true rfl⟩) ⟨blindRE, va_recv hK hP (ci := 2) (q0 := 0) rfl rfl, fun U hU hW => ⟨rfl, by rw [hU]; exact hP, va_K.moved hW.alike hK, cE_read hE hS hW hU⟩⟩ rfl rfl hl.1 rfl (lv_room (Nat.le_of_ble_eq_true rfl)) dX5_readChanges_32 ⟨Nat.zero_le _, Nat.zero_le _⟩) ?_
          refine W.eq (g2 := F0 m 35 ls [.int r8]) rfl ?_
          refine lv_if_eq (tgt := 45) hx hb dX5_readChanges_35 (by decide) (fun c10 => ?_) (fun c10 => ?_)
          · have hf := (if_pos c10).symm.trans hf
            refine lv_aload_n hx hb dX5_readChanges_45 rfl (lv_at hl 2 rfl) ?_
            refine lv_aload_n hx hb dX5_readChanges_46 rfl (lv_at hl 2 rfl) ?_
            refine va_get (D := (dC, dI)) (ci := 2) (v := .int (I3 3)) (C := RX5) (T := TX5) (N := 4) hx hb hts hinX5 hown hK hP 0 rfl rfl 3 (by decide) hk31 (fun _ h9 => h9) rfl dX5_readChanges_47 ?_
            refine va_gets hx hb (show va_Z "LeadSheets$Tape" "TAKEN" "[I" (.ref (en 8)) _ s s.heap from (hE.1 8 (by decide)).1) hS hown (hts (.fieldLink RX5 86 "LeadSheets$Tape" "TAKEN" "[I") (by decide +kernel)) (fun _ h9 => h9) dX5_readChanges_50 ?_
            refine lv_iload_n hx hb dX5_readChanges_53 rfl (lv_at hl 0 rfl) ?_
            obtain ⟨r11, hc12, hf⟩ := of_bind_some hf
            refine W.callR (r := r11) (va_Run.run (va_runSN (host := RX8) (As := [.ref (en 8), .int r5]) (rest := [.int (I3 3), .ref (Q 100)]) ⟨hx, hb, hml, hown, hts⟩ (mX8_entry_s l en 8 (by decide) r5 r11 hc12) ⟨va_cnB 2 hts gX5_readChanges_X8_entry_n69 rfl rfl rfl (hE.2.2.2.2.1 (RX5, 69, yX8_entry, RX8) (by decide +kernel)) (hts (.initialized RX8) (by decide +kernel)) (by decide +kernel) ⟨Nat.le_of_ble_eq_true rfl, Nat.le_of_ble_eq_true rfl⟩, hts (.static yX8_entry) (by decide +kernel), trivial⟩ ⟨blindS, fun U hU hW => ⟨rfl, cE_read hE hS hW hU⟩⟩ rfl rfl hl.1 rfl (lv_room (Nat.le_of_ble_eq_true rfl)) dX5_readChanges_54 ⟨Nat.zero_le _, Nat.zero_le _⟩)) ?_
            refine W.eq (g2 := F0 m 57 ls [.int r11, .int (I3 3), .ref (Q 100)]) rfl ?_
            refine lv_iconst (v := (-1 : Int32)) hx hb dX5_readChanges_57 (by decide) ?_
            refine lv_ixor hx hb dX5_readChanges_58 ?_
            refine lv_iand hx hb dX5_readChanges_59 ?_
            refine va_gets hx hb (show va_Z "LeadSheets$Tape" "BROUGHT" "[I" (.ref (en 4)) _ s s.heap from (hE.1 4 (by decide)).1) hS hown (hts (.fieldLink RX5 89 "LeadSheets$Tape" "BROUGHT" "[I") (by decide +kernel)) (fun _ h9 => h9) dX5_readChanges_60 ?_
            refine lv_iload_n hx hb dX5_readChanges_63 rfl (lv_at hl 0 rfl) ?_
            obtain ⟨r13, hc14, hf⟩ := of_bind_some hf
            refine W.callR (r := r13) (va_Run.run (va_runSN (host := RX8) (As := [.ref (en 4), .int r5]) (rest := [.int ((I3 3) &&& (r11 ^^^ (-1 : Int32))), .ref (Q 100)]) ⟨hx, hb, hml, hown, hts⟩ (mX8_entry_s l en 4 (by decide) r5 r13 hc14) ⟨va_cnB 2 hts gX5_readChanges_X8_entry_n69 rfl rfl rfl (hE.2.2.2.2.1 (RX5, 69, yX8_entry, RX8) (by decide +kernel)) (hts (.initialized RX8) (by decide +kernel)) (by decide +kernel) ⟨Nat.le_of_ble_eq_true rfl, Nat.le_of_ble_eq_true rfl⟩, hts (.static yX8_entry) (by decide +kernel), trivial⟩ ⟨blindS, fun U hU hW => ⟨rfl, cE_read hE hS hW hU⟩⟩ rfl rfl hl.1 rfl (lv_room (Nat.le_of_ble_eq_true rfl)) dX5_readChanges_64 ⟨Nat.zero_le _, Nat.zero_le _⟩)) ?_
            refine W.eq (g2 := F0 m 67 ls [.int r13, .int ((I3 3) &&& (r11 ^^^ (-1 : Int32))), .ref (Q 100)]) rfl ?_
            refine lv_ior hx hb dX5_readChanges_67 ?_
            refine va_put (D := (dC, dI)) (ci := 2) (v := .int (((I3 3) &&& (r11 ^^^ (-1 : Int32))) ||| r13)) (ty := .int) (C := RX5) (T := TX5) (N := 4) hx hb hts hinX5 tyX5 tyX5_ok nmX5 hown hK hP hD hS 0 (fs := (oT Q I3)) rfl rfl 3 (by decide) hk31 (fun _ h9 => h9) rfl (by decide +kernel) rfl rfl (Nat.le_of_ble_eq_true rfl) dX5_readChanges_68 (fun H locs hP hD hS => ?_)
            have hP : va_P (dC, dI) vwCl (wT cI Q (upd I3 3 (((I3 3) &&& (r11 ^^^ (-1 : Int32))) ||| r13)) A4) H := Eq.mp (congrArg (fun w => va_P (dC, dI) vwCl w H) (wTI_3 cI Q I3 A4 (((I3 3) &&& (r11 ^^^ (-1 : Int32))) ||| r13))) hP
            have hD : va_D AA (wT cI Q (upd I3 3 (((I3 3) &&& (r11 ^^^ (-1 : Int32))) ||| r13)) A4) := Eq.mp (congrArg (fun w => va_D AA w) (wTI_3 cI Q I3 A4 (((I3 3) &&& (r11 ^^^ (-1 : Int32))) ||| r13))) hD
            refine lv_iinc (v := (v1 + (1 : Int32))) (lv' := [(1, .int (v1 + (1 : Int32))), (3, .int r5), (2, .int (I 2)), (0, .ref (Q 100))]) hx hb dX5_readChanges_71 hl (k := 3) rfl rfl (by decide) rfl (fun ls hl => ?_)
            refine lv_goto (tgt := 2) hx hb dX5_readChanges_74 (by decide) ?_
            exact ih2 (upd I3 3 (((I3 3) &&& (r11 ^^^ (-1 : Int32))) ||| r13)) A4 (v1 + (1 : Int32)) H locs ls hf hP hD hS (lv_sub hl [3, 0] rfl)
          · have hf := (if_neg c10).symm.trans hf
            refine lv_aload_n hx hb dX5_readChanges_38 rfl (lv_at hl 2 rfl) ?_
            refine lv_iload_n hx hb dX5_readChanges_39 rfl (lv_at hl 1 rfl) ?_
            refine va_put (D := (dC, dI)) (ci := 2) (v := .int (I 2)) (ty := .int) (C := RX5) (T := TX5) (N := 4) hx hb hts hinX5 tyX5 tyX5_ok nmX5 hown hK hP hD hS 0 (fs := (oT Q I3)) rfl rfl 2 (by decide) hk21 (fun _ h9 => h9) rfl (by decide +kernel) rfl rfl (Nat.le_of_ble_eq_true rfl) dX5_readChanges_40 (fun H locs hP hD hS => ?_)
            have hP : va_P (dC, dI) vwCl (wT cI Q (upd I3 2 (I 2)) A4) H := Eq.mp (congrArg (fun w => va_P (dC, dI) vwCl w H) (wTI_2 cI Q I3 A4 (I 2))) hP
            have hD : va_D AA (wT cI Q (upd I3 2 (I 2)) A4) := Eq.mp (congrArg (fun w => va_D AA w) (wTI_2 cI Q I3 A4 (I 2))) hD
            refine lv_iconst (v := (0 : Int32)) hx hb dX5_readChanges_43 (by decide) ?_
            exact W.zret (v := (0 : Int32)) hx hb hr rfl (fun t ht hW => ⟨⟨(0 : Int32), ((upd I3 2 (I 2)), A4), rfl, Option.some.inj hf, by rw [ht]; exact hP, va_K.moved hW.alike hK, hD⟩, hS.F ht⟩) hS.2.2 dX5_readChanges_44
        · have hf := (if_pos c7).symm.trans hf
          refine lv_iconst (v := (1 : Int32)) hx hb dX5_readChanges_28 (by decide) ?_
          exact W.zret (v := (1 : Int32)) hx hb hr rfl (fun t ht hW => ⟨⟨(1 : Int32), (I3, A4), rfl, Option.some.inj hf, by rw [ht]; exact hP, va_K.moved hW.alike hK, hD⟩, hS.F ht⟩) hS.2.2 dX5_readChanges_29
  have hl := lv_entry ([.ref (Q 100)]) (n := 4) (Nat.le_of_ble_eq_true rfl)
  rw [lg_entry_eq]
  generalize (lg_sl ([.ref (Q 100)]) ++ List.replicate (4 - (lg_sl ([.ref (Q 100)])).length) Slot.unset).toArray = ls at hl ⊢
  have hl : lv_has ls 4 [(0, .ref (Q 100))] := hl
  unfold fX5_readChanges at hf
  refine lv_iconst (v := (0 : Int32)) hx hb dX5_readChanges_0 (by decide) ?_
  refine lv_istore_n (lv' := [(1, .int (0 : Int32)), (0, .ref (Q 100))]) hx hb dX5_readChanges_1 rfl hl (by decide) rfl (fun ls hl => ?_)
  exact sg2  FU I A (0 : Int32) s.heap [] ls hf hP hD hS (lv_sub hl [1, 0] rfl)
def fX5_readKind  (I : Nat → Int32) (A : Nat → Nat → Int32)  : Option (Int32 × (Nat → Int32) × (Nat → Nat → Int32)) :=
  ((fX5_readLongest I A 6).bind fun (r4, I2, A3) => (if r4 = 0 then ((fX5_byteAt I2 A3 (I2 2)).bind fun r7 => (if r7 = (97 : Int32) then ((fX5_byteAt I2 A3 ((I2 2) + (1 : Int32))).bind fun r10 => (if r10 = (106 : Int32) then (some ((-1 : Int32), ((upd I2 2 (I 2)), A3))) else (some (r4, (I2, A3))))) else (some (r4, (I2, A3))))) else (some (r4, (I2, A3)))))
set_option maxRecDepth 100000 in
set_option maxHeartbeats 4000000 in
theorem mX5_readKind (l : Launch) (en : Nat → Nat) (dC : Nat → ClassId) (dI : Nat → Nat → Nat) (cI : ClassId) (Q : Nat → Nat)  (I : Nat → Int32) (A : Nat → Nat → Int32)  (sz : Nat) (z : Int32 × (Nat → Int32) × (Nat → Nat → Int32)) (hf : fX5_readKind I A = some z) : Met l yX5_readKind wsX5_readKind ({ frames := 6, cells := 0, slots := 0, locals := 135 }) (va_Pc [.ref (Q 100)] (fun U => U.heap.size = sz ∧ va_P (dC, dI) vwCl (wT cI Q I A) U.heap ∧ va_K (dC, dI) vwCl [(cI, .int)] U ∧ va_D (fun _ => True) (wT cI Q I A) ∧ cE en (va_A (wT cI Q I A) sz) U U.heap)) (va_Qi (fun (r : Int32) (u : (Nat → Int32) × (Nat → Nat → Int32)) => (r, u) = z) (atT dC dI cI Q (va_A (wT cI Q I A) sz)) (va_A (wT cI Q I A) sz)) 0 0 (va_A (wT cI Q I A) sz) := by
  refine Met.ofW (cc := cX5_readKind) (maxL := 3) (ret := (some .int)) (by decide) rfl ?_
  intro p e s m args below meth c s₁ BL hml hv
  obtain ⟨rfl, hsz, hP, hK, hD0, hE⟩ := hv
  have hx := BL.exec
  have hb := BL.bytes
  have hr := BL.returns
  have hts := atoms_spec (ws := wsX5_readKind) BL.pre
  have hown : s.vm.findClass RX5 = some m.cls := findClass_of_methodNamed BL.named
  have hlocks := BL.notSynchronized
  have hinX5 : ∀ w ∈ u_ws RX5 TX5 4, w ∈ wsX5_readKind := by decide +kernel
  have hk21 := hts (.fieldLink RX5 21 "LeadSheets$Tape" "place" "I") (by decide +kernel)
  subst hsz
  have hD := hD0.self (sz := s.heap.size)
  generalize hAe : va_A (wT cI Q I A) s.heap.size = AA at hD hE ⊢
  have hA : ∀ q : Nat, s.heap.size ≤ q → AA q := fun q h => by rw [← hAe]; exact Or.inr h
  have hS : va_S AA s.heap s.heap [] := va_S.rf
  have hl := lv_entry ([.ref (Q 100)]) (n := 3) (Nat.le_of_ble_eq_true rfl)
  rw [lg_entry_eq]
  generalize (lg_sl ([.ref (Q 100)]) ++ List.replicate (3 - (lg_sl ([.ref (Q 100)])).length) Slot.unset).toArray = ls at hl ⊢
  have hl : lv_has ls 3 [(0, .ref (Q 100))] := hl
  unfold fX5_readKind at hf
  refine lv_aload_n hx hb dX5_readKind_0 rfl (lv_at hl 0 rfl) ?_
  refine va_get (D := (dC, dI)) (ci := 2) (v := .int (I 2)) (C := RX5) (T := TX5) (N := 4) hx hb hts hinX5 hown hK hP 0 rfl rfl 2 (by decide) hk21 (fun _ h9 => h9) rfl dX5_readKind_1 ?_
  refine lv_istore_n (lv' := [(1, .int (I 2)), (0, .ref (Q 100))]) hx hb dX5_readKind_4 rfl hl (by decide) rfl (fun ls hl => ?_)
  refine lv_aload_n hx hb dX5_readKind_5 rfl (lv_at hl 1 rfl) ?_
  refine va_ldcS hx hb hown (hE.2.1 6 (by decide)).2 dX5_readKind_6 ?_
  obtain ⟨⟨r4, I2, A3⟩, hc1, hf⟩ := of_bind_some hf
  have hF5 := va_freeAll hD hS hA
  refine va_calli (va_runV (As := [.ref (en (100 + 6))]) (rest := []) ⟨hx, hb, hml, hown, hts⟩ (mX5_readLongest l en dC dI cI Q I A 6 (by decide) s.heap.size _ hc1) (cwV 1 hts gX5_readKind_X5_readLongest rfl rfl rfl (by decide +kernel) ⟨Nat.le_of_ble_eq_true rfl, Nat.le_of_ble_eq_true rfl⟩) ⟨blindWE, va_recv hK hP (ci := 2) (q0 := 0) rfl rfl, fun U hU hW => ⟨rfl, by rw [hU], by rw [hU]; exact hP, va_K.moved hW.alike hK, hD.weaken (fun _ _ _ _ => trivial), cE_sub hE hS hW hU hF5⟩⟩ rfl rfl hl.1 rfl (lv_room (Nat.le_of_ble_eq_true rfl)) dX5_readKind_8 ⟨Nat.zero_le _, Nat.zero_le _⟩) hS (fun q _ h => hF5 q h) hF5 (fun r0 u t H locs ht hvm hw hB hz1 hk1 hS => ?_)
  cases hw
  obtain ⟨hP, hK9, hD⟩ := hB
  rw [ht] at hP
  have hP : va_P (dC, dI) vwCl (wT cI Q I2 A3) H := hP
  have hD : va_D AA (wT cI Q I2 A3) := hD.weaken (fun _ _ _ h => hF5 _ h)
  refine lv_istore_n (lv' := [(2, .int r4), (1, .int (I 2)), (0, .ref (Q 100))]) hx hb dX5_readKind_11 rfl hl (by decide) rfl (fun ls hl => ?_)
  refine lv_iload_n hx hb dX5_readKind_12 rfl (lv_at hl 0 rfl) ?_
  refine lv_if_ne (tgt := 51) hx hb dX5_readKind_13 (by decide) (fun c6 => ?_) (fun c6 => ?_)
  · have hf := (if_neg c6).symm.trans hf
    refine lv_iload_n hx hb dX5_readKind_51 rfl (lv_at hl 0 rfl) ?_
    exact W.iret (v := r4) hx hb hr (fun t ht hW => ⟨⟨r4, (I2, A3), rfl, Option.some.inj hf, by rw [ht]; exact hP, va_K.moved hW.alike hK, hD⟩, hS.F ht⟩) hS.2.2 dX5_readKind_52
  · have hf := (if_pos c6).symm.trans hf
    refine lv_aload_n hx hb dX5_readKind_16 rfl (lv_at hl 2 rfl) ?_
    refine lv_aload_n hx hb dX5_readKind_17 rfl (lv_at hl 2 rfl) ?_
    refine va_get (D := (dC, dI)) (ci := 2) (v := .int (I2 2)) (C := RX5) (T := TX5) (N := 4) hx hb hts hinX5 hown hK hP 0 rfl rfl 2 (by decide) hk21 (fun _ h9 => h9) rfl dX5_readKind_18 ?_
    obtain ⟨r7, hc8, hf⟩ := of_bind_some hf
    refine W.callR (r := r7) (W.runV (As := [.int (I2 2)]) (rest := []) ⟨hx, hb, hml, hown, hts⟩ (mX5_byteAt l dC dI cI Q I2 A3 (I2 2) r7 hc8) (cwV 1 hts gX5_readKind_X5_byteAt rfl rfl rfl (by decide +kernel) ⟨Nat.le_of_ble_eq_true rfl, Nat.le_of_ble_eq_true rfl⟩) ⟨blindR, va_recv hK hP (ci := 2) (q0 := 0) rfl rfl, fun U hU hW => ⟨rfl, by rw [hU]; exact hP, va_K.moved hW.alike hK⟩⟩ rfl rfl hl.1 rfl (lv_room (Nat.le_of_ble_eq_true rfl)) dX5_readKind_21 ⟨Nat.zero_le _, Nat.zero_le _⟩) ?_
    refine W.eq (g2 := F0 m 24 ls [.int r7]) rfl ?_
    refine lv_bipush (v := (97 : Int32)) hx hb dX5_readKind_24 (by decide) ?_
    refine lv_icmp_ne (tgt := 51) hx hb dX5_readKind_26 (by decide) (fun c9 => ?_) (fun c9 => ?_)
    · have hf := (if_neg c9).symm.trans hf
      refine lv_iload_n hx hb dX5_readKind_51 rfl (lv_at hl 0 rfl) ?_
      exact W.iret (v := r4) hx hb hr (fun t ht hW => ⟨⟨r4, (I2, A3), rfl, Option.some.inj hf, by rw [ht]; exact hP, va_K.moved hW.alike hK, hD⟩, hS.F ht⟩) hS.2.2 dX5_readKind_52
    · have hf := (if_pos c9).symm.trans hf
      refine lv_aload_n hx hb dX5_readKind_29 rfl (lv_at hl 2 rfl) ?_
      refine lv_aload_n hx hb dX5_readKind_30 rfl (lv_at hl 2 rfl) ?_
      refine va_get (D := (dC, dI)) (ci := 2) (v := .int (I2 2)) (C := RX5) (T := TX5) (N := 4) hx hb hts hinX5 hown hK hP 0 rfl rfl 2 (by decide) hk21 (fun _ h9 => h9) rfl dX5_readKind_31 ?_
      refine lv_iconst (v := (1 : Int32)) hx hb dX5_readKind_34 (by decide) ?_
      refine lv_iadd hx hb dX5_readKind_35 ?_
      obtain ⟨r10, hc11, hf⟩ := of_bind_some hf
      refine W.callR (r := r10) (W.runV (As := [.int ((I2 2) + (1 : Int32))]) (rest := []) ⟨hx, hb, hml, hown, hts⟩ (mX5_byteAt l dC dI cI Q I2 A3 ((I2 2) + (1 : Int32)) r10 hc11) (cwV 1 hts gX5_readKind_X5_byteAt rfl rfl rfl (by decide +kernel) ⟨Nat.le_of_ble_eq_true rfl, Nat.le_of_ble_eq_true rfl⟩) ⟨blindR, va_recv hK hP (ci := 2) (q0 := 0) rfl rfl, fun U hU hW => ⟨rfl, by rw [hU]; exact hP, va_K.moved hW.alike hK⟩⟩ rfl rfl hl.1 rfl (lv_room (Nat.le_of_ble_eq_true rfl)) dX5_readKind_36 ⟨Nat.zero_le _, Nat.zero_le _⟩) ?_
      refine W.eq (g2 := F0 m 39 ls [.int r10]) rfl ?_
      refine lv_bipush (v := (106 : Int32)) hx hb dX5_readKind_39 (by decide) ?_
      refine lv_icmp_ne (tgt := 51) hx hb dX5_readKind_41 (by decide) (fun c12 => ?_) (fun c12 => ?_)
      · have hf := (if_neg c12).symm.trans hf
        refine lv_iload_n hx hb dX5_readKind_51 rfl (lv_at hl 0 rfl) ?_
        exact W.iret (v := r4) hx hb hr (fun t ht hW => ⟨⟨r4, (I2, A3), rfl, Option.some.inj hf, by rw [ht]; exact hP, va_K.moved hW.alike hK, hD⟩, hS.F ht⟩) hS.2.2 dX5_readKind_52
      · have hf := (if_pos c12).symm.trans hf
        refine lv_aload_n hx hb dX5_readKind_44 rfl (lv_at hl 2 rfl) ?_
        refine lv_iload_n hx hb dX5_readKind_45 rfl (lv_at hl 1 rfl) ?_
        refine va_put (D := (dC, dI)) (ci := 2) (v := .int (I 2)) (ty := .int) (C := RX5) (T := TX5) (N := 4) hx hb hts hinX5 tyX5 tyX5_ok nmX5 hown hK hP hD hS 0 (fs := (oT Q I2)) rfl rfl 2 (by decide) hk21 (fun _ h9 => h9) rfl (by decide +kernel) rfl rfl (Nat.le_of_ble_eq_true rfl) dX5_readKind_46 (fun H locs hP hD hS => ?_)
        have hP : va_P (dC, dI) vwCl (wT cI Q (upd I2 2 (I 2)) A3) H := Eq.mp (congrArg (fun w => va_P (dC, dI) vwCl w H) (wTI_2 cI Q I2 A3 (I 2))) hP
        have hD : va_D AA (wT cI Q (upd I2 2 (I 2)) A3) := Eq.mp (congrArg (fun w => va_D AA w) (wTI_2 cI Q I2 A3 (I 2))) hD
        refine lv_iconst (v := (-1 : Int32)) hx hb dX5_readKind_49 (by decide) ?_
        exact W.iret (v := (-1 : Int32)) hx hb hr (fun t ht hW => ⟨⟨(-1 : Int32), ((upd I2 2 (I 2)), A3), rfl, Option.some.inj hf, by rw [ht]; exact hP, va_K.moved hW.alike hK, hD⟩, hS.F ht⟩) hS.2.2 dX5_readKind_50
def fX5_readKindAndSize_59   (I : Nat → Int32) (A : Nat → Nat → Int32) (v2 : Int32) (v3 : Int32) (t0 : Int32) : Option (Int32 × (Nat → Int32) × (Nat → Nat → Int32)) :=
  (if t0 = 0 then (some ((v2 ||| v3), (I, A))) else (if (v3 &&& (1024 : Int32)) = 0 then (some ((v2 ||| v3), (I, A))) else (some ((v2 ||| (v3 ^^^ (1536 : Int32))), (I, A)))))
def fX5_readKindAndSize_22   (I : Nat → Int32) (A : Nat → Nat → Int32) (v1 : Int32) (t0 : Int32) : Option (Int32 × (Nat → Int32) × (Nat → Nat → Int32)) :=
  (if v1 = (6 : Int32) then (some (t0, (I, A))) else ((fX5_readLongest I A 5).bind fun (r13, I11, A12) => ((fX8_entry (sN 7) (sF 7) r13).bind fun r15 => (if v1 = (2 : Int32) then (fX5_readKindAndSize_59   I11 A12 t0 r15 (1 : Int32)) else (if v1 = (3 : Int32) then (fX5_readKindAndSize_59   I11 A12 t0 r15 (1 : Int32)) else (fX5_readKindAndSize_59   I11 A12 t0 r15 (0 : Int32)))))))
def fX5_readKindAndSize  (I : Nat → Int32) (A : Nat → Nat → Int32)  : Option (Int32 × (Nat → Int32) × (Nat → Nat → Int32)) :=
  ((fX5_readKind I A).bind fun (r4, I2, A3) => (if r4 = (-1 : Int32) then (fX5_readKindAndSize_22   I2 A3 r4 (73 : Int32)) else ((fX8_entry (sN 5) (sF 5) r4).bind fun r7 => (fX5_readKindAndSize_22   I2 A3 r4 r7))))
set_option maxRecDepth 100000 in
set_option maxHeartbeats 4000000 in
theorem mX5_readKindAndSize (l : Launch) (en : Nat → Nat) (dC : Nat → ClassId) (dI : Nat → Nat → Nat) (cI : ClassId) (Q : Nat → Nat)  (I : Nat → Int32) (A : Nat → Nat → Int32)  (sz : Nat) (z : Int32 × (Nat → Int32) × (Nat → Nat → Int32)) (hf : fX5_readKindAndSize I A = some z) : Met l yX5_readKindAndSize wsX5_readKindAndSize ({ frames := 7, cells := 0, slots := 0, locals := 157 }) (va_Pc [.ref (Q 100)] (fun U => U.heap.size = sz ∧ va_P (dC, dI) vwCl (wT cI Q I A) U.heap ∧ va_K (dC, dI) vwCl [(cI, .int)] U ∧ va_D (fun _ => True) (wT cI Q I A) ∧ cE en (va_A (wT cI Q I A) sz) U U.heap)) (va_Qi (fun (r : Int32) (u : (Nat → Int32) × (Nat → Nat → Int32)) => (r, u) = z) (atT dC dI cI Q (va_A (wT cI Q I A) sz)) (va_A (wT cI Q I A) sz)) 0 0 (va_A (wT cI Q I A) sz) := by
  refine Met.ofW (cc := cX5_readKindAndSize) (maxL := 5) (ret := (some .int)) (by decide) rfl ?_
  intro p e s m args below meth c s₁ BL hml hv
  obtain ⟨rfl, hsz, hP, hK, hD0, hE⟩ := hv
  have hx := BL.exec
  have hb := BL.bytes
  have hr := BL.returns
  have hts := atoms_spec (ws := wsX5_readKindAndSize) BL.pre
  have hown : s.vm.findClass RX5 = some m.cls := findClass_of_methodNamed BL.named
  have hlocks := BL.notSynchronized
  subst hsz
  have hD := hD0.self (sz := s.heap.size)
  generalize hAe : va_A (wT cI Q I A) s.heap.size = AA at hD hE ⊢
  have hA : ∀ q : Nat, s.heap.size ≤ q → AA q := fun q h => by rw [← hAe]; exact Or.inr h
  have hS : va_S AA s.heap s.heap [] := va_S.rf
  have sg59 : ∀ (I : Nat → Int32) (A : Nat → Nat → Int32) (v2 : Int32) (v3 : Int32) (t0 : Int32) (H : Heap) (locs : List Loc) (ls : Array Slot), fX5_readKindAndSize_59   I A v2 v3 t0 = some z → va_P (dC, dI) vwCl (wT cI Q I A) H → va_D AA (wT cI Q I A) → va_S AA s.heap H locs → lv_has ls 5 [(2, .int v2), (3, .int v3)] → W p l e (headSpec wsX5_readKindAndSize ({ frames := 7, cells := 0, slots := 0, locals := 157 })).room s m (([.ref (Q 100)] : List Value).toArray) below meth c H locs 0 0 (MQ below (va_Qi (fun (r : Int32) (u : (Nat → Int32) × (Nat → Nat → Int32)) => (r, u) = z) (atT dC dI cI Q AA) AA) (([.ref (Q 100)] : List Value).toArray) s 0 0 AA) (F0 m 59 ls [.int t0]) := by
    intro I A v2 v3 t0 H locs ls hf hP hD hS hl
    unfold fX5_readKindAndSize_59 at hf
    refine lv_istore (lv' := [(4, .int t0), (2, .int v2), (3, .int v3)]) hx hb dX5_readKindAndSize_59 hl (by decide) rfl (fun ls hl => ?_)
    refine lv_iload hx hb dX5_readKindAndSize_61 (lv_at hl 0 rfl) ?_
    refine lv_if_eq (tgt := 80) hx hb dX5_readKindAndSize_63 (by decide) (fun c19 => ?_) (fun c19 => ?_)
    · have hf := (if_pos c19).symm.trans hf
      refine lv_iload_n hx hb dX5_readKindAndSize_80 rfl (lv_at hl 1 rfl) ?_
      refine lv_iload_n hx hb dX5_readKindAndSize_81 rfl (lv_at hl 2 rfl) ?_
      refine lv_ior hx hb dX5_readKindAndSize_82 ?_
      exact W.iret (v := (v2 ||| v3)) hx hb hr (fun t ht hW => ⟨⟨(v2 ||| v3), (I, A), rfl, Option.some.inj hf, by rw [ht]; exact hP, va_K.moved hW.alike hK, hD⟩, hS.F ht⟩) hS.2.2 dX5_readKindAndSize_83
    · have hf := (if_neg c19).symm.trans hf
      refine lv_iload_n hx hb dX5_readKindAndSize_66 rfl (lv_at hl 2 rfl) ?_
      refine lv_sipush (v := (1024 : Int32)) hx hb dX5_readKindAndSize_67 (by decide) ?_
      refine lv_iand hx hb dX5_readKindAndSize_70 ?_
      refine lv_if_eq (tgt := 80) hx hb dX5_readKindAndSize_71 (by decide) (fun c20 => ?_) (fun c20 => ?_)
      · have hf := (if_pos c20).symm.trans hf
        refine lv_iload_n hx hb dX5_readKindAndSize_80 rfl (lv_at hl 1 rfl) ?_
        refine lv_iload_n hx hb dX5_readKindAndSize_81 rfl (lv_at hl 2 rfl) ?_
        refine lv_ior hx hb dX5_readKindAndSize_82 ?_
        exact W.iret (v := (v2 ||| v3)) hx hb hr (fun t ht hW => ⟨⟨(v2 ||| v3), (I, A), rfl, Option.some.inj hf, by rw [ht]; exact hP, va_K.moved hW.alike hK, hD⟩, hS.F ht⟩) hS.2.2 dX5_readKindAndSize_83
      · have hf := (if_neg c20).symm.trans hf
        refine lv_iload_n hx hb dX5_readKindAndSize_74 rfl (lv_at hl 2 rfl) ?_
        refine lv_sipush (v := (1536 : Int32)) hx hb dX5_readKindAndSize_75 (by decide) ?_
        refine lv_ixor hx hb dX5_readKindAndSize_78 ?_
        refine lv_istore_n (lv' := [(3, .int (v3 ^^^ (1536 : Int32))), (4, .int t0), (2, .int v2)]) hx hb dX5_readKindAndSize_79 rfl hl (by decide) rfl (fun ls hl => ?_)
        refine lv_iload_n hx hb dX5_readKindAndSize_80 rfl (lv_at hl 2 rfl) ?_
        refine lv_iload_n hx hb dX5_readKindAndSize_81 rfl (lv_at hl 0 rfl) ?_
        refine lv_ior hx hb dX5_readKindAndSize_82 ?_
        exact W.iret (v := (v2 ||| (v3 ^^^ (1536 : Int32)))) hx hb hr (fun t ht hW => ⟨⟨(v2 ||| (v3 ^^^ (1536 : Int32))), (I, A), rfl, Option.some.inj hf, by rw [ht]; exact hP, va_K.moved hW.alike hK, hD⟩, hS.F ht⟩) hS.2.2 dX5_readKindAndSize_83
  have sg22 : ∀ (I : Nat → Int32) (A : Nat → Nat → Int32) (v1 : Int32) (t0 : Int32) (H : Heap) (locs : List Loc) (ls : Array Slot), fX5_readKindAndSize_22   I A v1 t0 = some z → va_P (dC, dI) vwCl (wT cI Q I A) H → va_D AA (wT cI Q I A) → va_S AA s.heap H locs → lv_has ls 5 [(0, .ref (Q 100)), (1, .int v1)] → W p l e (headSpec wsX5_readKindAndSize ({ frames := 7, cells := 0, slots := 0, locals := 157 })).room s m (([.ref (Q 100)] : List Value).toArray) below meth c H locs 0 0 (MQ below (va_Qi (fun (r : Int32) (u : (Nat → Int32) × (Nat → Nat → Int32)) => (r, u) = z) (atT dC dI cI Q AA) AA) (([.ref (Q 100)] : List Value).toArray) s 0 0 AA) (F0 m 22 ls [.int t0]) := by
    intro I A v1 t0 H locs ls hf hP hD hS hl
    unfold fX5_readKindAndSize_22 at hf
    refine lv_istore_n (lv' := [(2, .int t0), (0, .ref (Q 100)), (1, .int v1)]) hx hb dX5_readKindAndSize_22 rfl hl (by decide) rfl (fun ls hl => ?_)
    refine lv_iload_n hx hb dX5_readKindAndSize_23 rfl (lv_at hl 2 rfl) ?_
    refine lv_bipush (v := (6 : Int32)) hx hb dX5_readKindAndSize_24 (by decide) ?_
    refine lv_icmp_ne (tgt := 31) hx hb dX5_readKindAndSize_26 (by decide) (fun c9 => ?_) (fun c9 => ?_)
    · have hf := (if_neg c9).symm.trans hf
      refine va_gets hx hb (show va_Z "LeadSheets$Tape" "SIZE_STEPS" "[I" (.ref (en 7)) _ s s.heap from (hE.1 7 (by decide)).1) hS hown (hts (.fieldLink RX5 73 "LeadSheets$Tape" "SIZE_STEPS" "[I") (by decide +kernel)) (fun _ h9 => h9) dX5_readKindAndSize_31 ?_
      refine lv_aload_n hx hb dX5_readKindAndSize_34 rfl (lv_at hl 1 rfl) ?_
      refine va_ldcS hx hb hown (hE.2.1 5 (by decide)).2 dX5_readKindAndSize_35 ?_
      obtain ⟨⟨r13, I11, A12⟩, hc10, hf⟩ := of_bind_some hf
      have hF14 := va_freeAll hD hS hA
      refine va_calli (va_runV (As := [.ref (en (100 + 5))]) (rest := [.ref (en 7)]) ⟨hx, hb, hml, hown, hts⟩ (mX5_readLongest l en dC dI cI Q I A 5 (by decide) H.size _ hc10) (cwV 1 hts gX5_readKindAndSize_X5_readLongest rfl rfl rfl (by decide +kernel) ⟨Nat.le_of_ble_eq_true rfl, Nat.le_of_ble_eq_true rfl⟩) ⟨blindWE, va_recv hK hP (ci := 2) (q0 := 0) rfl rfl, fun U hU hW => ⟨rfl, by rw [hU], by rw [hU]; exact hP, va_K.moved hW.alike hK, hD.weaken (fun _ _ _ _ => trivial), cE_sub hE hS hW hU hF14⟩⟩ rfl rfl hl.1 rfl (lv_room (Nat.le_of_ble_eq_true rfl)) dX5_readKindAndSize_37 ⟨Nat.zero_le _, Nat.zero_le _⟩) hS (fun q _ h => hF14 q h) hF14 (fun r0 u t H locs ht hvm hw hB hz1 hk1 hS => ?_)
      cases hw
      obtain ⟨hP, hK9, hD⟩ := hB
      rw [ht] at hP
      have hP : va_P (dC, dI) vwCl (wT cI Q I11 A12) H := hP
      have hD : va_D AA (wT cI Q I11 A12) := hD.weaken (fun _ _ _ h => hF14 _ h)
      obtain ⟨r15, hc16, hf⟩ := of_bind_some hf
      refine W.callR (r := r15) (va_Run.run (va_runSN (host := RX8) (As := [.ref (en 7), .int r13]) (rest := []) ⟨hx, hb, hml, hown, hts⟩ (mX8_entry_s l en 7 (by decide) r13 r15 hc16) ⟨va_cnB 2 hts gX5_readKindAndSize_X8_entry_n69 rfl rfl rfl (hE.2.2.2.2.1 (RX5, 69, yX8_entry, RX8) (by decide +kernel)) (hts (.initialized RX8) (by decide +kernel)) (by decide +kernel) ⟨Nat.le_of_ble_eq_true rfl, Nat.le_of_ble_eq_true rfl⟩, hts (.static yX8_entry) (by decide +kernel), trivial⟩ ⟨blindS, fun U hU hW => ⟨rfl, cE_read hE hS hW hU⟩⟩ rfl rfl hl.1 rfl (lv_room (Nat.le_of_ble_eq_true rfl)) dX5_readKindAndSize_40 ⟨Nat.zero_le _, Nat.zero_le _⟩)) ?_
      refine W.eq (g2 := F0 m 43 ls [.int r15]) rfl ?_
      refine lv_istore_n (lv' := [(3, .int r15), (2, .int t0), (0, .ref (Q 100)), (1, .int v1)]) hx hb dX5_readKindAndSize_43 rfl hl (by decide) rfl (fun ls hl => ?_)
      refine lv_iload_n hx hb dX5_readKindAndSize_44 rfl (lv_at hl 3 rfl) ?_
      refine lv_iconst (v := (2 : Int32)) hx hb dX5_readKindAndSize_45 (by decide) ?_
      refine lv_icmp_eq (tgt := 54) hx hb dX5_readKindAndSize_46 (by decide) (fun c17 => ?_) (fun c17 => ?_)
      · have hf := (if_pos c17).symm.trans hf
        refine lv_iconst (v := (1 : Int32)) hx hb dX5_readKindAndSize_54 (by decide) ?_
        refine lv_goto (tgt := 59) hx hb dX5_readKindAndSize_55 (by decide) ?_
        exact sg59  I11 A12 t0 r15 (1 : Int32) H locs ls hf hP hD hS (lv_sub hl [1, 0] rfl)
      · have hf := (if_neg c17).symm.trans hf
        refine lv_iload_n hx hb dX5_readKindAndSize_49 rfl (lv_at hl 3 rfl) ?_
        refine lv_iconst (v := (3 : Int32)) hx hb dX5_readKindAndSize_50 (by decide) ?_
        refine lv_icmp_ne (tgt := 58) hx hb dX5_readKindAndSize_51 (by decide) (fun c18 => ?_) (fun c18 => ?_)
        · have hf := (if_neg c18).symm.trans hf
          refine lv_iconst (v := (0 : Int32)) hx hb dX5_readKindAndSize_58 (by decide) ?_
          exact sg59  I11 A12 t0 r15 (0 : Int32) H locs ls hf hP hD hS (lv_sub hl [1, 0] rfl)
        · have hf := (if_pos c18).symm.trans hf
          refine lv_iconst (v := (1 : Int32)) hx hb dX5_readKindAndSize_54 (by decide) ?_
          refine lv_goto (tgt := 59) hx hb dX5_readKindAndSize_55 (by decide) ?_
          exact sg59  I11 A12 t0 r15 (1 : Int32) H locs ls hf hP hD hS (lv_sub hl [1, 0] rfl)
    · have hf := (if_pos c9).symm.trans hf
      refine lv_iload_n hx hb dX5_readKindAndSize_29 rfl (lv_at hl 0 rfl) ?_
      exact W.iret (v := t0) hx hb hr (fun t ht hW => ⟨⟨t0, (I, A), rfl, Option.some.inj hf, by rw [ht]; exact hP, va_K.moved hW.alike hK, hD⟩, hS.F ht⟩) hS.2.2 dX5_readKindAndSize_30
  have hl := lv_entry ([.ref (Q 100)]) (n := 5) (Nat.le_of_ble_eq_true rfl)
  rw [lg_entry_eq]
  generalize (lg_sl ([.ref (Q 100)]) ++ List.replicate (5 - (lg_sl ([.ref (Q 100)])).length) Slot.unset).toArray = ls at hl ⊢
  have hl : lv_has ls 5 [(0, .ref (Q 100))] := hl
  unfold fX5_readKindAndSize at hf
  refine lv_aload_n hx hb dX5_readKindAndSize_0 rfl (lv_at hl 0 rfl) ?_
  obtain ⟨⟨r4, I2, A3⟩, hc1, hf⟩ := of_bind_some hf
  have hF5 := va_freeAll hD hS hA
  refine va_calli (va_runV (As := []) (rest := []) ⟨hx, hb, hml, hown, hts⟩ (mX5_readKind l en dC dI cI Q I A s.heap.size _ hc1) (cwV 0 hts gX5_readKindAndSize_X5_readKind rfl rfl rfl (by decide +kernel) ⟨Nat.le_of_ble_eq_true rfl, Nat.le_of_ble_eq_true rfl⟩) ⟨blindWE, va_recv hK hP (ci := 2) (q0 := 0) rfl rfl, fun U hU hW => ⟨rfl, by rw [hU], by rw [hU]; exact hP, va_K.moved hW.alike hK, hD.weaken (fun _ _ _ _ => trivial), cE_sub hE hS hW hU hF5⟩⟩ rfl rfl hl.1 rfl (lv_room (Nat.le_of_ble_eq_true rfl)) dX5_readKindAndSize_1 ⟨Nat.zero_le _, Nat.zero_le _⟩) hS (fun q _ h => hF5 q h) hF5 (fun r0 u t H locs ht hvm hw hB hz1 hk1 hS => ?_)
  cases hw
  obtain ⟨hP, hK9, hD⟩ := hB
  rw [ht] at hP
  have hP : va_P (dC, dI) vwCl (wT cI Q I2 A3) H := hP
  have hD : va_D AA (wT cI Q I2 A3) := hD.weaken (fun _ _ _ h => hF5 _ h)
  refine lv_istore_n (lv' := [(1, .int r4), (0, .ref (Q 100))]) hx hb dX5_readKindAndSize_4 rfl hl (by decide) rfl (fun ls hl => ?_)
  refine lv_iload_n hx hb dX5_readKindAndSize_5 rfl (lv_at hl 0 rfl) ?_
  refine lv_iconst (v := (-1 : Int32)) hx hb dX5_readKindAndSize_6 (by decide) ?_
  refine lv_icmp_ne (tgt := 15) hx hb dX5_readKindAndSize_7 (by decide) (fun c6 => ?_) (fun c6 => ?_)
  · have hf := (if_neg c6).symm.trans hf
    refine va_gets hx hb (show va_Z "LeadSheets$Tape" "KIND_STEPS" "[I" (.ref (en 5)) _ s s.heap from (hE.1 5 (by decide)).1) hS hown (hts (.fieldLink RX5 66 "LeadSheets$Tape" "KIND_STEPS" "[I") (by decide +kernel)) (fun _ h9 => h9) dX5_readKindAndSize_15 ?_
    refine lv_iload_n hx hb dX5_readKindAndSize_18 rfl (lv_at hl 0 rfl) ?_
    obtain ⟨r7, hc8, hf⟩ := of_bind_some hf
    refine W.callR (r := r7) (va_Run.run (va_runSN (host := RX8) (As := [.ref (en 5), .int r4]) (rest := []) ⟨hx, hb, hml, hown, hts⟩ (mX8_entry_s l en 5 (by decide) r4 r7 hc8) ⟨va_cnB 2 hts gX5_readKindAndSize_X8_entry_n69 rfl rfl rfl (hE.2.2.2.2.1 (RX5, 69, yX8_entry, RX8) (by decide +kernel)) (hts (.initialized RX8) (by decide +kernel)) (by decide +kernel) ⟨Nat.le_of_ble_eq_true rfl, Nat.le_of_ble_eq_true rfl⟩, hts (.static yX8_entry) (by decide +kernel), trivial⟩ ⟨blindS, fun U hU hW => ⟨rfl, cE_read hE hS hW hU⟩⟩ rfl rfl hl.1 rfl (lv_room (Nat.le_of_ble_eq_true rfl)) dX5_readKindAndSize_19 ⟨Nat.zero_le _, Nat.zero_le _⟩)) ?_
    refine W.eq (g2 := F0 m 22 ls [.int r7]) rfl ?_
    exact sg22  I2 A3 r4 r7 H locs ls hf hP hD hS (lv_sub hl [1, 0] rfl)
  · have hf := (if_pos c6).symm.trans hf
    refine lv_bipush (v := (73 : Int32)) hx hb dX5_readKindAndSize_10 (by decide) ?_
    refine lv_goto (tgt := 22) hx hb dX5_readKindAndSize_12 (by decide) ?_
    exact sg22  I2 A3 r4 (73 : Int32) H locs ls hf hP hD hS (lv_sub hl [1, 0] rfl)
def fX5_readNote  (I : Nat → Int32) (A : Nat → Nat → Int32)  : Option (Int32 × (Nat → Int32) × (Nat → Nat → Int32)) :=
  ((fX5_byteAt I A (I 2)).bind fun r1 => (if r1 < (65 : Int32) then (some ((-1 : Int32), (I, A))) else (if r1 ≤ (71 : Int32) then ((fX5_readLongest (upd I 2 ((I 2) + (1 : Int32))) A 4).bind fun (r8, I6, A7) => (if r8 = (-1 : Int32) then (some ((fX3_note (jrem ((r1 - (65 : Int32)) + (5 : Int32)) (7 : Int32)) (0 : Int32)), (I6, A7))) else (some ((fX3_note (jrem ((r1 - (65 : Int32)) + (5 : Int32)) (7 : Int32)) (r8 - (2 : Int32))), (I6, A7))))) else (some ((-1 : Int32), (I, A))))))
set_option maxRecDepth 100000 in
set_option maxHeartbeats 4000000 in
theorem mX5_readNote (l : Launch) (en : Nat → Nat) (dC : Nat → ClassId) (dI : Nat → Nat → Nat) (cI : ClassId) (Q : Nat → Nat)  (I : Nat → Int32) (A : Nat → Nat → Int32)  (sz : Nat) (z : Int32 × (Nat → Int32) × (Nat → Nat → Int32)) (hf : fX5_readNote I A = some z) : Met l yX5_readNote wsX5_readNote ({ frames := 6, cells := 0, slots := 0, locals := 135 }) (va_Pc [.ref (Q 100)] (fun U => U.heap.size = sz ∧ va_P (dC, dI) vwCl (wT cI Q I A) U.heap ∧ va_K (dC, dI) vwCl [(cI, .int)] U ∧ va_D (fun _ => True) (wT cI Q I A) ∧ cE en (va_A (wT cI Q I A) sz) U U.heap)) (va_Qi (fun (r : Int32) (u : (Nat → Int32) × (Nat → Nat → Int32)) => (r, u) = z) (atT dC dI cI Q (va_A (wT cI Q I A) sz)) (va_A (wT cI Q I A) sz)) 0 0 (va_A (wT cI Q I A) sz) := by
  refine Met.ofW (cc := cX5_readNote) (maxL := 3) (ret := (some .int)) (by decide) rfl ?_
  intro p e s m args below meth c s₁ BL hml hv
  obtain ⟨rfl, hsz, hP, hK, hD0, hE⟩ := hv
  have hx := BL.exec
  have hb := BL.bytes
  have hr := BL.returns
  have hts := atoms_spec (ws := wsX5_readNote) BL.pre
  have hown : s.vm.findClass RX5 = some m.cls := findClass_of_methodNamed BL.named
  have hlocks := BL.notSynchronized
  have hinX5 : ∀ w ∈ u_ws RX5 TX5 4, w ∈ wsX5_readNote := by decide +kernel
  have hk21 := hts (.fieldLink RX5 21 "LeadSheets$Tape" "place" "I") (by decide +kernel)
  subst hsz
  have hD := hD0.self (sz := s.heap.size)
  generalize hAe : va_A (wT cI Q I A) s.heap.size = AA at hD hE ⊢
  have hA : ∀ q : Nat, s.heap.size ≤ q → AA q := fun q h => by rw [← hAe]; exact Or.inr h
  have hS : va_S AA s.heap s.heap [] := va_S.rf
  have hl := lv_entry ([.ref (Q 100)]) (n := 3) (Nat.le_of_ble_eq_true rfl)
  rw [lg_entry_eq]
  generalize (lg_sl ([.ref (Q 100)]) ++ List.replicate (3 - (lg_sl ([.ref (Q 100)])).length) Slot.unset).toArray = ls at hl ⊢
  have hl : lv_has ls 3 [(0, .ref (Q 100))] := hl
  unfold fX5_readNote at hf
  refine lv_aload_n hx hb dX5_readNote_0 rfl (lv_at hl 0 rfl) ?_
  refine lv_aload_n hx hb dX5_readNote_1 rfl (lv_at hl 0 rfl) ?_
  refine va_get (D := (dC, dI)) (ci := 2) (v := .int (I 2)) (C := RX5) (T := TX5) (N := 4) hx hb hts hinX5 hown hK hP 0 rfl rfl 2 (by decide) hk21 (fun _ h9 => h9) rfl dX5_readNote_2 ?_
  obtain ⟨r1, hc2, hf⟩ := of_bind_some hf
  refine W.callR (r := r1) (W.runV (As := [.int (I 2)]) (rest := []) ⟨hx, hb, hml, hown, hts⟩ (mX5_byteAt l dC dI cI Q I A (I 2) r1 hc2) (cwV 1 hts gX5_readNote_X5_byteAt rfl rfl rfl (by decide +kernel) ⟨Nat.le_of_ble_eq_true rfl, Nat.le_of_ble_eq_true rfl⟩) ⟨blindR, va_recv hK hP (ci := 2) (q0 := 0) rfl rfl, fun U hU hW => ⟨rfl, by rw [hU]; exact hP, va_K.moved hW.alike hK⟩⟩ rfl rfl hl.1 rfl (lv_room (Nat.le_of_ble_eq_true rfl)) dX5_readNote_5 ⟨Nat.zero_le _, Nat.zero_le _⟩) ?_
  refine W.eq (g2 := F0 m 8 ls [.int r1]) rfl ?_
  refine lv_istore_n (lv' := [(1, .int r1), (0, .ref (Q 100))]) hx hb dX5_readNote_8 rfl hl (by decide) rfl (fun ls hl => ?_)
  refine lv_iload_n hx hb dX5_readNote_9 rfl (lv_at hl 0 rfl) ?_
  refine lv_bipush (v := (65 : Int32)) hx hb dX5_readNote_10 (by decide) ?_
  refine lv_icmp_lt (tgt := 21) hx hb dX5_readNote_12 (by decide) (fun c3 => ?_) (fun c3 => ?_)
  · have hf := (if_pos c3).symm.trans hf
    refine lv_iconst (v := (-1 : Int32)) hx hb dX5_readNote_21 (by decide) ?_
    exact W.iret (v := (-1 : Int32)) hx hb hr (fun t ht hW => ⟨⟨(-1 : Int32), (I, A), rfl, Option.some.inj hf, by rw [ht]; exact hP, va_K.moved hW.alike hK, hD⟩, hS.F ht⟩) hS.2.2 dX5_readNote_22
  · have hf := (if_neg c3).symm.trans hf
    refine lv_iload_n hx hb dX5_readNote_15 rfl (lv_at hl 0 rfl) ?_
    refine lv_bipush (v := (71 : Int32)) hx hb dX5_readNote_16 (by decide) ?_
    refine lv_icmp_le (tgt := 23) hx hb dX5_readNote_18 (by decide) (fun c4 => ?_) (fun c4 => ?_)
    · have hf := (if_pos c4).symm.trans hf
      refine lv_aload_n hx hb dX5_readNote_23 rfl (lv_at hl 1 rfl) ?_
      refine lv_dup hx hb dX5_readNote_24 rfl ?_
      refine va_get (D := (dC, dI)) (ci := 2) (v := .int (I 2)) (C := RX5) (T := TX5) (N := 4) hx hb hts hinX5 hown hK hP 0 rfl rfl 2 (by decide) hk21 (fun _ h9 => h9) rfl dX5_readNote_25 ?_
      refine lv_iconst (v := (1 : Int32)) hx hb dX5_readNote_28 (by decide) ?_
      refine lv_iadd hx hb dX5_readNote_29 ?_
      refine va_put (D := (dC, dI)) (ci := 2) (v := .int ((I 2) + (1 : Int32))) (ty := .int) (C := RX5) (T := TX5) (N := 4) hx hb hts hinX5 tyX5 tyX5_ok nmX5 hown hK hP hD hS 0 (fs := (oT Q I)) rfl rfl 2 (by decide) hk21 (fun _ h9 => h9) rfl (by decide +kernel) rfl rfl (Nat.le_of_ble_eq_true rfl) dX5_readNote_30 (fun H locs hP hD hS => ?_)
      have hP : va_P (dC, dI) vwCl (wT cI Q (upd I 2 ((I 2) + (1 : Int32))) A) H := Eq.mp (congrArg (fun w => va_P (dC, dI) vwCl w H) (wTI_2 cI Q I A ((I 2) + (1 : Int32)))) hP
      have hD : va_D AA (wT cI Q (upd I 2 ((I 2) + (1 : Int32))) A) := Eq.mp (congrArg (fun w => va_D AA w) (wTI_2 cI Q I A ((I 2) + (1 : Int32)))) hD
      refine lv_aload_n hx hb dX5_readNote_33 rfl (lv_at hl 1 rfl) ?_
      refine va_ldcS hx hb hown (hE.2.1 4 (by decide)).2 dX5_readNote_34 ?_
      obtain ⟨⟨r8, I6, A7⟩, hc5, hf⟩ := of_bind_some hf
      have hF9 := va_freeAll hD hS hA
      refine va_calli (va_runV (As := [.ref (en (100 + 4))]) (rest := []) ⟨hx, hb, hml, hown, hts⟩ (mX5_readLongest l en dC dI cI Q (upd I 2 ((I 2) + (1 : Int32))) A 4 (by decide) H.size _ hc5) (cwV 1 hts gX5_readNote_X5_readLongest rfl rfl rfl (by decide +kernel) ⟨Nat.le_of_ble_eq_true rfl, Nat.le_of_ble_eq_true rfl⟩) ⟨blindWE, va_recv hK hP (ci := 2) (q0 := 0) rfl rfl, fun U hU hW => ⟨rfl, by rw [hU], by rw [hU]; exact hP, va_K.moved hW.alike hK, hD.weaken (fun _ _ _ _ => trivial), cE_sub hE hS hW hU hF9⟩⟩ rfl rfl hl.1 rfl (lv_room (Nat.le_of_ble_eq_true rfl)) dX5_readNote_36 ⟨Nat.zero_le _, Nat.zero_le _⟩) hS (fun q _ h => hF9 q h) hF9 (fun r0 u t H locs ht hvm hw hB hz1 hk1 hS => ?_)
      cases hw
      obtain ⟨hP, hK9, hD⟩ := hB
      rw [ht] at hP
      have hP : va_P (dC, dI) vwCl (wT cI Q I6 A7) H := hP
      have hD : va_D AA (wT cI Q I6 A7) := hD.weaken (fun _ _ _ h => hF9 _ h)
      refine lv_istore_n (lv' := [(2, .int r8), (1, .int r1), (0, .ref (Q 100))]) hx hb dX5_readNote_39 rfl hl (by decide) rfl (fun ls hl => ?_)
      refine lv_iload_n hx hb dX5_readNote_40 rfl (lv_at hl 1 rfl) ?_
      refine lv_bipush (v := (65 : Int32)) hx hb dX5_readNote_41 (by decide) ?_
      refine lv_isub hx hb dX5_readNote_43 ?_
      refine lv_iconst (v := (5 : Int32)) hx hb dX5_readNote_44 (by decide) ?_
      refine lv_iadd hx hb dX5_readNote_45 ?_
      refine lv_bipush (v := (7 : Int32)) hx hb dX5_readNote_46 (by decide) ?_
      refine lv_irem hx hb dX5_readNote_48 (by decide) ?_
      refine W.eq (g2 := F0 m 49 ls [.int (jrem ((r1 - (65 : Int32)) + (5 : Int32)) (7 : Int32))]) rfl ?_
      refine lv_iload_n hx hb dX5_readNote_49 rfl (lv_at hl 0 rfl) ?_
      refine lv_iconst (v := (-1 : Int32)) hx hb dX5_readNote_50 (by decide) ?_
      refine lv_icmp_ne (tgt := 58) hx hb dX5_readNote_51 (by decide) (fun c10 => ?_) (fun c10 => ?_)
      · have hf := (if_neg c10).symm.trans hf
        refine lv_iload_n hx hb dX5_readNote_58 rfl (lv_at hl 0 rfl) ?_
        refine lv_iconst (v := (2 : Int32)) hx hb dX5_readNote_59 (by decide) ?_
        refine lv_isub hx hb dX5_readNote_60 ?_
        refine W.callR (r := (fX3_note (jrem ((r1 - (65 : Int32)) + (5 : Int32)) (7 : Int32)) (r8 - (2 : Int32)))) (W.runS (As := [.int (jrem ((r1 - (65 : Int32)) + (5 : Int32)) (7 : Int32)), .int (r8 - (2 : Int32))]) (rest := []) ⟨hx, hb, hml, hown, hts⟩ (mX3_note l (jrem ((r1 - (65 : Int32)) + (5 : Int32)) (7 : Int32)) (r8 - (2 : Int32)) (fX3_note (jrem ((r1 - (65 : Int32)) + (5 : Int32)) (7 : Int32)) (r8 - (2 : Int32))) rfl) (va_cwS 2 hts gX5_readNote_X3_note rfl rfl rfl (by decide +kernel) ⟨Nat.le_of_ble_eq_true rfl, Nat.le_of_ble_eq_true rfl⟩) ⟨fun _ _ _ _ q => q, fun U hU hW => ⟨rfl, trivial⟩⟩ rfl rfl hl.1 rfl (lv_room (Nat.le_of_ble_eq_true rfl)) dX5_readNote_61 ⟨Nat.zero_le _, Nat.zero_le _⟩) ?_
        refine W.eq (g2 := F0 m 64 ls [.int (fX3_note (jrem ((r1 - (65 : Int32)) + (5 : Int32)) (7 : Int32)) (r8 - (2 : Int32)))]) rfl ?_
        exact W.iret (v := (fX3_note (jrem ((r1 - (65 : Int32)) + (5 : Int32)) (7 : Int32)) (r8 - (2 : Int32)))) hx hb hr (fun t ht hW => ⟨⟨(fX3_note (jrem ((r1 - (65 : Int32)) + (5 : Int32)) (7 : Int32)) (r8 - (2 : Int32))), (I6, A7), rfl, Option.some.inj hf, by rw [ht]; exact hP, va_K.moved hW.alike hK, hD⟩, hS.F ht⟩) hS.2.2 dX5_readNote_64
      · have hf := (if_pos c10).symm.trans hf
        refine lv_iconst (v := (0 : Int32)) hx hb dX5_readNote_54 (by decide) ?_
        refine lv_goto (tgt := 61) hx hb dX5_readNote_55 (by decide) ?_
        refine W.callR (r := (fX3_note (jrem ((r1 - (65 : Int32)) + (5 : Int32)) (7 : Int32)) (0 : Int32))) (W.runS (As := [.int (jrem ((r1 - (65 : Int32)) + (5 : Int32)) (7 : Int32)), .int (0 : Int32)]) (rest := []) ⟨hx, hb, hml, hown, hts⟩ (mX3_note l (jrem ((r1 - (65 : Int32)) + (5 : Int32)) (7 : Int32)) (0 : Int32) (fX3_note (jrem ((r1 - (65 : Int32)) + (5 : Int32)) (7 : Int32)) (0 : Int32)) rfl) (va_cwS 2 hts gX5_readNote_X3_note rfl rfl rfl (by decide +kernel) ⟨Nat.le_of_ble_eq_true rfl, Nat.le_of_ble_eq_true rfl⟩) ⟨fun _ _ _ _ q => q, fun U hU hW => ⟨rfl, trivial⟩⟩ rfl rfl hl.1 rfl (lv_room (Nat.le_of_ble_eq_true rfl)) dX5_readNote_61 ⟨Nat.zero_le _, Nat.zero_le _⟩) ?_
        refine W.eq (g2 := F0 m 64 ls [.int (fX3_note (jrem ((r1 - (65 : Int32)) + (5 : Int32)) (7 : Int32)) (0 : Int32))]) rfl ?_
        exact W.iret (v := (fX3_note (jrem ((r1 - (65 : Int32)) + (5 : Int32)) (7 : Int32)) (0 : Int32))) hx hb hr (fun t ht hW => ⟨⟨(fX3_note (jrem ((r1 - (65 : Int32)) + (5 : Int32)) (7 : Int32)) (0 : Int32)), (I6, A7), rfl, Option.some.inj hf, by rw [ht]; exact hP, va_K.moved hW.alike hK, hD⟩, hS.F ht⟩) hS.2.2 dX5_readNote_64
    · have hf := (if_neg c4).symm.trans hf
      refine lv_iconst (v := (-1 : Int32)) hx hb dX5_readNote_21 (by decide) ?_
      exact W.iret (v := (-1 : Int32)) hx hb hr (fun t ht hW => ⟨⟨(-1 : Int32), (I, A), rfl, Option.some.inj hf, by rw [ht]; exact hP, va_K.moved hW.alike hK, hD⟩, hS.F ht⟩) hS.2.2 dX5_readNote_22
