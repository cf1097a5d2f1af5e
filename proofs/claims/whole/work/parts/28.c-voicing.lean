def fX7_keyAt (I : Nat → Int32) (L : Nat → Int64) (A : Nat → Nat → Int32)  (x1 : Int32) : Option Int32 :=
  (if x1 < 0 then (some (-1 : Int32)) else (if (I 1) ≤ x1 then (some (-1 : Int32)) else (if (12 : Int32) ≤ x1 then (some (-1 : Int32)) else (if gd x1 12 then (some ((A 0) x1.toNatClampNeg)) else none))))
set_option maxRecDepth 100000 in
set_option maxHeartbeats 4000000 in
theorem mX7_keyAt (l : Launch) (dC : Nat → ClassId) (dI : Nat → Nat → Nat) (cI : ClassId) (Q : Nat → Nat) (I : Nat → Int32) (L : Nat → Int64) (A : Nat → Nat → Int32)  (x1 : Int32) (r : Int32) (hf : fX7_keyAt I L A x1 = some r) : Met l yX7_keyAt wsX7_keyAt ({ frames := 0, cells := 0, slots := 0, locals := 0 }) (va_Pc [.ref (Q 100), .int x1] (fun U => va_P (dC, dI) vwCl (wV cI Q I L A) U.heap ∧ va_K (dC, dI) vwCl [(cI, .int)] U)) (QcRead r) 0 0 (fun _ => False) := by
  refine Met.ofW (cc := cX7_keyAt) (maxL := 2) (ret := (some .int)) (by decide) rfl ?_
  intro p e s m args below meth c s₁ BL hml hv
  obtain ⟨rfl, hP, hK⟩ := hv
  have hx := BL.exec
  have hb := BL.bytes
  have hr := BL.returns
  have hts := atoms_spec (ws := wsX7_keyAt) BL.pre
  have hown : s.vm.findClass RX7 = some m.cls := findClass_of_methodNamed BL.named
  have hlocks := BL.notSynchronized
  have hinX7 : ∀ w ∈ u_ws RX7 TX7 6, w ∈ wsX7_keyAt := by decide +kernel
  have hk9 := hts (.fieldLink RX7 9 "LeadSheets$Voicing" "keys" "[I") (by decide +kernel)
  have hk21 := hts (.fieldLink RX7 21 "LeadSheets$Voicing" "size" "I") (by decide +kernel)
  have hl := lv_entry ([.ref (Q 100), .int x1]) (n := 2) (Nat.le_of_ble_eq_true rfl)
  rw [lg_entry_eq]
  generalize (lg_sl ([.ref (Q 100), .int x1]) ++ List.replicate (2 - (lg_sl ([.ref (Q 100), .int x1])).length) Slot.unset).toArray = ls at hl ⊢
  have hl : lv_has ls 2 [(0, .ref (Q 100)), (1, .int x1)] := hl
  unfold fX7_keyAt at hf
  refine lv_iload_n hx hb dX7_keyAt_0 rfl (lv_at hl 1 rfl) ?_
  refine lv_if_lt (tgt := 30) hx hb dX7_keyAt_1 (by decide) (fun c1 => ?_) (fun c1 => ?_)
  · have hf := (if_pos c1).symm.trans hf
    refine lv_iconst (v := (-1 : Int32)) hx hb dX7_keyAt_30 (by decide) ?_
    exact W.iret (v := (-1 : Int32)) hx hb hr (fun t ht hW => ⟨congrArg (fun z => Outcome.returned (some (Value.int z))) (Option.some.inj hf), ht⟩) (fun _ h => nomatch h) dX7_keyAt_31
  · have hf := (if_neg c1).symm.trans hf
    refine lv_iload_n hx hb dX7_keyAt_4 rfl (lv_at hl 1 rfl) ?_
    refine lv_aload_n hx hb dX7_keyAt_5 rfl (lv_at hl 0 rfl) ?_
    refine va_get (D := (dC, dI)) (ci := 4) (v := .int (I 1)) (C := RX7) (T := TX7) (N := 6) hx hb hts hinX7 hown hK hP 0 rfl rfl 1 (by decide) hk21 (fun _ h9 => h9) rfl dX7_keyAt_6 ?_
    refine lv_icmp_ge (tgt := 30) hx hb dX7_keyAt_9 (by decide) (fun c2 => ?_) (fun c2 => ?_)
    · have hf := (if_pos c2).symm.trans hf
      refine lv_iconst (v := (-1 : Int32)) hx hb dX7_keyAt_30 (by decide) ?_
      exact W.iret (v := (-1 : Int32)) hx hb hr (fun t ht hW => ⟨congrArg (fun z => Outcome.returned (some (Value.int z))) (Option.some.inj hf), ht⟩) (fun _ h => nomatch h) dX7_keyAt_31
    · have hf := (if_neg c2).symm.trans hf
      refine lv_iload_n hx hb dX7_keyAt_12 rfl (lv_at hl 1 rfl) ?_
      refine lv_aload_n hx hb dX7_keyAt_13 rfl (lv_at hl 0 rfl) ?_
      refine va_get (D := (dC, dI)) (ci := 4) (v := .ref (Q 0)) (C := RX7) (T := TX7) (N := 6) hx hb hts hinX7 hown hK hP 0 rfl rfl 0 (by decide) hk9 (fun _ h9 => h9) rfl dX7_keyAt_14 ?_
      refine va_alen (v := (12 : Int32)) hx hb hK hP 1 0 rfl rfl rfl dX7_keyAt_17 ?_
      refine lv_icmp_ge (tgt := 30) hx hb dX7_keyAt_18 (by decide) (fun c3 => ?_) (fun c3 => ?_)
      · have hf := (if_pos c3).symm.trans hf
        refine lv_iconst (v := (-1 : Int32)) hx hb dX7_keyAt_30 (by decide) ?_
        exact W.iret (v := (-1 : Int32)) hx hb hr (fun t ht hW => ⟨congrArg (fun z => Outcome.returned (some (Value.int z))) (Option.some.inj hf), ht⟩) (fun _ h => nomatch h) dX7_keyAt_31
      · have hf := (if_neg c3).symm.trans hf
        refine lv_aload_n hx hb dX7_keyAt_21 rfl (lv_at hl 0 rfl) ?_
        refine va_get (D := (dC, dI)) (ci := 4) (v := .ref (Q 0)) (C := RX7) (T := TX7) (N := 6) hx hb hts hinX7 hown hK hP 0 rfl rfl 0 (by decide) hk9 (fun _ h9 => h9) rfl dX7_keyAt_22 ?_
        refine lv_iload_n hx hb dX7_keyAt_25 rfl (lv_at hl 1 rfl) ?_
        obtain ⟨g4, hf⟩ := of_ite_some hf
        refine va_iald hx hb hK hP 1 0 (n := 12) (f := (A 0)) rfl rfl g4 dX7_keyAt_26 ?_
        refine lv_goto (tgt := 31) hx hb dX7_keyAt_27 (by decide) ?_
        exact W.iret (v := ((A 0) x1.toNatClampNeg)) hx hb hr (fun t ht hW => ⟨congrArg (fun z => Outcome.returned (some (Value.int z))) (Option.some.inj hf), ht⟩) (fun _ h => nomatch h) dX7_keyAt_31
def fX7_drop  (I : Nat → Int32) (L : Nat → Int64) (A : Nat → Nat → Int32)  : Option (Int32 × (Nat → Int32) × (Nat → Int64) × (Nat → Nat → Int32)) :=
  (some ((I 1), ((upd I 1 (0 : Int32)), L, A)))
set_option maxRecDepth 100000 in
set_option maxHeartbeats 4000000 in
theorem mX7_drop (l : Launch) (dC : Nat → ClassId) (dI : Nat → Nat → Nat) (cI : ClassId) (Q : Nat → Nat)  (I : Nat → Int32) (L : Nat → Int64) (A : Nat → Nat → Int32)  (sz : Nat) (z : Int32 × (Nat → Int32) × (Nat → Int64) × (Nat → Nat → Int32)) (hf : fX7_drop I L A = some z) : Met l yX7_drop wsX7_drop ({ frames := 0, cells := 0, slots := 0, locals := 0 }) (va_Pc [.ref (Q 100)] (fun U => U.heap.size = sz ∧ va_P (dC, dI) vwCl (wV cI Q I L A) U.heap ∧ va_K (dC, dI) vwCl [(cI, .int)] U ∧ va_D (fun _ => True) (wV cI Q I L A))) (va_Qi (fun (r : Int32) (u : (Nat → Int32) × (Nat → Int64) × (Nat → Nat → Int32)) => (r, u) = z) (atV dC dI cI Q (va_A (wV cI Q I L A) sz)) (va_A (wV cI Q I L A) sz)) 0 0 (va_A (wV cI Q I L A) sz) := by
  refine Met.ofW (cc := cX7_drop) (maxL := 2) (ret := (some .int)) (by decide) rfl ?_
  intro p e s m args below meth c s₁ BL hml hv
  obtain ⟨rfl, hsz, hP, hK, hD0⟩ := hv
  have hx := BL.exec
  have hb := BL.bytes
  have hr := BL.returns
  have hts := atoms_spec (ws := wsX7_drop) BL.pre
  have hown : s.vm.findClass RX7 = some m.cls := findClass_of_methodNamed BL.named
  have hlocks := BL.notSynchronized
  have hinX7 : ∀ w ∈ u_ws RX7 TX7 6, w ∈ wsX7_drop := by decide +kernel
  have hk21 := hts (.fieldLink RX7 21 "LeadSheets$Voicing" "size" "I") (by decide +kernel)
  subst hsz
  have hD := hD0.self (sz := s.heap.size)
  generalize hAe : va_A (wV cI Q I L A) s.heap.size = AA at hD ⊢
  have hA : ∀ q : Nat, s.heap.size ≤ q → AA q := fun q h => by rw [← hAe]; exact Or.inr h
  have hS : va_S AA s.heap s.heap [] := va_S.rf
  have hl := lv_entry ([.ref (Q 100)]) (n := 2) (Nat.le_of_ble_eq_true rfl)
  rw [lg_entry_eq]
  generalize (lg_sl ([.ref (Q 100)]) ++ List.replicate (2 - (lg_sl ([.ref (Q 100)])).length) Slot.unset).toArray = ls at hl ⊢
  have hl : lv_has ls 2 [(0, .ref (Q 100))] := hl
  unfold fX7_drop at hf
  refine lv_aload_n hx hb dX7_drop_0 rfl (lv_at hl 0 rfl) ?_
  refine va_get (D := (dC, dI)) (ci := 4) (v := .int (I 1)) (C := RX7) (T := TX7) (N := 6) hx hb hts hinX7 hown hK hP 0 rfl rfl 1 (by decide) hk21 (fun _ h9 => h9) rfl dX7_drop_1 ?_
  refine lv_istore_n (lv' := [(1, .int (I 1)), (0, .ref (Q 100))]) hx hb dX7_drop_4 rfl hl (by decide) rfl (fun ls hl => ?_)
  refine lv_aload_n hx hb dX7_drop_5 rfl (lv_at hl 1 rfl) ?_
  refine lv_iconst (v := (0 : Int32)) hx hb dX7_drop_6 (by decide) ?_
  refine va_put (D := (dC, dI)) (ci := 4) (v := .int (0 : Int32)) (ty := .int) (C := RX7) (T := TX7) (N := 6) hx hb hts hinX7 tyX7 tyX7_ok nmX7 hown hK hP hD hS 0 (fs := (oV Q I L)) rfl rfl 1 (by decide) hk21 (fun _ h9 => h9) rfl (by decide +kernel) rfl rfl (Nat.le_of_ble_eq_true rfl) dX7_drop_7 (fun H locs hP hD hS => ?_)
  have hP : va_P (dC, dI) vwCl (wV cI Q (upd I 1 (0 : Int32)) L A) H := Eq.mp (congrArg (fun w => va_P (dC, dI) vwCl w H) (wVI_1 cI Q I L A (0 : Int32))) hP
  have hD : va_D AA (wV cI Q (upd I 1 (0 : Int32)) L A) := Eq.mp (congrArg (fun w => va_D AA w) (wVI_1 cI Q I L A (0 : Int32))) hD
  refine lv_iload_n hx hb dX7_drop_10 rfl (lv_at hl 0 rfl) ?_
  exact W.iret (v := (I 1)) hx hb hr (fun t ht hW => ⟨⟨(I 1), ((upd I 1 (0 : Int32)), L, A), rfl, Option.some.inj hf, by rw [ht]; exact hP, va_K.moved hW.alike hK, hD⟩, hS.F ht⟩) hS.2.2 dX7_drop_11
def fX7_nearest_16B (I : Nat → Int32) (L : Nat → Int64) (A : Nat → Nat → Int32)  (k16 : Int32 → Int32 → Int32 → Option Int32)  (v1 : Int32) (v2 : Int32) (v3 : Int32) : Option Int32 :=
  (if (I 1) ≤ v3 then (some v2) else ((fX8_entry 12 (A 0) v3).bind fun r3 => (k16 v1 (jmin v2 (jabs (v1 - r3))) (v3 + (1 : Int32)))))
def fX7_nearest_16 (I : Nat → Int32) (L : Nat → Int64) (A : Nat → Nat → Int32)  : Nat → (Int32 → Int32 → Int32 → Option Int32)
  | 0 => fun _ _ _ => none
  | n + 1 => fX7_nearest_16B I L A  (fX7_nearest_16 I L A  n)
def fX7_nearest (I : Nat → Int32) (L : Nat → Int64) (A : Nat → Nat → Int32)  (x1 : Int32) : Option Int32 :=
  (if (I 1) = 0 then (fX7_nearest_16 I L A  FU x1 (0 : Int32) (0 : Int32)) else (fX7_nearest_16 I L A  FU x1 (127 : Int32) (0 : Int32)))
set_option maxRecDepth 100000 in
set_option maxHeartbeats 4000000 in
theorem mX7_nearest (l : Launch) (en : Nat → Nat) (dC : Nat → ClassId) (dI : Nat → Nat → Nat) (cI : ClassId) (Q : Nat → Nat) (I : Nat → Int32) (L : Nat → Int64) (A : Nat → Nat → Int32)  (x1 : Int32) (r : Int32) (hf : fX7_nearest I L A x1 = some r) : Met l yX7_nearest wsX7_nearest ({ frames := 1, cells := 0, slots := 0, locals := 21 }) (va_Pc [.ref (Q 100), .int x1] (fun U => va_P (dC, dI) vwCl (wV cI Q I L A) U.heap ∧ va_K (dC, dI) vwCl [(cI, .int)] U ∧ cE en NA U U.heap)) (QcRead r) 0 0 (fun _ => False) := by
  refine Met.ofW (cc := cX7_nearest) (maxL := 4) (ret := (some .int)) (by decide) rfl ?_
  intro p e s m args below meth c s₁ BL hml hv
  obtain ⟨rfl, hP, hK, hE⟩ := hv
  have hS : va_S NA s.heap s.heap [] := va_S.rf
  have hx := BL.exec
  have hb := BL.bytes
  have hr := BL.returns
  have hts := atoms_spec (ws := wsX7_nearest) BL.pre
  have hown : s.vm.findClass RX7 = some m.cls := findClass_of_methodNamed BL.named
  have hlocks := BL.notSynchronized
  have hinX7 : ∀ w ∈ u_ws RX7 TX7 6, w ∈ wsX7_nearest := by decide +kernel
  have hk9 := hts (.fieldLink RX7 9 "LeadSheets$Voicing" "keys" "[I") (by decide +kernel)
  have hk21 := hts (.fieldLink RX7 21 "LeadSheets$Voicing" "size" "I") (by decide +kernel)
  have sg16 : ∀ n : Nat, ∀  (v1 : Int32) (v2 : Int32) (v3 : Int32) (ls : Array Slot), fX7_nearest_16 I L A  n  v1 v2 v3 = some r → lv_has ls 4 [(0, .ref (Q 100)), (1, .int v1), (2, .int v2), (3, .int v3)] → W p l e (headSpec wsX7_nearest ({ frames := 1, cells := 0, slots := 0, locals := 21 })).room s m (([.ref (Q 100), .int x1] : List Value).toArray) below meth c s.heap [] 0 0 (MQ below (QcRead r) (([.ref (Q 100), .int x1] : List Value).toArray) s 0 0 (fun _ => False)) (F0 m 16 ls []) := by
    intro n
    induction n with
    | zero => intro v1 v2 v3 ls hf hl; exact of_none hf
    | succ n ih16 =>
      intro v1 v2 v3 ls hf hl
      change fX7_nearest_16B I L A  (fX7_nearest_16 I L A  n) v1 v2 v3 = _ at hf
      unfold fX7_nearest_16B at hf
      refine lv_iload_n hx hb dX7_nearest_16 rfl (lv_at hl 3 rfl) ?_
      refine lv_aload_n hx hb dX7_nearest_17 rfl (lv_at hl 0 rfl) ?_
      refine va_get (D := (dC, dI)) (ci := 4) (v := .int (I 1)) (C := RX7) (T := TX7) (N := 6) hx hb hts hinX7 hown hK hP 0 rfl rfl 1 (by decide) hk21 (fun _ h9 => h9) rfl dX7_nearest_18 ?_
      refine lv_icmp_ge (tgt := 48) hx hb dX7_nearest_21 (by decide) (fun c2 => ?_) (fun c2 => ?_)
      · have hf := (if_pos c2).symm.trans hf
        refine lv_iload_n hx hb dX7_nearest_48 rfl (lv_at hl 2 rfl) ?_
        exact W.iret (v := v2) hx hb hr (fun t ht hW => ⟨congrArg (fun z => Outcome.returned (some (Value.int z))) (Option.some.inj hf), ht⟩) (fun _ h => nomatch h) dX7_nearest_49
      · have hf := (if_neg c2).symm.trans hf
        refine lv_iload_n hx hb dX7_nearest_24 rfl (lv_at hl 2 rfl) ?_
        refine lv_iload_n hx hb dX7_nearest_25 rfl (lv_at hl 1 rfl) ?_
        refine lv_aload_n hx hb dX7_nearest_26 rfl (lv_at hl 0 rfl) ?_
        refine va_get (D := (dC, dI)) (ci := 4) (v := .ref (Q 0)) (C := RX7) (T := TX7) (N := 6) hx hb hts hinX7 hown hK hP 0 rfl rfl 0 (by decide) hk9 (fun _ h9 => h9) rfl dX7_nearest_27 ?_
        refine lv_iload_n hx hb dX7_nearest_30 rfl (lv_at hl 3 rfl) ?_
        obtain ⟨r3, hc4, hf⟩ := of_bind_some hf
        refine W.callR (r := r3) (va_Run.run (va_runSN (host := RX8) (As := [.ref (Q 0), .int v3]) (rest := [.int v1, .int v2]) ⟨hx, hb, hml, hown, hts⟩ (mX8_entry_w l dC dI (Q 0) cI 12 (A 0) v3 r3 hc4) ⟨va_cnB 2 hts gX7_nearest_X8_entry_n41 rfl rfl rfl (hE.2.2.2.2.1 (RX7, 41, yX8_entry, RX8) (by decide +kernel)) (hts (.initialized RX8) (by decide +kernel)) (by decide +kernel) ⟨Nat.le_of_ble_eq_true rfl, Nat.le_of_ble_eq_true rfl⟩, hts (.static yX8_entry) (by decide +kernel), trivial⟩ ⟨blindR, fun U hU hW => ⟨rfl, by rw [hU]; exact hP.sub [1] rfl, va_K.moved hW.alike (hK.sub [0] rfl)⟩⟩ rfl rfl hl.1 rfl (lv_room (Nat.le_of_ble_eq_true rfl)) dX7_nearest_31 ⟨Nat.zero_le _, Nat.zero_le _⟩)) ?_
        refine W.eq (g2 := F0 m 34 ls [.int r3, .int v1, .int v2]) rfl ?_
        refine lv_isub hx hb dX7_nearest_34 ?_
        refine va_mabs hx hb (hml.trans hl.1.symm) hown (hts (.methodLink RX7 45 Lib.Math.abs.name) (by decide +kernel)) (hts (.static Lib.Math.abs.name) (by decide +kernel)) (hts (.initialized "java/lang/Math") (by decide +kernel)) (hts (.code Lib.Math.abs.name Lib.Math.abs.code 1 (some .int)) (by decide +kernel)) (Nat.le_of_ble_eq_true rfl) (Nat.le_of_ble_eq_true rfl) (Nat.zero_le _) (Nat.zero_le _) dX7_nearest_35 ?_
        refine W.eq (g2 := F0 m 38 ls [.int (jabs (v1 - r3)), .int v2]) rfl ?_
        refine va_mmin hx hb (hml.trans hl.1.symm) hown (hts (.methodLink RX7 50 Lib.Math.min.name) (by decide +kernel)) (hts (.static Lib.Math.min.name) (by decide +kernel)) (hts (.initialized "java/lang/Math") (by decide +kernel)) (hts (.code Lib.Math.min.name Lib.Math.min.code 2 (some .int)) (by decide +kernel)) (Nat.le_of_ble_eq_true rfl) (Nat.le_of_ble_eq_true rfl) (Nat.zero_le _) (Nat.zero_le _) dX7_nearest_38 ?_
        refine W.eq (g2 := F0 m 41 ls [.int (jmin v2 (jabs (v1 - r3)))]) rfl ?_
        refine lv_istore_n (lv' := [(2, .int (jmin v2 (jabs (v1 - r3)))), (0, .ref (Q 100)), (1, .int v1), (3, .int v3)]) hx hb dX7_nearest_41 rfl hl (by decide) rfl (fun ls hl => ?_)
        refine lv_iinc (v := (v3 + (1 : Int32))) (lv' := [(3, .int (v3 + (1 : Int32))), (2, .int (jmin v2 (jabs (v1 - r3)))), (0, .ref (Q 100)), (1, .int v1)]) hx hb dX7_nearest_42 hl (k := 3) rfl rfl (by decide) rfl (fun ls hl => ?_)
        refine lv_goto (tgt := 16) hx hb dX7_nearest_45 (by decide) ?_
        exact ih16 v1 (jmin v2 (jabs (v1 - r3))) (v3 + (1 : Int32)) ls hf (lv_sub hl [2, 3, 1, 0] rfl)
  have hl := lv_entry ([.ref (Q 100), .int x1]) (n := 4) (Nat.le_of_ble_eq_true rfl)
  rw [lg_entry_eq]
  generalize (lg_sl ([.ref (Q 100), .int x1]) ++ List.replicate (4 - (lg_sl ([.ref (Q 100), .int x1])).length) Slot.unset).toArray = ls at hl ⊢
  have hl : lv_has ls 4 [(0, .ref (Q 100)), (1, .int x1)] := hl
  unfold fX7_nearest at hf
  refine lv_aload_n hx hb dX7_nearest_0 rfl (lv_at hl 0 rfl) ?_
  refine va_get (D := (dC, dI)) (ci := 4) (v := .int (I 1)) (C := RX7) (T := TX7) (N := 6) hx hb hts hinX7 hown hK hP 0 rfl rfl 1 (by decide) hk21 (fun _ h9 => h9) rfl dX7_nearest_1 ?_
  refine lv_if_ne (tgt := 11) hx hb dX7_nearest_4 (by decide) (fun c1 => ?_) (fun c1 => ?_)
  · have hf := (if_neg c1).symm.trans hf
    refine lv_bipush (v := (127 : Int32)) hx hb dX7_nearest_11 (by decide) ?_
    refine lv_istore_n (lv' := [(2, .int (127 : Int32)), (0, .ref (Q 100)), (1, .int x1)]) hx hb dX7_nearest_13 rfl hl (by decide) rfl (fun ls hl => ?_)
    refine lv_iconst (v := (0 : Int32)) hx hb dX7_nearest_14 (by decide) ?_
    refine lv_istore_n (lv' := [(3, .int (0 : Int32)), (2, .int (127 : Int32)), (0, .ref (Q 100)), (1, .int x1)]) hx hb dX7_nearest_15 rfl hl (by decide) rfl (fun ls hl => ?_)
    exact sg16  FU x1 (127 : Int32) (0 : Int32) ls hf (lv_sub hl [2, 3, 1, 0] rfl)
  · have hf := (if_pos c1).symm.trans hf
    refine lv_iconst (v := (0 : Int32)) hx hb dX7_nearest_7 (by decide) ?_
    refine lv_goto (tgt := 13) hx hb dX7_nearest_8 (by decide) ?_
    refine lv_istore_n (lv' := [(2, .int (0 : Int32)), (0, .ref (Q 100)), (1, .int x1)]) hx hb dX7_nearest_13 rfl hl (by decide) rfl (fun ls hl => ?_)
    refine lv_iconst (v := (0 : Int32)) hx hb dX7_nearest_14 (by decide) ?_
    refine lv_istore_n (lv' := [(3, .int (0 : Int32)), (2, .int (0 : Int32)), (0, .ref (Q 100)), (1, .int x1)]) hx hb dX7_nearest_15 rfl hl (by decide) rfl (fun ls hl => ?_)
    exact sg16  FU x1 (0 : Int32) (0 : Int32) ls hf (lv_sub hl [2, 3, 1, 0] rfl)
def fX7_offer_17   (I : Nat → Int32) (L : Nat → Int64) (A : Nat → Nat → Int32) (v1 : Int64) (v3 : Int32) : Option ((Nat → Int32) × (Nat → Int64) × (Nat → Nat → Int32)) :=
  (some ((upd I 5 v3), (vp_updL L 4 v1), A))
def fX7_offer  (I : Nat → Int32) (L : Nat → Int64) (A : Nat → Nat → Int32) (x1 : Int64) (x3 : Int32) : Option ((Nat → Int32) × (Nat → Int64) × (Nat → Nat → Int32)) :=
  (if (lg_cmp (L 4) (0 : Int64)) = 0 then (fX7_offer_17   I L A x1 x3) else (if (I 5) ≤ x3 then (some (I, L, A)) else (fX7_offer_17   I L A x1 x3)))
set_option maxRecDepth 100000 in
set_option maxHeartbeats 4000000 in
theorem mX7_offer (l : Launch) (dC : Nat → ClassId) (dI : Nat → Nat → Nat) (cI : ClassId) (Q : Nat → Nat)  (I : Nat → Int32) (L : Nat → Int64) (A : Nat → Nat → Int32) (x1 : Int64) (x3 : Int32) (sz : Nat) (z : (Nat → Int32) × (Nat → Int64) × (Nat → Nat → Int32)) (hf : fX7_offer I L A x1 x3 = some z) : Met l yX7_offer wsX7_offer ({ frames := 0, cells := 0, slots := 0, locals := 0 }) (va_Pc [.ref (Q 100), .long x1, .int x3] (fun U => U.heap.size = sz ∧ va_P (dC, dI) vwCl (wV cI Q I L A) U.heap ∧ va_K (dC, dI) vwCl [(cI, .int)] U ∧ va_D (fun _ => True) (wV cI Q I L A))) (va_Qv (fun (u : (Nat → Int32) × (Nat → Int64) × (Nat → Nat → Int32)) => u = z) (atV dC dI cI Q (va_A (wV cI Q I L A) sz)) (va_A (wV cI Q I L A) sz)) 0 0 (va_A (wV cI Q I L A) sz) := by
  refine Met.ofW (cc := cX7_offer) (maxL := 4) (ret := none) (by decide) rfl ?_
  intro p e s m args below meth c s₁ BL hml hv
  obtain ⟨rfl, hsz, hP, hK, hD0⟩ := hv
  have hx := BL.exec
  have hb := BL.bytes
  have hr := BL.returns
  have hts := atoms_spec (ws := wsX7_offer) BL.pre
  have hown : s.vm.findClass RX7 = some m.cls := findClass_of_methodNamed BL.named
  have hlocks := BL.notSynchronized
  have hinX7 : ∀ w ∈ u_ws RX7 TX7 6, w ∈ wsX7_offer := by decide +kernel
  have hk29 := hts (.fieldLink RX7 29 "LeadSheets$Voicing" "best" "J") (by decide +kernel)
  have hk58 := hts (.fieldLink RX7 58 "LeadSheets$Voicing" "bestCost" "I") (by decide +kernel)
  subst hsz
  have hD := hD0.self (sz := s.heap.size)
  generalize hAe : va_A (wV cI Q I L A) s.heap.size = AA at hD ⊢
  have hA : ∀ q : Nat, s.heap.size ≤ q → AA q := fun q h => by rw [← hAe]; exact Or.inr h
  have hS : va_S AA s.heap s.heap [] := va_S.rf
  have sg17 : ∀ (I : Nat → Int32) (L : Nat → Int64) (A : Nat → Nat → Int32) (v1 : Int64) (v3 : Int32) (H : Heap) (locs : List Loc) (ls : Array Slot), fX7_offer_17   I L A v1 v3 = some z → va_P (dC, dI) vwCl (wV cI Q I L A) H → va_D AA (wV cI Q I L A) → va_S AA s.heap H locs → lv_has ls 4 [(0, .ref (Q 100)), (1, .long v1), (3, .int v3)] → W p l e (headSpec wsX7_offer ({ frames := 0, cells := 0, slots := 0, locals := 0 })).room s m (([.ref (Q 100), .long x1, .int x3] : List Value).toArray) below meth c H locs 0 0 (MQ below (va_Qv (fun (u : (Nat → Int32) × (Nat → Int64) × (Nat → Nat → Int32)) => u = z) (atV dC dI cI Q AA) AA) (([.ref (Q 100), .long x1, .int x3] : List Value).toArray) s 0 0 AA) (F0 m 17 ls []) := by
    intro I L A v1 v3 H locs ls hf hP hD hS hl
    unfold fX7_offer_17 at hf
    refine lv_aload_n hx hb dX7_offer_17 rfl (lv_at hl 0 rfl) ?_
    refine lv_lload_n hx hb dX7_offer_18 rfl (lv_at hl 1 rfl) ?_
    refine va_put (D := (dC, dI)) (ci := 4) (v := .long v1) (ty := .long) (C := RX7) (T := TX7) (N := 6) hx hb hts hinX7 tyX7 tyX7_ok nmX7 hown hK hP hD hS 0 (fs := (oV Q I L)) rfl rfl 4 (by decide) hk29 (fun _ h9 => h9) rfl (by decide +kernel) rfl rfl (Nat.le_of_ble_eq_true rfl) dX7_offer_19 (fun H locs hP hD hS => ?_)
    have hP : va_P (dC, dI) vwCl (wV cI Q I (vp_updL L 4 v1) A) H := Eq.mp (congrArg (fun w => va_P (dC, dI) vwCl w H) (wVL_4 cI Q I L A v1)) hP
    have hD : va_D AA (wV cI Q I (vp_updL L 4 v1) A) := Eq.mp (congrArg (fun w => va_D AA w) (wVL_4 cI Q I L A v1)) hD
    refine lv_aload_n hx hb dX7_offer_22 rfl (lv_at hl 0 rfl) ?_
    refine lv_iload_n hx hb dX7_offer_23 rfl (lv_at hl 2 rfl) ?_
    refine va_put (D := (dC, dI)) (ci := 4) (v := .int v3) (ty := .int) (C := RX7) (T := TX7) (N := 6) hx hb hts hinX7 tyX7 tyX7_ok nmX7 hown hK hP hD hS 0 (fs := (oV Q I (vp_updL L 4 v1))) rfl rfl 5 (by decide) hk58 (fun _ h9 => h9) rfl (by decide +kernel) rfl rfl (Nat.le_of_ble_eq_true rfl) dX7_offer_24 (fun H locs hP hD hS => ?_)
    have hP : va_P (dC, dI) vwCl (wV cI Q (upd I 5 v3) (vp_updL L 4 v1) A) H := Eq.mp (congrArg (fun w => va_P (dC, dI) vwCl w H) (wVI_5 cI Q I (vp_updL L 4 v1) A v3)) hP
    have hD : va_D AA (wV cI Q (upd I 5 v3) (vp_updL L 4 v1) A) := Eq.mp (congrArg (fun w => va_D AA w) (wVI_5 cI Q I (vp_updL L 4 v1) A v3)) hD
    exact W.vret hx hb hr (fun t ht hW => ⟨⟨((upd I 5 v3), (vp_updL L 4 v1), A), rfl, Option.some.inj hf, by rw [ht]; exact hP, va_K.moved hW.alike hK, hD⟩, hS.F ht⟩) hS.2.2 dX7_offer_27
  have hl := lv_entry ([.ref (Q 100), .long x1, .int x3]) (n := 4) (Nat.le_of_ble_eq_true rfl)
  rw [lg_entry_eq]
  generalize (lg_sl ([.ref (Q 100), .long x1, .int x3]) ++ List.replicate (4 - (lg_sl ([.ref (Q 100), .long x1, .int x3])).length) Slot.unset).toArray = ls at hl ⊢
  have hl : lv_has ls 4 [(0, .ref (Q 100)), (1, .long x1), (3, .int x3)] := hl
  unfold fX7_offer at hf
  refine lv_aload_n hx hb dX7_offer_0 rfl (lv_at hl 0 rfl) ?_
  refine va_get (D := (dC, dI)) (ci := 4) (v := .long (L 4)) (C := RX7) (T := TX7) (N := 6) hx hb hts hinX7 hown hK hP 0 rfl rfl 4 (by decide) hk29 (fun _ h9 => h9) rfl dX7_offer_1 ?_
  refine lv_lconst (v := (0 : Int64)) hx hb dX7_offer_4 (by decide) ?_
  refine W.lcmp hx hb dX7_offer_5 ?_
  refine lv_if_eq (tgt := 17) hx hb dX7_offer_6 (by decide) (fun c1 => ?_) (fun c1 => ?_)
  · have hf := (if_pos c1).symm.trans hf
    exact sg17  I L A x1 x3 s.heap [] ls hf hP hD hS (lv_sub hl [0, 1, 2] rfl)
  · have hf := (if_neg c1).symm.trans hf
    refine lv_iload_n hx hb dX7_offer_9 rfl (lv_at hl 2 rfl) ?_
    refine lv_aload_n hx hb dX7_offer_10 rfl (lv_at hl 0 rfl) ?_
    refine va_get (D := (dC, dI)) (ci := 4) (v := .int (I 5)) (C := RX7) (T := TX7) (N := 6) hx hb hts hinX7 hown hK hP 0 rfl rfl 5 (by decide) hk58 (fun _ h9 => h9) rfl dX7_offer_11 ?_
    refine lv_icmp_ge (tgt := 27) hx hb dX7_offer_14 (by decide) (fun c2 => ?_) (fun c2 => ?_)
    · have hf := (if_pos c2).symm.trans hf
      exact W.vret hx hb hr (fun t ht hW => ⟨⟨(I, L, A), rfl, Option.some.inj hf, by rw [ht]; exact hP, va_K.moved hW.alike hK, hD⟩, hS.F ht⟩) hS.2.2 dX7_offer_27
    · have hf := (if_neg c2).symm.trans hf
      exact sg17  I L A x1 x3 s.heap [] ls hf hP hD hS (lv_sub hl [0, 1, 2] rfl)
def fX7_take_7B   (k7 : (Nat → Int32) → (Nat → Int64) → (Nat → Nat → Int32) → Int32 → Int32 → Int32 → Option ((Nat → Int32) × (Nat → Int64) × (Nat → Nat → Int32))) (I : Nat → Int32) (L : Nat → Int64) (A : Nat → Nat → Int32) (v1 : Int32) (v2 : Int32) (v3 : Int32) : Option ((Nat → Int32) × (Nat → Int64) × (Nat → Nat → Int32)) :=
  (if v2 < v3 then (some (I, L, A)) else (if (lg_cmp (((L 4) >>> ((v3 - v1).toInt64 &&& 63)) &&& (1 : Int64)) (0 : Int64)) = 0 then (k7 I L A v1 v2 (v3 + (1 : Int32))) else (if (12 : Int32) ≤ (I 1) then (k7 I L A v1 v2 (v3 + (1 : Int32))) else (if gd (I 1) 12 then (k7 (upd I 1 ((I 1) + (1 : Int32))) L (va_up A 0 (upd (A 0) (I 1).toNatClampNeg v3)) v1 v2 (v3 + (1 : Int32))) else none))))
def fX7_take_7   : Nat → ((Nat → Int32) → (Nat → Int64) → (Nat → Nat → Int32) → Int32 → Int32 → Int32 → Option ((Nat → Int32) × (Nat → Int64) × (Nat → Nat → Int32)))
  | 0 => fun _ _ _ _ _ _ => none
  | n + 1 => fX7_take_7B   (fX7_take_7   n)
def fX7_take  (I : Nat → Int32) (L : Nat → Int64) (A : Nat → Nat → Int32) (x1 : Int32) (x2 : Int32) : Option ((Nat → Int32) × (Nat → Int64) × (Nat → Nat → Int32)) :=
  (fX7_take_7   FU (upd I 1 (0 : Int32)) L A x1 x2 x1)
set_option maxRecDepth 100000 in
set_option maxHeartbeats 4000000 in
theorem mX7_take (l : Launch) (dC : Nat → ClassId) (dI : Nat → Nat → Nat) (cI : ClassId) (Q : Nat → Nat)  (I : Nat → Int32) (L : Nat → Int64) (A : Nat → Nat → Int32) (x1 : Int32) (x2 : Int32) (sz : Nat) (z : (Nat → Int32) × (Nat → Int64) × (Nat → Nat → Int32)) (hf : fX7_take I L A x1 x2 = some z) : Met l yX7_take wsX7_take ({ frames := 0, cells := 0, slots := 0, locals := 0 }) (va_Pc [.ref (Q 100), .int x1, .int x2] (fun U => U.heap.size = sz ∧ va_P (dC, dI) vwCl (wV cI Q I L A) U.heap ∧ va_K (dC, dI) vwCl [(cI, .int)] U ∧ va_D (fun _ => True) (wV cI Q I L A))) (va_Qv (fun (u : (Nat → Int32) × (Nat → Int64) × (Nat → Nat → Int32)) => u = z) (atV dC dI cI Q (va_A (wV cI Q I L A) sz)) (va_A (wV cI Q I L A) sz)) 0 0 (va_A (wV cI Q I L A) sz) := by
  refine Met.ofW (cc := cX7_take) (maxL := 4) (ret := none) (by decide) rfl ?_
  intro p e s m args below meth c s₁ BL hml hv
  obtain ⟨rfl, hsz, hP, hK, hD0⟩ := hv
  have hx := BL.exec
  have hb := BL.bytes
  have hr := BL.returns
  have hts := atoms_spec (ws := wsX7_take) BL.pre
  have hown : s.vm.findClass RX7 = some m.cls := findClass_of_methodNamed BL.named
  have hlocks := BL.notSynchronized
  have hinX7 : ∀ w ∈ u_ws RX7 TX7 6, w ∈ wsX7_take := by decide +kernel
  have hk9 := hts (.fieldLink RX7 9 "LeadSheets$Voicing" "keys" "[I") (by decide +kernel)
  have hk21 := hts (.fieldLink RX7 21 "LeadSheets$Voicing" "size" "I") (by decide +kernel)
  have hk29 := hts (.fieldLink RX7 29 "LeadSheets$Voicing" "best" "J") (by decide +kernel)
  subst hsz
  have hD := hD0.self (sz := s.heap.size)
  generalize hAe : va_A (wV cI Q I L A) s.heap.size = AA at hD ⊢
  have hA : ∀ q : Nat, s.heap.size ≤ q → AA q := fun q h => by rw [← hAe]; exact Or.inr h
  have hS : va_S AA s.heap s.heap [] := va_S.rf
  have sg7 : ∀ n : Nat, ∀ (I : Nat → Int32) (L : Nat → Int64) (A : Nat → Nat → Int32) (v1 : Int32) (v2 : Int32) (v3 : Int32) (H : Heap) (locs : List Loc) (ls : Array Slot), fX7_take_7   n I L A v1 v2 v3 = some z → va_P (dC, dI) vwCl (wV cI Q I L A) H → va_D AA (wV cI Q I L A) → va_S AA s.heap H locs → lv_has ls 4 [(0, .ref (Q 100)), (1, .int v1), (2, .int v2), (3, .int v3)] → W p l e (headSpec wsX7_take ({ frames := 0, cells := 0, slots := 0, locals := 0 })).room s m (([.ref (Q 100), .int x1, .int x2] : List Value).toArray) below meth c H locs 0 0 (MQ below (va_Qv (fun (u : (Nat → Int32) × (Nat → Int64) × (Nat → Nat → Int32)) => u = z) (atV dC dI cI Q AA) AA) (([.ref (Q 100), .int x1, .int x2] : List Value).toArray) s 0 0 AA) (F0 m 7 ls []) := by
    intro n
    induction n with
    | zero => intro I L A v1 v2 v3 H locs ls hf hP hD hS hl; exact of_none hf
    | succ n ih7 =>
      intro I L A v1 v2 v3 H locs ls hf hP hD hS hl
      change fX7_take_7B   (fX7_take_7   n) I L A v1 v2 v3 = _ at hf
      unfold fX7_take_7B at hf
      refine lv_iload_n hx hb dX7_take_7 rfl (lv_at hl 3 rfl) ?_
      refine lv_iload_n hx hb dX7_take_8 rfl (lv_at hl 2 rfl) ?_
      refine lv_icmp_gt (tgt := 65) hx hb dX7_take_9 (by decide) (fun c1 => ?_) (fun c1 => ?_)
      · have hf := (if_pos c1).symm.trans hf
        exact W.vret hx hb hr (fun t ht hW => ⟨⟨(I, L, A), rfl, Option.some.inj hf, by rw [ht]; exact hP, va_K.moved hW.alike hK, hD⟩, hS.F ht⟩) hS.2.2 dX7_take_65
      · have hf := (if_neg c1).symm.trans hf
        refine lv_aload_n hx hb dX7_take_12 rfl (lv_at hl 0 rfl) ?_
        refine va_get (D := (dC, dI)) (ci := 4) (v := .long (L 4)) (C := RX7) (T := TX7) (N := 6) hx hb hts hinX7 hown hK hP 0 rfl rfl 4 (by decide) hk29 (fun _ h9 => h9) rfl dX7_take_13 ?_
        refine lv_iload_n hx hb dX7_take_16 rfl (lv_at hl 3 rfl) ?_
        refine lv_iload_n hx hb dX7_take_17 rfl (lv_at hl 1 rfl) ?_
        refine lv_isub hx hb dX7_take_18 ?_
        refine lv_lshr (v := ((L 4) >>> ((v3 - v1).toInt64 &&& 63))) hx hb dX7_take_19 rfl ?_
        refine lv_lconst (v := (1 : Int64)) hx hb dX7_take_20 (by decide) ?_
        refine lv_land hx hb dX7_take_21 ?_
        refine lv_lconst (v := (0 : Int64)) hx hb dX7_take_22 (by decide) ?_
        refine W.lcmp hx hb dX7_take_23 ?_
        refine lv_if_eq (tgt := 59) hx hb dX7_take_24 (by decide) (fun c2 => ?_) (fun c2 => ?_)
        · have hf := (if_pos c2).symm.trans hf
          refine lv_iinc (v := (v3 + (1 : Int32))) (lv' := [(3, .int (v3 + (1 : Int32))), (0, .ref (Q 100)), (1, .int v1), (2, .int v2)]) hx hb dX7_take_59 hl (k := 3) rfl rfl (by decide) rfl (fun ls hl => ?_)
          refine lv_goto (tgt := 7) hx hb dX7_take_62 (by decide) ?_
          exact ih7 I L A v1 v2 (v3 + (1 : Int32)) H locs ls hf hP hD hS (lv_sub hl [1, 2, 3, 0] rfl)
        · have hf := (if_neg c2).symm.trans hf
          refine lv_aload_n hx hb dX7_take_27 rfl (lv_at hl 0 rfl) ?_
          refine va_get (D := (dC, dI)) (ci := 4) (v := .int (I 1)) (C := RX7) (T := TX7) (N := 6) hx hb hts hinX7 hown hK hP 0 rfl rfl 1 (by decide) hk21 (fun _ h9 => h9) rfl dX7_take_28 ?_
          refine lv_aload_n hx hb dX7_take_31 rfl (lv_at hl 0 rfl) ?_
          refine va_get (D := (dC, dI)) (ci := 4) (v := .ref (Q 0)) (C := RX7) (T := TX7) (N := 6) hx hb hts hinX7 hown hK hP 0 rfl rfl 0 (by decide) hk9 (fun _ h9 => h9) rfl dX7_take_32 ?_
          refine va_alen (v := (12 : Int32)) hx hb hK hP 1 0 rfl rfl rfl dX7_take_35 ?_
          refine lv_icmp_ge (tgt := 59) hx hb dX7_take_36 (by decide) (fun c3 => ?_) (fun c3 => ?_)
          · have hf := (if_pos c3).symm.trans hf
            refine lv_iinc (v := (v3 + (1 : Int32))) (lv' := [(3, .int (v3 + (1 : Int32))), (0, .ref (Q 100)), (1, .int v1), (2, .int v2)]) hx hb dX7_take_59 hl (k := 3) rfl rfl (by decide) rfl (fun ls hl => ?_)
            refine lv_goto (tgt := 7) hx hb dX7_take_62 (by decide) ?_
            exact ih7 I L A v1 v2 (v3 + (1 : Int32)) H locs ls hf hP hD hS (lv_sub hl [1, 2, 3, 0] rfl)
          · have hf := (if_neg c3).symm.trans hf
            refine lv_aload_n hx hb dX7_take_39 rfl (lv_at hl 0 rfl) ?_
            refine va_get (D := (dC, dI)) (ci := 4) (v := .ref (Q 0)) (C := RX7) (T := TX7) (N := 6) hx hb hts hinX7 hown hK hP 0 rfl rfl 0 (by decide) hk9 (fun _ h9 => h9) rfl dX7_take_40 ?_
            refine lv_aload_n hx hb dX7_take_43 rfl (lv_at hl 0 rfl) ?_
            refine va_get (D := (dC, dI)) (ci := 4) (v := .int (I 1)) (C := RX7) (T := TX7) (N := 6) hx hb hts hinX7 hown hK hP 0 rfl rfl 1 (by decide) hk21 (fun _ h9 => h9) rfl dX7_take_44 ?_
            refine lv_iload_n hx hb dX7_take_47 rfl (lv_at hl 3 rfl) ?_
            obtain ⟨g4, hf⟩ := of_ite_some hf
            refine va_iast hx hb hK hP hD hS 1 0 (n := 12) (f := (A 0)) rfl rfl g4 dX7_take_48 (fun H locs hP hD hS => ?_)
            have hP : va_P (dC, dI) vwCl (wV cI Q I L (va_up A 0 (upd (A 0) (I 1).toNatClampNeg v3))) H := Eq.mp (congrArg (fun w => va_P (dC, dI) vwCl w H) (wVA_0 cI Q I L A (upd (A 0) (I 1).toNatClampNeg v3))) hP
            have hD : va_D AA (wV cI Q I L (va_up A 0 (upd (A 0) (I 1).toNatClampNeg v3))) := Eq.mp (congrArg (fun w => va_D AA w) (wVA_0 cI Q I L A (upd (A 0) (I 1).toNatClampNeg v3))) hD
            refine lv_aload_n hx hb dX7_take_49 rfl (lv_at hl 0 rfl) ?_
            refine lv_dup hx hb dX7_take_50 rfl ?_
            refine va_get (D := (dC, dI)) (ci := 4) (v := .int (I 1)) (C := RX7) (T := TX7) (N := 6) hx hb hts hinX7 hown hK hP 0 rfl rfl 1 (by decide) hk21 (fun _ h9 => h9) rfl dX7_take_51 ?_
            refine lv_iconst (v := (1 : Int32)) hx hb dX7_take_54 (by decide) ?_
            refine lv_iadd hx hb dX7_take_55 ?_
            refine va_put (D := (dC, dI)) (ci := 4) (v := .int ((I 1) + (1 : Int32))) (ty := .int) (C := RX7) (T := TX7) (N := 6) hx hb hts hinX7 tyX7 tyX7_ok nmX7 hown hK hP hD hS 0 (fs := (oV Q I L)) rfl rfl 1 (by decide) hk21 (fun _ h9 => h9) rfl (by decide +kernel) rfl rfl (Nat.le_of_ble_eq_true rfl) dX7_take_56 (fun H locs hP hD hS => ?_)
            have hP : va_P (dC, dI) vwCl (wV cI Q (upd I 1 ((I 1) + (1 : Int32))) L (va_up A 0 (upd (A 0) (I 1).toNatClampNeg v3))) H := Eq.mp (congrArg (fun w => va_P (dC, dI) vwCl w H) (wVI_1 cI Q I L (va_up A 0 (upd (A 0) (I 1).toNatClampNeg v3)) ((I 1) + (1 : Int32)))) hP
            have hD : va_D AA (wV cI Q (upd I 1 ((I 1) + (1 : Int32))) L (va_up A 0 (upd (A 0) (I 1).toNatClampNeg v3))) := Eq.mp (congrArg (fun w => va_D AA w) (wVI_1 cI Q I L (va_up A 0 (upd (A 0) (I 1).toNatClampNeg v3)) ((I 1) + (1 : Int32)))) hD
            refine lv_iinc (v := (v3 + (1 : Int32))) (lv' := [(3, .int (v3 + (1 : Int32))), (0, .ref (Q 100)), (1, .int v1), (2, .int v2)]) hx hb dX7_take_59 hl (k := 3) rfl rfl (by decide) rfl (fun ls hl => ?_)
            refine lv_goto (tgt := 7) hx hb dX7_take_62 (by decide) ?_
            exact ih7 (upd I 1 ((I 1) + (1 : Int32))) L (va_up A 0 (upd (A 0) (I 1).toNatClampNeg v3)) v1 v2 (v3 + (1 : Int32)) H locs ls hf hP hD hS (lv_sub hl [1, 2, 3, 0] rfl)
  have hl := lv_entry ([.ref (Q 100), .int x1, .int x2]) (n := 4) (Nat.le_of_ble_eq_true rfl)
  rw [lg_entry_eq]
  generalize (lg_sl ([.ref (Q 100), .int x1, .int x2]) ++ List.replicate (4 - (lg_sl ([.ref (Q 100), .int x1, .int x2])).length) Slot.unset).toArray = ls at hl ⊢
  have hl : lv_has ls 4 [(0, .ref (Q 100)), (1, .int x1), (2, .int x2)] := hl
  unfold fX7_take at hf
  refine lv_aload_n hx hb dX7_take_0 rfl (lv_at hl 0 rfl) ?_
  refine lv_iconst (v := (0 : Int32)) hx hb dX7_take_1 (by decide) ?_
  refine va_put (D := (dC, dI)) (ci := 4) (v := .int (0 : Int32)) (ty := .int) (C := RX7) (T := TX7) (N := 6) hx hb hts hinX7 tyX7 tyX7_ok nmX7 hown hK hP hD hS 0 (fs := (oV Q I L)) rfl rfl 1 (by decide) hk21 (fun _ h9 => h9) rfl (by decide +kernel) rfl rfl (Nat.le_of_ble_eq_true rfl) dX7_take_2 (fun H locs hP hD hS => ?_)
  have hP : va_P (dC, dI) vwCl (wV cI Q (upd I 1 (0 : Int32)) L A) H := Eq.mp (congrArg (fun w => va_P (dC, dI) vwCl w H) (wVI_1 cI Q I L A (0 : Int32))) hP
  have hD : va_D AA (wV cI Q (upd I 1 (0 : Int32)) L A) := Eq.mp (congrArg (fun w => va_D AA w) (wVI_1 cI Q I L A (0 : Int32))) hD
  refine lv_iload_n hx hb dX7_take_5 rfl (lv_at hl 1 rfl) ?_
  refine lv_istore_n (lv' := [(3, .int x1), (0, .ref (Q 100)), (1, .int x1), (2, .int x2)]) hx hb dX7_take_6 rfl hl (by decide) rfl (fun ls hl => ?_)
  exact sg7  FU (upd I 1 (0 : Int32)) L A x1 x2 x1 H locs ls hf hP hD hS (lv_sub hl [1, 2, 3, 0] rfl)
def fX7_climb_137  (k12 : (Nat → Int32) → (Nat → Int64) → (Nat → Nat → Int32) → Int32 → Int32 → Int32 → Int32 → Int32 → Int32 → Int64 → Int32 → Option ((Nat → Int32) × (Nat → Int64) × (Nat → Nat → Int32))) (I : Nat → Int32) (L : Nat → Int64) (A : Nat → Nat → Int32) (v1 : Int32) (v2 : Int32) (v3 : Int32) (v4 : Int32) (v5 : Int32) (v6 : Int32) (v7 : Int64) (v9 : Int32) (v10 : Int32) (v11 : Int32) : Option ((Nat → Int32) × (Nat → Int64) × (Nat → Nat → Int32)) :=
  (if gd v10 12 then ((fX8_entry 128 (A 2) v9).bind fun r17 => (if (v5 &&& (v11 ^^^ (-1 : Int32))) = 0 then ((fX7_offer I L (va_up A 3 (upd (A 3) v10.toNatClampNeg v9)) (v7 ||| ((1 : Int64) <<< ((v9 - v3).toInt64 &&& 63))) ((v9 - v2) + (v6 + r17))).bind fun (I21, L22, A23) => (k12 I21 L22 A23 v1 v2 v3 v4 (v5 &&& (v11 ^^^ (-1 : Int32))) (v6 + r17) (v7 ||| ((1 : Int64) <<< ((v9 - v3).toInt64 &&& 63))) (v9 + (1 : Int32)))) else (k12 I L (va_up A 3 (upd (A 3) v10.toNatClampNeg v9)) v1 v2 v3 v4 (v5 &&& (v11 ^^^ (-1 : Int32))) (v6 + r17) (v7 ||| ((1 : Int64) <<< ((v9 - v3).toInt64 &&& 63))) (v9 + (1 : Int32))))) else none)
def fX7_climb_52  (k12 : (Nat → Int32) → (Nat → Int64) → (Nat → Nat → Int32) → Int32 → Int32 → Int32 → Int32 → Int32 → Int32 → Int64 → Int32 → Option ((Nat → Int32) × (Nat → Int64) × (Nat → Nat → Int32))) (I : Nat → Int32) (L : Nat → Int64) (A : Nat → Nat → Int32) (v1 : Int32) (v2 : Int32) (v3 : Int32) (v4 : Int32) (v5 : Int32) (v6 : Int32) (v7 : Int64) (v9 : Int32) (v10 : Int32) (v11 : Int32) (t0 : Int32) : Option ((Nat → Int32) × (Nat → Int64) × (Nat → Nat → Int32)) :=
  (if t0 = 0 then (if (v1 &&& v11) = 0 then (k12 I L A v1 v2 v3 v4 v5 v6 v7 (v9 + (1 : Int32))) else (if (v5 &&& v11) = 0 then ((fX8_entry 12 (A 3) v10).bind fun r7 => ((fX8_entry 128 (A 2) v9).bind fun r9 => ((fX8_entry 128 (A 2) r7).bind fun r11 => (if r9 < r11 then ((fX8_entry 128 (A 2) r7).bind fun r14 => (fX7_climb_137  k12 I L A v1 v2 v3 v4 v5 (v6 - r14) (v7 ^^^ ((1 : Int64) <<< ((r7 - v3).toInt64 &&& 63))) v9 v10 v11)) else (k12 I L A v1 v2 v3 v4 v5 v6 v7 (v9 + (1 : Int32))))))) else (fX7_climb_137  k12 I L A v1 v2 v3 v4 v5 v6 v7 v9 v10 v11))) else (k12 I L A v1 v2 v3 v4 v5 v6 v7 (v9 + (1 : Int32))))
def fX7_climb_12B   (k12 : (Nat → Int32) → (Nat → Int64) → (Nat → Nat → Int32) → Int32 → Int32 → Int32 → Int32 → Int32 → Int32 → Int64 → Int32 → Option ((Nat → Int32) × (Nat → Int64) × (Nat → Nat → Int32))) (I : Nat → Int32) (L : Nat → Int64) (A : Nat → Nat → Int32) (v1 : Int32) (v2 : Int32) (v3 : Int32) (v4 : Int32) (v5 : Int32) (v6 : Int32) (v7 : Int64) (v9 : Int32) : Option ((Nat → Int32) × (Nat → Int64) × (Nat → Nat → Int32)) :=
  (if v4 < v9 then (some (I, L, A)) else (if v9 ≤ v2 then (fX7_climb_52  k12 I L A v1 v2 v3 v4 v5 v6 v7 v9 (jrem v9 (12 : Int32)) ((1 : Int32) <<< ((jrem v9 (12 : Int32)) &&& 31)) (0 : Int32)) else (if (jrem v9 (12 : Int32)) = (jrem v2 (12 : Int32)) then (fX7_climb_52  k12 I L A v1 v2 v3 v4 v5 v6 v7 v9 (jrem v9 (12 : Int32)) ((1 : Int32) <<< ((jrem v9 (12 : Int32)) &&& 31)) (1 : Int32)) else (fX7_climb_52  k12 I L A v1 v2 v3 v4 v5 v6 v7 v9 (jrem v9 (12 : Int32)) ((1 : Int32) <<< ((jrem v9 (12 : Int32)) &&& 31)) (0 : Int32)))))
def fX7_climb_12   : Nat → ((Nat → Int32) → (Nat → Int64) → (Nat → Nat → Int32) → Int32 → Int32 → Int32 → Int32 → Int32 → Int32 → Int64 → Int32 → Option ((Nat → Int32) × (Nat → Int64) × (Nat → Nat → Int32)))
  | 0 => fun _ _ _ _ _ _ _ _ _ _ _ => none
  | n + 1 => fX7_climb_12B   (fX7_climb_12   n)
def fX7_climb  (I : Nat → Int32) (L : Nat → Int64) (A : Nat → Nat → Int32) (x1 : Int32) (x2 : Int32) (x3 : Int32) (x4 : Int32) : Option ((Nat → Int32) × (Nat → Int64) × (Nat → Nat → Int32)) :=
  (fX7_climb_12   FU I L A x1 x2 x3 x4 x1 (0 : Int32) (0 : Int64) x2)
set_option maxRecDepth 100000 in
set_option maxHeartbeats 4000000 in
theorem mX7_climb (l : Launch) (en : Nat → Nat) (dC : Nat → ClassId) (dI : Nat → Nat → Nat) (cI : ClassId) (Q : Nat → Nat)  (I : Nat → Int32) (L : Nat → Int64) (A : Nat → Nat → Int32) (x1 : Int32) (x2 : Int32) (x3 : Int32) (x4 : Int32) (sz : Nat) (z : (Nat → Int32) × (Nat → Int64) × (Nat → Nat → Int32)) (hf : fX7_climb I L A x1 x2 x3 x4 = some z) : Met l yX7_climb wsX7_climb ({ frames := 1, cells := 0, slots := 0, locals := 23 }) (va_Pc [.ref (Q 100), .int x1, .int x2, .int x3, .int x4] (fun U => U.heap.size = sz ∧ va_P (dC, dI) vwCl (wV cI Q I L A) U.heap ∧ va_K (dC, dI) vwCl [(cI, .int)] U ∧ va_D (fun _ => True) (wV cI Q I L A) ∧ cE en (va_A (wV cI Q I L A) sz) U U.heap)) (va_Qv (fun (u : (Nat → Int32) × (Nat → Int64) × (Nat → Nat → Int32)) => u = z) (atV dC dI cI Q (va_A (wV cI Q I L A) sz)) (va_A (wV cI Q I L A) sz)) 0 0 (va_A (wV cI Q I L A) sz) := by
  refine Met.ofW (cc := cX7_climb) (maxL := 14) (ret := none) (by decide) rfl ?_
  intro p e s m args below meth c s₁ BL hml hv
  obtain ⟨rfl, hsz, hP, hK, hD0, hE⟩ := hv
  have hx := BL.exec
  have hb := BL.bytes
  have hr := BL.returns
  have hts := atoms_spec (ws := wsX7_climb) BL.pre
  have hown : s.vm.findClass RX7 = some m.cls := findClass_of_methodNamed BL.named
  have hlocks := BL.notSynchronized
  have hinX7 : ∀ w ∈ u_ws RX7 TX7 6, w ∈ wsX7_climb := by decide +kernel
  have hk15 := hts (.fieldLink RX7 15 "LeadSheets$Voicing" "away" "[I") (by decide +kernel)
  have hk18 := hts (.fieldLink RX7 18 "LeadSheets$Voicing" "chosen" "[I") (by decide +kernel)
  subst hsz
  have hD := hD0.self (sz := s.heap.size)
  generalize hAe : va_A (wV cI Q I L A) s.heap.size = AA at hD hE ⊢
  have hA : ∀ q : Nat, s.heap.size ≤ q → AA q := fun q h => by rw [← hAe]; exact Or.inr h
  have hS : va_S AA s.heap s.heap [] := va_S.rf
  have sg137 : ∀ (k12 : (Nat → Int32) → (Nat → Int64) → (Nat → Nat → Int32) → Int32 → Int32 → Int32 → Int32 → Int32 → Int32 → Int64 → Int32 → Option ((Nat → Int32) × (Nat → Int64) × (Nat → Nat → Int32))), (∀ (I : Nat → Int32) (L : Nat → Int64) (A : Nat → Nat → Int32) (v1 : Int32) (v2 : Int32) (v3 : Int32) (v4 : Int32) (v5 : Int32) (v6 : Int32) (v7 : Int64) (v9 : Int32) (H : Heap) (locs : List Loc) (ls : Array Slot), k12 I L A v1 v2 v3 v4 v5 v6 v7 v9 = some z → va_P (dC, dI) vwCl (wV cI Q I L A) H → va_D AA (wV cI Q I L A) → va_S AA s.heap H locs → lv_has ls 14 [(0, .ref (Q 100)), (1, .int v1), (2, .int v2), (3, .int v3), (4, .int v4), (5, .int v5), (6, .int v6), (7, .long v7), (9, .int v9)] → W p l e (headSpec wsX7_climb ({ frames := 1, cells := 0, slots := 0, locals := 23 })).room s m (([.ref (Q 100), .int x1, .int x2, .int x3, .int x4] : List Value).toArray) below meth c H locs 0 0 (MQ below (va_Qv (fun (u : (Nat → Int32) × (Nat → Int64) × (Nat → Nat → Int32)) => u = z) (atV dC dI cI Q AA) AA) (([.ref (Q 100), .int x1, .int x2, .int x3, .int x4] : List Value).toArray) s 0 0 AA) (F0 m 12 ls [])) → ∀ (I : Nat → Int32) (L : Nat → Int64) (A : Nat → Nat → Int32) (v1 : Int32) (v2 : Int32) (v3 : Int32) (v4 : Int32) (v5 : Int32) (v6 : Int32) (v7 : Int64) (v9 : Int32) (v10 : Int32) (v11 : Int32) (H : Heap) (locs : List Loc) (ls : Array Slot), fX7_climb_137  k12 I L A v1 v2 v3 v4 v5 v6 v7 v9 v10 v11 = some z → va_P (dC, dI) vwCl (wV cI Q I L A) H → va_D AA (wV cI Q I L A) → va_S AA s.heap H locs → lv_has ls 14 [(0, .ref (Q 100)), (1, .int v1), (2, .int v2), (3, .int v3), (4, .int v4), (5, .int v5), (6, .int v6), (7, .long v7), (9, .int v9), (10, .int v10), (11, .int v11)] → W p l e (headSpec wsX7_climb ({ frames := 1, cells := 0, slots := 0, locals := 23 })).room s m (([.ref (Q 100), .int x1, .int x2, .int x3, .int x4] : List Value).toArray) below meth c H locs 0 0 (MQ below (va_Qv (fun (u : (Nat → Int32) × (Nat → Int64) × (Nat → Nat → Int32)) => u = z) (atV dC dI cI Q AA) AA) (([.ref (Q 100), .int x1, .int x2, .int x3, .int x4] : List Value).toArray) s 0 0 AA) (F0 m 137 ls []) := by
    intro k12 ih12
    intro I L A v1 v2 v3 v4 v5 v6 v7 v9 v10 v11 H locs ls hf hP hD hS hl
    unfold fX7_climb_137 at hf
    refine lv_iload hx hb dX7_climb_137 (lv_at hl 5 rfl) ?_
    refine lv_iload hx hb dX7_climb_139 (lv_at hl 10 rfl) ?_
    refine lv_iconst (v := (-1 : Int32)) hx hb dX7_climb_141 (by decide) ?_
    refine lv_ixor hx hb dX7_climb_142 ?_
    refine lv_iand hx hb dX7_climb_143 ?_
    refine lv_istore (lv' := [(5, .int (v5 &&& (v11 ^^^ (-1 : Int32)))), (0, .ref (Q 100)), (1, .int v1), (2, .int v2), (3, .int v3), (4, .int v4), (6, .int v6), (7, .long v7), (9, .int v9), (10, .int v10), (11, .int v11)]) hx hb dX7_climb_144 hl (by decide) rfl (fun ls hl => ?_)
    refine lv_aload_n hx hb dX7_climb_146 rfl (lv_at hl 1 rfl) ?_
    refine va_get (D := (dC, dI)) (ci := 4) (v := .ref (Q 3)) (C := RX7) (T := TX7) (N := 6) hx hb hts hinX7 hown hK hP 0 rfl rfl 3 (by decide) hk18 (fun _ h9 => h9) rfl dX7_climb_147 ?_
    refine lv_iload hx hb dX7_climb_150 (lv_at hl 9 rfl) ?_
    refine lv_iload hx hb dX7_climb_152 (lv_at hl 8 rfl) ?_
    obtain ⟨g16, hf⟩ := of_ite_some hf
    refine va_iast hx hb hK hP hD hS 3 0 (n := 12) (f := (A 3)) rfl rfl g16 dX7_climb_154 (fun H locs hP hD hS => ?_)
    have hP : va_P (dC, dI) vwCl (wV cI Q I L (va_up A 3 (upd (A 3) v10.toNatClampNeg v9))) H := Eq.mp (congrArg (fun w => va_P (dC, dI) vwCl w H) (wVA_3 cI Q I L A (upd (A 3) v10.toNatClampNeg v9))) hP
    have hD : va_D AA (wV cI Q I L (va_up A 3 (upd (A 3) v10.toNatClampNeg v9))) := Eq.mp (congrArg (fun w => va_D AA w) (wVA_3 cI Q I L A (upd (A 3) v10.toNatClampNeg v9))) hD
    refine lv_iload hx hb dX7_climb_155 (lv_at hl 6 rfl) ?_
    refine lv_aload_n hx hb dX7_climb_157 rfl (lv_at hl 1 rfl) ?_
    refine va_get (D := (dC, dI)) (ci := 4) (v := .ref (Q 2)) (C := RX7) (T := TX7) (N := 6) hx hb hts hinX7 hown hK hP 0 rfl rfl 2 (by decide) hk15 (fun _ h9 => h9) rfl dX7_climb_158 ?_
    refine lv_iload hx hb dX7_climb_161 (lv_at hl 8 rfl) ?_
    obtain ⟨r17, hc18, hf⟩ := of_bind_some hf
    refine W.callR (r := r17) (va_Run.run (va_runSN (host := RX8) (As := [.ref (Q 2), .int v9]) (rest := [.int v6]) ⟨hx, hb, hml, hown, hts⟩ (mX8_entry_w l dC dI (Q 2) cI 128 (A 2) v9 r17 hc18) ⟨va_cnB 2 hts gX7_climb_X8_entry_n41 rfl rfl rfl (hE.2.2.2.2.1 (RX7, 41, yX8_entry, RX8) (by decide +kernel)) (hts (.initialized RX8) (by decide +kernel)) (by decide +kernel) ⟨Nat.le_of_ble_eq_true rfl, Nat.le_of_ble_eq_true rfl⟩, hts (.static yX8_entry) (by decide +kernel), trivial⟩ ⟨blindR, fun U hU hW => ⟨rfl, by rw [hU]; exact hP.sub [2] rfl, va_K.moved hW.alike (hK.sub [0] rfl)⟩⟩ rfl rfl hl.1 rfl (lv_room (Nat.le_of_ble_eq_true rfl)) dX7_climb_163 ⟨Nat.zero_le _, Nat.zero_le _⟩)) ?_
    refine W.eq (g2 := F0 m 166 ls [.int r17, .int v6]) rfl ?_
    refine lv_iadd hx hb dX7_climb_166 ?_
    refine lv_istore (lv' := [(6, .int (v6 + r17)), (5, .int (v5 &&& (v11 ^^^ (-1 : Int32)))), (0, .ref (Q 100)), (1, .int v1), (2, .int v2), (3, .int v3), (4, .int v4), (7, .long v7), (9, .int v9), (10, .int v10), (11, .int v11)]) hx hb dX7_climb_167 hl (by decide) rfl (fun ls hl => ?_)
    refine lv_lload hx hb dX7_climb_169 (lv_at hl 7 rfl) ?_
    refine lv_lconst (v := (1 : Int64)) hx hb dX7_climb_171 (by decide) ?_
    refine lv_iload hx hb dX7_climb_172 (lv_at hl 8 rfl) ?_
    refine lv_iload_n hx hb dX7_climb_174 rfl (lv_at hl 5 rfl) ?_
    refine lv_isub hx hb dX7_climb_175 ?_
    refine lv_lshl (v := ((1 : Int64) <<< ((v9 - v3).toInt64 &&& 63))) hx hb dX7_climb_176 rfl ?_
    refine lv_lor hx hb dX7_climb_177 ?_
    refine lv_lstore (lv' := [(7, .long (v7 ||| ((1 : Int64) <<< ((v9 - v3).toInt64 &&& 63)))), (6, .int (v6 + r17)), (5, .int (v5 &&& (v11 ^^^ (-1 : Int32)))), (0, .ref (Q 100)), (1, .int v1), (2, .int v2), (3, .int v3), (4, .int v4), (9, .int v9), (10, .int v10), (11, .int v11)]) hx hb dX7_climb_178 hl (by decide) rfl (fun ls hl => ?_)
    refine lv_iload hx hb dX7_climb_180 (lv_at hl 2 rfl) ?_
    refine lv_if_ne (tgt := 198) hx hb dX7_climb_182 (by decide) (fun c19 => ?_) (fun c19 => ?_)
    · have hf := (if_neg c19).symm.trans hf
      refine lv_iinc (v := (v9 + (1 : Int32))) (lv' := [(9, .int (v9 + (1 : Int32))), (7, .long (v7 ||| ((1 : Int64) <<< ((v9 - v3).toInt64 &&& 63)))), (6, .int (v6 + r17)), (5, .int (v5 &&& (v11 ^^^ (-1 : Int32)))), (0, .ref (Q 100)), (1, .int v1), (2, .int v2), (3, .int v3), (4, .int v4), (10, .int v10), (11, .int v11)]) hx hb dX7_climb_198 hl (k := 8) rfl rfl (by decide) rfl (fun ls hl => ?_)
      refine lv_goto (tgt := 12) hx hb dX7_climb_201 (by decide) ?_
      exact ih12 I L (va_up A 3 (upd (A 3) v10.toNatClampNeg v9)) v1 v2 v3 v4 (v5 &&& (v11 ^^^ (-1 : Int32))) (v6 + r17) (v7 ||| ((1 : Int64) <<< ((v9 - v3).toInt64 &&& 63))) (v9 + (1 : Int32)) H locs ls hf hP hD hS (lv_sub hl [4, 5, 6, 7, 8, 3, 2, 1, 0] rfl)
    · have hf := (if_pos c19).symm.trans hf
      refine lv_aload_n hx hb dX7_climb_185 rfl (lv_at hl 3 rfl) ?_
      refine lv_lload hx hb dX7_climb_186 (lv_at hl 0 rfl) ?_
      refine lv_iload hx hb dX7_climb_188 (lv_at hl 8 rfl) ?_
      refine lv_iload_n hx hb dX7_climb_190 rfl (lv_at hl 5 rfl) ?_
      refine lv_isub hx hb dX7_climb_191 ?_
      refine lv_iload hx hb dX7_climb_192 (lv_at hl 1 rfl) ?_
      refine lv_iadd hx hb dX7_climb_194 ?_
      obtain ⟨⟨I21, L22, A23⟩, hc20, hf⟩ := of_bind_some hf
      have hF24 := va_freeAll hD hS hA
      refine va_callv (va_runV (As := [.long (v7 ||| ((1 : Int64) <<< ((v9 - v3).toInt64 &&& 63))), .int ((v9 - v2) + (v6 + r17))]) (rest := []) ⟨hx, hb, hml, hown, hts⟩ (mX7_offer l dC dI cI Q I L (va_up A 3 (upd (A 3) v10.toNatClampNeg v9)) (v7 ||| ((1 : Int64) <<< ((v9 - v3).toInt64 &&& 63))) ((v9 - v2) + (v6 + r17)) H.size _ hc20) (cwV 2 hts gX7_climb_X7_offer rfl rfl rfl (by decide +kernel) ⟨Nat.le_of_ble_eq_true rfl, Nat.le_of_ble_eq_true rfl⟩) ⟨blindW, va_recv hK hP (ci := 4) (q0 := 0) rfl rfl, fun U hU hW => ⟨rfl, by rw [hU], by rw [hU]; exact hP, va_K.moved hW.alike hK, hD.weaken (fun _ _ _ _ => trivial)⟩⟩ rfl rfl hl.1 rfl (lv_room (Nat.le_of_ble_eq_true rfl)) dX7_climb_195 ⟨Nat.zero_le _, Nat.zero_le _⟩) hS (fun q _ h => hF24 q h) hF24 (fun u t H locs ht hvm hw hB hz1 hk1 hS => ?_)
      cases hw
      obtain ⟨hP, hK9, hD⟩ := hB
      rw [ht] at hP
      have hP : va_P (dC, dI) vwCl (wV cI Q I21 L22 A23) H := hP
      have hD : va_D AA (wV cI Q I21 L22 A23) := hD.weaken (fun _ _ _ h => hF24 _ h)
      refine lv_iinc (v := (v9 + (1 : Int32))) (lv' := [(9, .int (v9 + (1 : Int32))), (7, .long (v7 ||| ((1 : Int64) <<< ((v9 - v3).toInt64 &&& 63)))), (6, .int (v6 + r17)), (5, .int (v5 &&& (v11 ^^^ (-1 : Int32)))), (0, .ref (Q 100)), (1, .int v1), (2, .int v2), (3, .int v3), (4, .int v4), (10, .int v10), (11, .int v11)]) hx hb dX7_climb_198 hl (k := 8) rfl rfl (by decide) rfl (fun ls hl => ?_)
      refine lv_goto (tgt := 12) hx hb dX7_climb_201 (by decide) ?_
      exact ih12 I21 L22 A23 v1 v2 v3 v4 (v5 &&& (v11 ^^^ (-1 : Int32))) (v6 + r17) (v7 ||| ((1 : Int64) <<< ((v9 - v3).toInt64 &&& 63))) (v9 + (1 : Int32)) H locs ls hf hP hD hS (lv_sub hl [4, 5, 6, 7, 8, 3, 2, 1, 0] rfl)
  have sg52 : ∀ (k12 : (Nat → Int32) → (Nat → Int64) → (Nat → Nat → Int32) → Int32 → Int32 → Int32 → Int32 → Int32 → Int32 → Int64 → Int32 → Option ((Nat → Int32) × (Nat → Int64) × (Nat → Nat → Int32))), (∀ (I : Nat → Int32) (L : Nat → Int64) (A : Nat → Nat → Int32) (v1 : Int32) (v2 : Int32) (v3 : Int32) (v4 : Int32) (v5 : Int32) (v6 : Int32) (v7 : Int64) (v9 : Int32) (H : Heap) (locs : List Loc) (ls : Array Slot), k12 I L A v1 v2 v3 v4 v5 v6 v7 v9 = some z → va_P (dC, dI) vwCl (wV cI Q I L A) H → va_D AA (wV cI Q I L A) → va_S AA s.heap H locs → lv_has ls 14 [(0, .ref (Q 100)), (1, .int v1), (2, .int v2), (3, .int v3), (4, .int v4), (5, .int v5), (6, .int v6), (7, .long v7), (9, .int v9)] → W p l e (headSpec wsX7_climb ({ frames := 1, cells := 0, slots := 0, locals := 23 })).room s m (([.ref (Q 100), .int x1, .int x2, .int x3, .int x4] : List Value).toArray) below meth c H locs 0 0 (MQ below (va_Qv (fun (u : (Nat → Int32) × (Nat → Int64) × (Nat → Nat → Int32)) => u = z) (atV dC dI cI Q AA) AA) (([.ref (Q 100), .int x1, .int x2, .int x3, .int x4] : List Value).toArray) s 0 0 AA) (F0 m 12 ls [])) → ∀ (I : Nat → Int32) (L : Nat → Int64) (A : Nat → Nat → Int32) (v1 : Int32) (v2 : Int32) (v3 : Int32) (v4 : Int32) (v5 : Int32) (v6 : Int32) (v7 : Int64) (v9 : Int32) (v10 : Int32) (v11 : Int32) (t0 : Int32) (H : Heap) (locs : List Loc) (ls : Array Slot), fX7_climb_52  k12 I L A v1 v2 v3 v4 v5 v6 v7 v9 v10 v11 t0 = some z → va_P (dC, dI) vwCl (wV cI Q I L A) H → va_D AA (wV cI Q I L A) → va_S AA s.heap H locs → lv_has ls 14 [(0, .ref (Q 100)), (1, .int v1), (2, .int v2), (3, .int v3), (4, .int v4), (5, .int v5), (6, .int v6), (7, .long v7), (9, .int v9), (10, .int v10), (11, .int v11)] → W p l e (headSpec wsX7_climb ({ frames := 1, cells := 0, slots := 0, locals := 23 })).room s m (([.ref (Q 100), .int x1, .int x2, .int x3, .int x4] : List Value).toArray) below meth c H locs 0 0 (MQ below (va_Qv (fun (u : (Nat → Int32) × (Nat → Int64) × (Nat → Nat → Int32)) => u = z) (atV dC dI cI Q AA) AA) (([.ref (Q 100), .int x1, .int x2, .int x3, .int x4] : List Value).toArray) s 0 0 AA) (F0 m 52 ls [.int t0]) := by
    intro k12 ih12
    intro I L A v1 v2 v3 v4 v5 v6 v7 v9 v10 v11 t0 H locs ls hf hP hD hS hl
    unfold fX7_climb_52 at hf
    refine lv_istore (lv' := [(12, .int t0), (0, .ref (Q 100)), (1, .int v1), (2, .int v2), (3, .int v3), (4, .int v4), (5, .int v5), (6, .int v6), (7, .long v7), (9, .int v9), (10, .int v10), (11, .int v11)]) hx hb dX7_climb_52 hl (by decide) rfl (fun ls hl => ?_)
    refine lv_iload hx hb dX7_climb_54 (lv_at hl 0 rfl) ?_
    refine lv_if_ne (tgt := 198) hx hb dX7_climb_56 (by decide) (fun c4 => ?_) (fun c4 => ?_)
    · have hf := (if_neg c4).symm.trans hf
      refine lv_iinc (v := (v9 + (1 : Int32))) (lv' := [(9, .int (v9 + (1 : Int32))), (12, .int t0), (0, .ref (Q 100)), (1, .int v1), (2, .int v2), (3, .int v3), (4, .int v4), (5, .int v5), (6, .int v6), (7, .long v7), (10, .int v10), (11, .int v11)]) hx hb dX7_climb_198 hl (k := 9) rfl rfl (by decide) rfl (fun ls hl => ?_)
      refine lv_goto (tgt := 12) hx hb dX7_climb_201 (by decide) ?_
      exact ih12 I L A v1 v2 v3 v4 v5 v6 v7 (v9 + (1 : Int32)) H locs ls hf hP hD hS (lv_sub hl [2, 3, 4, 5, 6, 7, 8, 9, 0] rfl)
    · have hf := (if_pos c4).symm.trans hf
      refine lv_iload_n hx hb dX7_climb_59 rfl (lv_at hl 2 rfl) ?_
      refine lv_iload hx hb dX7_climb_60 (lv_at hl 11 rfl) ?_
      refine lv_iand hx hb dX7_climb_62 ?_
      refine lv_if_ne (tgt := 69) hx hb dX7_climb_63 (by decide) (fun c5 => ?_) (fun c5 => ?_)
      · have hf := (if_neg c5).symm.trans hf
        refine lv_iload hx hb dX7_climb_69 (lv_at hl 6 rfl) ?_
        refine lv_iload hx hb dX7_climb_71 (lv_at hl 11 rfl) ?_
        refine lv_iand hx hb dX7_climb_73 ?_
        refine lv_if_ne (tgt := 137) hx hb dX7_climb_74 (by decide) (fun c6 => ?_) (fun c6 => ?_)
        · have hf := (if_neg c6).symm.trans hf
          exact sg137 _ ih12 I L A v1 v2 v3 v4 v5 v6 v7 v9 v10 v11 H locs ls hf hP hD hS (lv_sub hl [1, 2, 3, 4, 5, 6, 7, 8, 9, 10, 11] rfl)
        · have hf := (if_pos c6).symm.trans hf
          refine lv_aload_n hx hb dX7_climb_77 rfl (lv_at hl 1 rfl) ?_
          refine va_get (D := (dC, dI)) (ci := 4) (v := .ref (Q 3)) (C := RX7) (T := TX7) (N := 6) hx hb hts hinX7 hown hK hP 0 rfl rfl 3 (by decide) hk18 (fun _ h9 => h9) rfl dX7_climb_78 ?_
          refine lv_iload hx hb dX7_climb_81 (lv_at hl 10 rfl) ?_
          obtain ⟨r7, hc8, hf⟩ := of_bind_some hf
          refine W.callR (r := r7) (va_Run.run (va_runSN (host := RX8) (As := [.ref (Q 3), .int v10]) (rest := []) ⟨hx, hb, hml, hown, hts⟩ (mX8_entry_w l dC dI (Q 3) cI 12 (A 3) v10 r7 hc8) ⟨va_cnB 2 hts gX7_climb_X8_entry_n41 rfl rfl rfl (hE.2.2.2.2.1 (RX7, 41, yX8_entry, RX8) (by decide +kernel)) (hts (.initialized RX8) (by decide +kernel)) (by decide +kernel) ⟨Nat.le_of_ble_eq_true rfl, Nat.le_of_ble_eq_true rfl⟩, hts (.static yX8_entry) (by decide +kernel), trivial⟩ ⟨blindR, fun U hU hW => ⟨rfl, by rw [hU]; exact hP.sub [3] rfl, va_K.moved hW.alike (hK.sub [0] rfl)⟩⟩ rfl rfl hl.1 rfl (lv_room (Nat.le_of_ble_eq_true rfl)) dX7_climb_83 ⟨Nat.zero_le _, Nat.zero_le _⟩)) ?_
          refine W.eq (g2 := F0 m 86 ls [.int r7]) rfl ?_
          refine lv_istore (lv' := [(13, .int r7), (12, .int t0), (0, .ref (Q 100)), (1, .int v1), (2, .int v2), (3, .int v3), (4, .int v4), (5, .int v5), (6, .int v6), (7, .long v7), (9, .int v9), (10, .int v10), (11, .int v11)]) hx hb dX7_climb_86 hl (by decide) rfl (fun ls hl => ?_)
          refine lv_aload_n hx hb dX7_climb_88 rfl (lv_at hl 2 rfl) ?_
          refine va_get (D := (dC, dI)) (ci := 4) (v := .ref (Q 2)) (C := RX7) (T := TX7) (N := 6) hx hb hts hinX7 hown hK hP 0 rfl rfl 2 (by decide) hk15 (fun _ h9 => h9) rfl dX7_climb_89 ?_
          refine lv_iload hx hb dX7_climb_92 (lv_at hl 10 rfl) ?_
          obtain ⟨r9, hc10, hf⟩ := of_bind_some hf
          refine W.callR (r := r9) (va_Run.run (va_runSN (host := RX8) (As := [.ref (Q 2), .int v9]) (rest := []) ⟨hx, hb, hml, hown, hts⟩ (mX8_entry_w l dC dI (Q 2) cI 128 (A 2) v9 r9 hc10) ⟨va_cnB 2 hts gX7_climb_X8_entry_n41 rfl rfl rfl (hE.2.2.2.2.1 (RX7, 41, yX8_entry, RX8) (by decide +kernel)) (hts (.initialized RX8) (by decide +kernel)) (by decide +kernel) ⟨Nat.le_of_ble_eq_true rfl, Nat.le_of_ble_eq_true rfl⟩, hts (.static yX8_entry) (by decide +kernel), trivial⟩ ⟨blindR, fun U hU hW => ⟨rfl, by rw [hU]; exact hP.sub [2] rfl, va_K.moved hW.alike (hK.sub [0] rfl)⟩⟩ rfl rfl hl.1 rfl (lv_room (Nat.le_of_ble_eq_true rfl)) dX7_climb_94 ⟨Nat.zero_le _, Nat.zero_le _⟩)) ?_
          refine W.eq (g2 := F0 m 97 ls [.int r9]) rfl ?_
          refine lv_aload_n hx hb dX7_climb_97 rfl (lv_at hl 2 rfl) ?_
          refine va_get (D := (dC, dI)) (ci := 4) (v := .ref (Q 2)) (C := RX7) (T := TX7) (N := 6) hx hb hts hinX7 hown hK hP 0 rfl rfl 2 (by decide) hk15 (fun _ h9 => h9) rfl dX7_climb_98 ?_
          refine lv_iload hx hb dX7_climb_101 (lv_at hl 0 rfl) ?_
          obtain ⟨r11, hc12, hf⟩ := of_bind_some hf
          refine W.callR (r := r11) (va_Run.run (va_runSN (host := RX8) (As := [.ref (Q 2), .int r7]) (rest := [.int r9]) ⟨hx, hb, hml, hown, hts⟩ (mX8_entry_w l dC dI (Q 2) cI 128 (A 2) r7 r11 hc12) ⟨va_cnB 2 hts gX7_climb_X8_entry_n41 rfl rfl rfl (hE.2.2.2.2.1 (RX7, 41, yX8_entry, RX8) (by decide +kernel)) (hts (.initialized RX8) (by decide +kernel)) (by decide +kernel) ⟨Nat.le_of_ble_eq_true rfl, Nat.le_of_ble_eq_true rfl⟩, hts (.static yX8_entry) (by decide +kernel), trivial⟩ ⟨blindR, fun U hU hW => ⟨rfl, by rw [hU]; exact hP.sub [2] rfl, va_K.moved hW.alike (hK.sub [0] rfl)⟩⟩ rfl rfl hl.1 rfl (lv_room (Nat.le_of_ble_eq_true rfl)) dX7_climb_103 ⟨Nat.zero_le _, Nat.zero_le _⟩)) ?_
          refine W.eq (g2 := F0 m 106 ls [.int r11, .int r9]) rfl ?_
          refine lv_icmp_lt (tgt := 112) hx hb dX7_climb_106 (by decide) (fun c13 => ?_) (fun c13 => ?_)
          · have hf := (if_pos c13).symm.trans hf
            refine lv_iload hx hb dX7_climb_112 (lv_at hl 8 rfl) ?_
            refine lv_aload_n hx hb dX7_climb_114 rfl (lv_at hl 2 rfl) ?_
            refine va_get (D := (dC, dI)) (ci := 4) (v := .ref (Q 2)) (C := RX7) (T := TX7) (N := 6) hx hb hts hinX7 hown hK hP 0 rfl rfl 2 (by decide) hk15 (fun _ h9 => h9) rfl dX7_climb_115 ?_
            refine lv_iload hx hb dX7_climb_118 (lv_at hl 0 rfl) ?_
            obtain ⟨r14, hc15, hf⟩ := of_bind_some hf
            refine W.callR (r := r14) (va_Run.run (va_runSN (host := RX8) (As := [.ref (Q 2), .int r7]) (rest := [.int v6]) ⟨hx, hb, hml, hown, hts⟩ (mX8_entry_w l dC dI (Q 2) cI 128 (A 2) r7 r14 hc15) ⟨va_cnB 2 hts gX7_climb_X8_entry_n41 rfl rfl rfl (hE.2.2.2.2.1 (RX7, 41, yX8_entry, RX8) (by decide +kernel)) (hts (.initialized RX8) (by decide +kernel)) (by decide +kernel) ⟨Nat.le_of_ble_eq_true rfl, Nat.le_of_ble_eq_true rfl⟩, hts (.static yX8_entry) (by decide +kernel), trivial⟩ ⟨blindR, fun U hU hW => ⟨rfl, by rw [hU]; exact hP.sub [2] rfl, va_K.moved hW.alike (hK.sub [0] rfl)⟩⟩ rfl rfl hl.1 rfl (lv_room (Nat.le_of_ble_eq_true rfl)) dX7_climb_120 ⟨Nat.zero_le _, Nat.zero_le _⟩)) ?_
            refine W.eq (g2 := F0 m 123 ls [.int r14, .int v6]) rfl ?_
            refine lv_isub hx hb dX7_climb_123 ?_
            refine lv_istore (lv' := [(6, .int (v6 - r14)), (13, .int r7), (12, .int t0), (0, .ref (Q 100)), (1, .int v1), (2, .int v2), (3, .int v3), (4, .int v4), (5, .int v5), (7, .long v7), (9, .int v9), (10, .int v10), (11, .int v11)]) hx hb dX7_climb_124 hl (by decide) rfl (fun ls hl => ?_)
            refine lv_lload hx hb dX7_climb_126 (lv_at hl 9 rfl) ?_
            refine lv_lconst (v := (1 : Int64)) hx hb dX7_climb_128 (by decide) ?_
            refine lv_iload hx hb dX7_climb_129 (lv_at hl 1 rfl) ?_
            refine lv_iload_n hx hb dX7_climb_131 rfl (lv_at hl 6 rfl) ?_
            refine lv_isub hx hb dX7_climb_132 ?_
            refine lv_lshl (v := ((1 : Int64) <<< ((r7 - v3).toInt64 &&& 63))) hx hb dX7_climb_133 rfl ?_
            refine lv_lxor hx hb dX7_climb_134 ?_
            refine lv_lstore (lv' := [(7, .long (v7 ^^^ ((1 : Int64) <<< ((r7 - v3).toInt64 &&& 63)))), (6, .int (v6 - r14)), (13, .int r7), (12, .int t0), (0, .ref (Q 100)), (1, .int v1), (2, .int v2), (3, .int v3), (4, .int v4), (5, .int v5), (9, .int v9), (10, .int v10), (11, .int v11)]) hx hb dX7_climb_135 hl (by decide) rfl (fun ls hl => ?_)
            exact sg137 _ ih12 I L A v1 v2 v3 v4 v5 (v6 - r14) (v7 ^^^ ((1 : Int64) <<< ((r7 - v3).toInt64 &&& 63))) v9 v10 v11 H locs ls hf hP hD hS (lv_sub hl [4, 5, 6, 7, 8, 9, 1, 0, 10, 11, 12] rfl)
          · have hf := (if_neg c13).symm.trans hf
            refine lv_goto (tgt := 198) hx hb dX7_climb_109 (by decide) ?_
            refine lv_iinc (v := (v9 + (1 : Int32))) (lv' := [(9, .int (v9 + (1 : Int32))), (13, .int r7), (12, .int t0), (0, .ref (Q 100)), (1, .int v1), (2, .int v2), (3, .int v3), (4, .int v4), (5, .int v5), (6, .int v6), (7, .long v7), (10, .int v10), (11, .int v11)]) hx hb dX7_climb_198 hl (k := 10) rfl rfl (by decide) rfl (fun ls hl => ?_)
            refine lv_goto (tgt := 12) hx hb dX7_climb_201 (by decide) ?_
            exact ih12 I L A v1 v2 v3 v4 v5 v6 v7 (v9 + (1 : Int32)) H locs ls hf hP hD hS (lv_sub hl [3, 4, 5, 6, 7, 8, 9, 10, 0] rfl)
      · have hf := (if_pos c5).symm.trans hf
        refine lv_goto (tgt := 198) hx hb dX7_climb_66 (by decide) ?_
        refine lv_iinc (v := (v9 + (1 : Int32))) (lv' := [(9, .int (v9 + (1 : Int32))), (12, .int t0), (0, .ref (Q 100)), (1, .int v1), (2, .int v2), (3, .int v3), (4, .int v4), (5, .int v5), (6, .int v6), (7, .long v7), (10, .int v10), (11, .int v11)]) hx hb dX7_climb_198 hl (k := 9) rfl rfl (by decide) rfl (fun ls hl => ?_)
        refine lv_goto (tgt := 12) hx hb dX7_climb_201 (by decide) ?_
        exact ih12 I L A v1 v2 v3 v4 v5 v6 v7 (v9 + (1 : Int32)) H locs ls hf hP hD hS (lv_sub hl [2, 3, 4, 5, 6, 7, 8, 9, 0] rfl)
  have sg12 : ∀ n : Nat, ∀ (I : Nat → Int32) (L : Nat → Int64) (A : Nat → Nat → Int32) (v1 : Int32) (v2 : Int32) (v3 : Int32) (v4 : Int32) (v5 : Int32) (v6 : Int32) (v7 : Int64) (v9 : Int32) (H : Heap) (locs : List Loc) (ls : Array Slot), fX7_climb_12   n I L A v1 v2 v3 v4 v5 v6 v7 v9 = some z → va_P (dC, dI) vwCl (wV cI Q I L A) H → va_D AA (wV cI Q I L A) → va_S AA s.heap H locs → lv_has ls 14 [(0, .ref (Q 100)), (1, .int v1), (2, .int v2), (3, .int v3), (4, .int v4), (5, .int v5), (6, .int v6), (7, .long v7), (9, .int v9)] → W p l e (headSpec wsX7_climb ({ frames := 1, cells := 0, slots := 0, locals := 23 })).room s m (([.ref (Q 100), .int x1, .int x2, .int x3, .int x4] : List Value).toArray) below meth c H locs 0 0 (MQ below (va_Qv (fun (u : (Nat → Int32) × (Nat → Int64) × (Nat → Nat → Int32)) => u = z) (atV dC dI cI Q AA) AA) (([.ref (Q 100), .int x1, .int x2, .int x3, .int x4] : List Value).toArray) s 0 0 AA) (F0 m 12 ls []) := by
    intro n
    induction n with
    | zero => intro I L A v1 v2 v3 v4 v5 v6 v7 v9 H locs ls hf hP hD hS hl; exact of_none hf
    | succ n ih12 =>
      intro I L A v1 v2 v3 v4 v5 v6 v7 v9 H locs ls hf hP hD hS hl
      change fX7_climb_12B   (fX7_climb_12   n) I L A v1 v2 v3 v4 v5 v6 v7 v9 = _ at hf
      unfold fX7_climb_12B at hf
      refine lv_iload hx hb dX7_climb_12 (lv_at hl 8 rfl) ?_
      refine lv_iload hx hb dX7_climb_14 (lv_at hl 4 rfl) ?_
      refine lv_icmp_gt (tgt := 204) hx hb dX7_climb_16 (by decide) (fun c1 => ?_) (fun c1 => ?_)
      · have hf := (if_pos c1).symm.trans hf
        exact W.vret hx hb hr (fun t ht hW => ⟨⟨(I, L, A), rfl, Option.some.inj hf, by rw [ht]; exact hP, va_K.moved hW.alike hK, hD⟩, hS.F ht⟩) hS.2.2 dX7_climb_204
      · have hf := (if_neg c1).symm.trans hf
        refine lv_iload hx hb dX7_climb_19 (lv_at hl 8 rfl) ?_
        refine lv_bipush (v := (12 : Int32)) hx hb dX7_climb_21 (by decide) ?_
        refine lv_irem hx hb dX7_climb_23 (by decide) ?_
        refine W.eq (g2 := F0 m 24 ls [.int (jrem v9 (12 : Int32))]) rfl ?_
        refine lv_istore (lv' := [(10, .int (jrem v9 (12 : Int32))), (0, .ref (Q 100)), (1, .int v1), (2, .int v2), (3, .int v3), (4, .int v4), (5, .int v5), (6, .int v6), (7, .long v7), (9, .int v9)]) hx hb dX7_climb_24 hl (by decide) rfl (fun ls hl => ?_)
        refine lv_iconst (v := (1 : Int32)) hx hb dX7_climb_26 (by decide) ?_
        refine lv_iload hx hb dX7_climb_27 (lv_at hl 0 rfl) ?_
        refine lv_ishl hx hb dX7_climb_29 ?_
        refine lv_istore (lv' := [(11, .int ((1 : Int32) <<< ((jrem v9 (12 : Int32)) &&& 31))), (10, .int (jrem v9 (12 : Int32))), (0, .ref (Q 100)), (1, .int v1), (2, .int v2), (3, .int v3), (4, .int v4), (5, .int v5), (6, .int v6), (7, .long v7), (9, .int v9)]) hx hb dX7_climb_30 hl (by decide) rfl (fun ls hl => ?_)
        refine lv_iload hx hb dX7_climb_32 (lv_at hl 10 rfl) ?_
        refine lv_iload_n hx hb dX7_climb_34 rfl (lv_at hl 4 rfl) ?_
        refine lv_icmp_le (tgt := 51) hx hb dX7_climb_35 (by decide) (fun c2 => ?_) (fun c2 => ?_)
        · have hf := (if_pos c2).symm.trans hf
          refine lv_iconst (v := (0 : Int32)) hx hb dX7_climb_51 (by decide) ?_
          exact sg52 _ ih12 I L A v1 v2 v3 v4 v5 v6 v7 v9 (jrem v9 (12 : Int32)) ((1 : Int32) <<< ((jrem v9 (12 : Int32)) &&& 31)) (0 : Int32) H locs ls hf hP hD hS (lv_sub hl [2, 3, 4, 5, 6, 7, 8, 9, 10, 1, 0] rfl)
        · have hf := (if_neg c2).symm.trans hf
          refine lv_iload hx hb dX7_climb_38 (lv_at hl 1 rfl) ?_
          refine lv_iload_n hx hb dX7_climb_40 rfl (lv_at hl 4 rfl) ?_
          refine lv_bipush (v := (12 : Int32)) hx hb dX7_climb_41 (by decide) ?_
          refine lv_irem hx hb dX7_climb_43 (by decide) ?_
          refine W.eq (g2 := F0 m 44 ls [.int (jrem v2 (12 : Int32)), .int (jrem v9 (12 : Int32))]) rfl ?_
          refine lv_icmp_ne (tgt := 51) hx hb dX7_climb_44 (by decide) (fun c3 => ?_) (fun c3 => ?_)
          · have hf := (if_neg c3).symm.trans hf
            refine lv_iconst (v := (0 : Int32)) hx hb dX7_climb_51 (by decide) ?_
            exact sg52 _ ih12 I L A v1 v2 v3 v4 v5 v6 v7 v9 (jrem v9 (12 : Int32)) ((1 : Int32) <<< ((jrem v9 (12 : Int32)) &&& 31)) (0 : Int32) H locs ls hf hP hD hS (lv_sub hl [2, 3, 4, 5, 6, 7, 8, 9, 10, 1, 0] rfl)
          · have hf := (if_pos c3).symm.trans hf
            refine lv_iconst (v := (1 : Int32)) hx hb dX7_climb_47 (by decide) ?_
            refine lv_goto (tgt := 52) hx hb dX7_climb_48 (by decide) ?_
            exact sg52 _ ih12 I L A v1 v2 v3 v4 v5 v6 v7 v9 (jrem v9 (12 : Int32)) ((1 : Int32) <<< ((jrem v9 (12 : Int32)) &&& 31)) (1 : Int32) H locs ls hf hP hD hS (lv_sub hl [2, 3, 4, 5, 6, 7, 8, 9, 10, 1, 0] rfl)
  have hl := lv_entry ([.ref (Q 100), .int x1, .int x2, .int x3, .int x4]) (n := 14) (Nat.le_of_ble_eq_true rfl)
  rw [lg_entry_eq]
  generalize (lg_sl ([.ref (Q 100), .int x1, .int x2, .int x3, .int x4]) ++ List.replicate (14 - (lg_sl ([.ref (Q 100), .int x1, .int x2, .int x3, .int x4])).length) Slot.unset).toArray = ls at hl ⊢
  have hl : lv_has ls 14 [(0, .ref (Q 100)), (1, .int x1), (2, .int x2), (3, .int x3), (4, .int x4)] := hl
  unfold fX7_climb at hf
  refine lv_iload_n hx hb dX7_climb_0 rfl (lv_at hl 1 rfl) ?_
  refine lv_istore (lv' := [(5, .int x1), (0, .ref (Q 100)), (1, .int x1), (2, .int x2), (3, .int x3), (4, .int x4)]) hx hb dX7_climb_1 hl (by decide) rfl (fun ls hl => ?_)
  refine lv_iconst (v := (0 : Int32)) hx hb dX7_climb_3 (by decide) ?_
  refine lv_istore (lv' := [(6, .int (0 : Int32)), (5, .int x1), (0, .ref (Q 100)), (1, .int x1), (2, .int x2), (3, .int x3), (4, .int x4)]) hx hb dX7_climb_4 hl (by decide) rfl (fun ls hl => ?_)
  refine lv_lconst (v := (0 : Int64)) hx hb dX7_climb_6 (by decide) ?_
  refine lv_lstore (lv' := [(7, .long (0 : Int64)), (6, .int (0 : Int32)), (5, .int x1), (0, .ref (Q 100)), (1, .int x1), (2, .int x2), (3, .int x3), (4, .int x4)]) hx hb dX7_climb_7 hl (by decide) rfl (fun ls hl => ?_)
  refine lv_iload_n hx hb dX7_climb_9 rfl (lv_at hl 5 rfl) ?_
  refine lv_istore (lv' := [(9, .int x2), (7, .long (0 : Int64)), (6, .int (0 : Int32)), (5, .int x1), (0, .ref (Q 100)), (1, .int x1), (2, .int x2), (3, .int x3), (4, .int x4)]) hx hb dX7_climb_10 hl (by decide) rfl (fun ls hl => ?_)
  exact sg12  FU I L A x1 x2 x3 x4 x1 (0 : Int32) (0 : Int64) x2 s.heap [] ls hf hP hD hS (lv_sub hl [4, 5, 6, 7, 8, 3, 2, 1, 0] rfl)
def fX7_find_37B   (k37 : (Nat → Int32) → (Nat → Int64) → (Nat → Nat → Int32) → Int32 → Int32 → Int32 → Int32 → Int32 → Option (Int32 × (Nat → Int32) × (Nat → Int64) × (Nat → Nat → Int32))) (I : Nat → Int32) (L : Nat → Int64) (A : Nat → Nat → Int32) (v1 : Int32) (v2 : Int32) (v3 : Int32) (v4 : Int32) (v5 : Int32) : Option (Int32 × (Nat → Int32) × (Nat → Int64) × (Nat → Nat → Int32)) :=
  (if v4 < v5 then (if (lg_cmp (L 4) (0 : Int64)) = 0 then (some ((0 : Int32), (I, L, A))) else ((fX7_take I L A v3 v4).bind fun (I8, L9, A10) => (some ((1 : Int32), (I8, L9, A10))))) else (if (jrem v5 (12 : Int32)) = v2 then ((fX7_climb I L A v1 v5 v3 v4).bind fun (I14, L15, A16) => (k37 I14 L15 A16 v1 v2 v3 v4 (v5 + (1 : Int32)))) else (k37 I L A v1 v2 v3 v4 (v5 + (1 : Int32)))))
def fX7_find_37   : Nat → ((Nat → Int32) → (Nat → Int64) → (Nat → Nat → Int32) → Int32 → Int32 → Int32 → Int32 → Int32 → Option (Int32 × (Nat → Int32) × (Nat → Int64) × (Nat → Nat → Int32)))
  | 0 => fun _ _ _ _ _ _ _ _ => none
  | n + 1 => fX7_find_37B   (fX7_find_37   n)
def fX7_find_3B   (k3 : (Nat → Int32) → (Nat → Int64) → (Nat → Nat → Int32) → Int32 → Int32 → Int32 → Int32 → Int32 → Option (Int32 × (Nat → Int32) × (Nat → Int64) × (Nat → Nat → Int32))) (I : Nat → Int32) (L : Nat → Int64) (A : Nat → Nat → Int32) (v1 : Int32) (v2 : Int32) (v3 : Int32) (v4 : Int32) (v5 : Int32) : Option (Int32 × (Nat → Int32) × (Nat → Int64) × (Nat → Nat → Int32)) :=
  (if v4 < v5 then (fX7_find_37   FU I (vp_updL L 4 (0 : Int64)) A v1 v2 v3 v4 v3) else ((fX7_nearest I L A v5).bind fun r2 => (if gd v5 128 then (k3 I L (va_up A 2 (upd (A 2) v5.toNatClampNeg r2)) v1 v2 v3 v4 (v5 + (1 : Int32))) else none)))
def fX7_find_3   : Nat → ((Nat → Int32) → (Nat → Int64) → (Nat → Nat → Int32) → Int32 → Int32 → Int32 → Int32 → Int32 → Option (Int32 × (Nat → Int32) × (Nat → Int64) × (Nat → Nat → Int32)))
  | 0 => fun _ _ _ _ _ _ _ _ => none
  | n + 1 => fX7_find_3B   (fX7_find_3   n)
def fX7_find  (I : Nat → Int32) (L : Nat → Int64) (A : Nat → Nat → Int32) (x1 : Int32) (x2 : Int32) (x3 : Int32) (x4 : Int32) : Option (Int32 × (Nat → Int32) × (Nat → Int64) × (Nat → Nat → Int32)) :=
  (fX7_find_3   FU I L A x1 x2 x3 x4 x3)
set_option maxRecDepth 100000 in
set_option maxHeartbeats 4000000 in
theorem mX7_find (l : Launch) (en : Nat → Nat) (dC : Nat → ClassId) (dI : Nat → Nat → Nat) (cI : ClassId) (Q : Nat → Nat)  (I : Nat → Int32) (L : Nat → Int64) (A : Nat → Nat → Int32) (x1 : Int32) (x2 : Int32) (x3 : Int32) (x4 : Int32) (sz : Nat) (z : Int32 × (Nat → Int32) × (Nat → Int64) × (Nat → Nat → Int32)) (hf : fX7_find I L A x1 x2 x3 x4 = some z) : Met l yX7_find wsX7_find ({ frames := 2, cells := 0, slots := 0, locals := 56 }) (va_Pc [.ref (Q 100), .int x1, .int x2, .int x3, .int x4] (fun U => U.heap.size = sz ∧ va_P (dC, dI) vwCl (wV cI Q I L A) U.heap ∧ va_K (dC, dI) vwCl [(cI, .int)] U ∧ va_D (fun _ => True) (wV cI Q I L A) ∧ cE en (va_A (wV cI Q I L A) sz) U U.heap)) (va_Qi (fun (r : Int32) (u : (Nat → Int32) × (Nat → Int64) × (Nat → Nat → Int32)) => (r, u) = z) (atV dC dI cI Q (va_A (wV cI Q I L A) sz)) (va_A (wV cI Q I L A) sz)) 0 0 (va_A (wV cI Q I L A) sz) := by
  refine Met.ofW (cc := cX7_find) (maxL := 6) (ret := (some .boolean)) (by decide) rfl ?_
  intro p e s m args below meth c s₁ BL hml hv
  obtain ⟨rfl, hsz, hP, hK, hD0, hE⟩ := hv
  have hx := BL.exec
  have hb := BL.bytes
  have hr := BL.returns
  have hts := atoms_spec (ws := wsX7_find) BL.pre
  have hown : s.vm.findClass RX7 = some m.cls := findClass_of_methodNamed BL.named
  have hlocks := BL.notSynchronized
  have hinX7 : ∀ w ∈ u_ws RX7 TX7 6, w ∈ wsX7_find := by decide +kernel
  have hk15 := hts (.fieldLink RX7 15 "LeadSheets$Voicing" "away" "[I") (by decide +kernel)
  have hk29 := hts (.fieldLink RX7 29 "LeadSheets$Voicing" "best" "J") (by decide +kernel)
  subst hsz
  have hD := hD0.self (sz := s.heap.size)
  generalize hAe : va_A (wV cI Q I L A) s.heap.size = AA at hD hE ⊢
  have hA : ∀ q : Nat, s.heap.size ≤ q → AA q := fun q h => by rw [← hAe]; exact Or.inr h
  have hS : va_S AA s.heap s.heap [] := va_S.rf
  have sg37 : ∀ n : Nat, ∀ (I : Nat → Int32) (L : Nat → Int64) (A : Nat → Nat → Int32) (v1 : Int32) (v2 : Int32) (v3 : Int32) (v4 : Int32) (v5 : Int32) (H : Heap) (locs : List Loc) (ls : Array Slot), fX7_find_37   n I L A v1 v2 v3 v4 v5 = some z → va_P (dC, dI) vwCl (wV cI Q I L A) H → va_D AA (wV cI Q I L A) → va_S AA s.heap H locs → lv_has ls 6 [(0, .ref (Q 100)), (1, .int v1), (2, .int v2), (3, .int v3), (4, .int v4), (5, .int v5)] → W p l e (headSpec wsX7_find ({ frames := 2, cells := 0, slots := 0, locals := 56 })).room s m (([.ref (Q 100), .int x1, .int x2, .int x3, .int x4] : List Value).toArray) below meth c H locs 0 0 (MQ below (va_Qi (fun (r : Int32) (u : (Nat → Int32) × (Nat → Int64) × (Nat → Nat → Int32)) => (r, u) = z) (atV dC dI cI Q AA) AA) (([.ref (Q 100), .int x1, .int x2, .int x3, .int x4] : List Value).toArray) s 0 0 AA) (F0 m 37 ls []) := by
    intro n
    induction n with
    | zero => intro I L A v1 v2 v3 v4 v5 H locs ls hf hP hD hS hl; exact of_none hf
    | succ n ih37 =>
      intro I L A v1 v2 v3 v4 v5 H locs ls hf hP hD hS hl
      change fX7_find_37B   (fX7_find_37   n) I L A v1 v2 v3 v4 v5 = _ at hf
      unfold fX7_find_37B at hf
      refine lv_iload hx hb dX7_find_37 (lv_at hl 5 rfl) ?_
      refine lv_iload hx hb dX7_find_39 (lv_at hl 4 rfl) ?_
      refine lv_icmp_gt (tgt := 69) hx hb dX7_find_41 (by decide) (fun c5 => ?_) (fun c5 => ?_)
      · have hf := (if_pos c5).symm.trans hf
        refine lv_aload_n hx hb dX7_find_69 rfl (lv_at hl 0 rfl) ?_
        refine va_get (D := (dC, dI)) (ci := 4) (v := .long (L 4)) (C := RX7) (T := TX7) (N := 6) hx hb hts hinX7 hown hK hP 0 rfl rfl 4 (by decide) hk29 (fun _ h9 => h9) rfl dX7_find_70 ?_
        refine lv_lconst (v := (0 : Int64)) hx hb dX7_find_73 (by decide) ?_
        refine W.lcmp hx hb dX7_find_74 ?_
        refine lv_if_ne (tgt := 80) hx hb dX7_find_75 (by decide) (fun c6 => ?_) (fun c6 => ?_)
        · have hf := (if_neg c6).symm.trans hf
          refine lv_aload_n hx hb dX7_find_80 rfl (lv_at hl 0 rfl) ?_
          refine lv_iload_n hx hb dX7_find_81 rfl (lv_at hl 3 rfl) ?_
          refine lv_iload hx hb dX7_find_82 (lv_at hl 4 rfl) ?_
          obtain ⟨⟨I8, L9, A10⟩, hc7, hf⟩ := of_bind_some hf
          have hF11 := va_freeAll hD hS hA
          refine va_callv (va_runV (As := [.int v3, .int v4]) (rest := []) ⟨hx, hb, hml, hown, hts⟩ (mX7_take l dC dI cI Q I L A v3 v4 H.size _ hc7) (cwV 2 hts gX7_find_X7_take rfl rfl rfl (by decide +kernel) ⟨Nat.le_of_ble_eq_true rfl, Nat.le_of_ble_eq_true rfl⟩) ⟨blindW, va_recv hK hP (ci := 4) (q0 := 0) rfl rfl, fun U hU hW => ⟨rfl, by rw [hU], by rw [hU]; exact hP, va_K.moved hW.alike hK, hD.weaken (fun _ _ _ _ => trivial)⟩⟩ rfl rfl hl.1 rfl (lv_room (Nat.le_of_ble_eq_true rfl)) dX7_find_84 ⟨Nat.zero_le _, Nat.zero_le _⟩) hS (fun q _ h => hF11 q h) hF11 (fun u t H locs ht hvm hw hB hz1 hk1 hS => ?_)
          cases hw
          obtain ⟨hP, hK9, hD⟩ := hB
          rw [ht] at hP
          have hP : va_P (dC, dI) vwCl (wV cI Q I8 L9 A10) H := hP
          have hD : va_D AA (wV cI Q I8 L9 A10) := hD.weaken (fun _ _ _ h => hF11 _ h)
          refine lv_iconst (v := (1 : Int32)) hx hb dX7_find_87 (by decide) ?_
          exact W.zret (v := (1 : Int32)) hx hb hr rfl (fun t ht hW => ⟨⟨(1 : Int32), (I8, L9, A10), rfl, Option.some.inj hf, by rw [ht]; exact hP, va_K.moved hW.alike hK, hD⟩, hS.F ht⟩) hS.2.2 dX7_find_88
        · have hf := (if_pos c6).symm.trans hf
          refine lv_iconst (v := (0 : Int32)) hx hb dX7_find_78 (by decide) ?_
          exact W.zret (v := (0 : Int32)) hx hb hr rfl (fun t ht hW => ⟨⟨(0 : Int32), (I, L, A), rfl, Option.some.inj hf, by rw [ht]; exact hP, va_K.moved hW.alike hK, hD⟩, hS.F ht⟩) hS.2.2 dX7_find_79
      · have hf := (if_neg c5).symm.trans hf
        refine lv_iload hx hb dX7_find_44 (lv_at hl 5 rfl) ?_
        refine lv_bipush (v := (12 : Int32)) hx hb dX7_find_46 (by decide) ?_
        refine lv_irem hx hb dX7_find_48 (by decide) ?_
        refine W.eq (g2 := F0 m 49 ls [.int (jrem v5 (12 : Int32))]) rfl ?_
        refine lv_iload_n hx hb dX7_find_49 rfl (lv_at hl 2 rfl) ?_
        refine lv_icmp_ne (tgt := 63) hx hb dX7_find_50 (by decide) (fun c12 => ?_) (fun c12 => ?_)
        · have hf := (if_neg c12).symm.trans hf
          refine lv_iinc (v := (v5 + (1 : Int32))) (lv' := [(5, .int (v5 + (1 : Int32))), (0, .ref (Q 100)), (1, .int v1), (2, .int v2), (3, .int v3), (4, .int v4)]) hx hb dX7_find_63 hl (k := 5) rfl rfl (by decide) rfl (fun ls hl => ?_)
          refine lv_goto (tgt := 37) hx hb dX7_find_66 (by decide) ?_
          exact ih37 I L A v1 v2 v3 v4 (v5 + (1 : Int32)) H locs ls hf hP hD hS (lv_sub hl [1, 2, 3, 4, 5, 0] rfl)
        · have hf := (if_pos c12).symm.trans hf
          refine lv_aload_n hx hb dX7_find_53 rfl (lv_at hl 0 rfl) ?_
          refine lv_iload_n hx hb dX7_find_54 rfl (lv_at hl 1 rfl) ?_
          refine lv_iload hx hb dX7_find_55 (lv_at hl 5 rfl) ?_
          refine lv_iload_n hx hb dX7_find_57 rfl (lv_at hl 3 rfl) ?_
          refine lv_iload hx hb dX7_find_58 (lv_at hl 4 rfl) ?_
          obtain ⟨⟨I14, L15, A16⟩, hc13, hf⟩ := of_bind_some hf
          have hF17 := va_freeAll hD hS hA
          refine va_callv (va_runV (As := [.int v1, .int v5, .int v3, .int v4]) (rest := []) ⟨hx, hb, hml, hown, hts⟩ (mX7_climb l en dC dI cI Q I L A v1 v5 v3 v4 H.size _ hc13) (cwV 4 hts gX7_find_X7_climb rfl rfl rfl (by decide +kernel) ⟨Nat.le_of_ble_eq_true rfl, Nat.le_of_ble_eq_true rfl⟩) ⟨blindWE, va_recv hK hP (ci := 4) (q0 := 0) rfl rfl, fun U hU hW => ⟨rfl, by rw [hU], by rw [hU]; exact hP, va_K.moved hW.alike hK, hD.weaken (fun _ _ _ _ => trivial), cE_sub hE hS hW hU hF17⟩⟩ rfl rfl hl.1 rfl (lv_room (Nat.le_of_ble_eq_true rfl)) dX7_find_60 ⟨Nat.zero_le _, Nat.zero_le _⟩) hS (fun q _ h => hF17 q h) hF17 (fun u t H locs ht hvm hw hB hz1 hk1 hS => ?_)
          cases hw
          obtain ⟨hP, hK9, hD⟩ := hB
          rw [ht] at hP
          have hP : va_P (dC, dI) vwCl (wV cI Q I14 L15 A16) H := hP
          have hD : va_D AA (wV cI Q I14 L15 A16) := hD.weaken (fun _ _ _ h => hF17 _ h)
          refine lv_iinc (v := (v5 + (1 : Int32))) (lv' := [(5, .int (v5 + (1 : Int32))), (0, .ref (Q 100)), (1, .int v1), (2, .int v2), (3, .int v3), (4, .int v4)]) hx hb dX7_find_63 hl (k := 5) rfl rfl (by decide) rfl (fun ls hl => ?_)
          refine lv_goto (tgt := 37) hx hb dX7_find_66 (by decide) ?_
          exact ih37 I14 L15 A16 v1 v2 v3 v4 (v5 + (1 : Int32)) H locs ls hf hP hD hS (lv_sub hl [1, 2, 3, 4, 5, 0] rfl)
  have sg3 : ∀ n : Nat, ∀ (I : Nat → Int32) (L : Nat → Int64) (A : Nat → Nat → Int32) (v1 : Int32) (v2 : Int32) (v3 : Int32) (v4 : Int32) (v5 : Int32) (H : Heap) (locs : List Loc) (ls : Array Slot), fX7_find_3   n I L A v1 v2 v3 v4 v5 = some z → va_P (dC, dI) vwCl (wV cI Q I L A) H → va_D AA (wV cI Q I L A) → va_S AA s.heap H locs → lv_has ls 6 [(0, .ref (Q 100)), (1, .int v1), (2, .int v2), (3, .int v3), (4, .int v4), (5, .int v5)] → W p l e (headSpec wsX7_find ({ frames := 2, cells := 0, slots := 0, locals := 56 })).room s m (([.ref (Q 100), .int x1, .int x2, .int x3, .int x4] : List Value).toArray) below meth c H locs 0 0 (MQ below (va_Qi (fun (r : Int32) (u : (Nat → Int32) × (Nat → Int64) × (Nat → Nat → Int32)) => (r, u) = z) (atV dC dI cI Q AA) AA) (([.ref (Q 100), .int x1, .int x2, .int x3, .int x4] : List Value).toArray) s 0 0 AA) (F0 m 3 ls []) := by
    intro n
    induction n with
    | zero => intro I L A v1 v2 v3 v4 v5 H locs ls hf hP hD hS hl; exact of_none hf
    | succ n ih3 =>
      intro I L A v1 v2 v3 v4 v5 H locs ls hf hP hD hS hl
      change fX7_find_3B   (fX7_find_3   n) I L A v1 v2 v3 v4 v5 = _ at hf
      unfold fX7_find_3B at hf
      refine lv_iload hx hb dX7_find_3 (lv_at hl 5 rfl) ?_
      refine lv_iload hx hb dX7_find_5 (lv_at hl 4 rfl) ?_
      refine lv_icmp_gt (tgt := 29) hx hb dX7_find_7 (by decide) (fun c1 => ?_) (fun c1 => ?_)
      · have hf := (if_pos c1).symm.trans hf
        refine lv_aload_n hx hb dX7_find_29 rfl (lv_at hl 0 rfl) ?_
        refine lv_lconst (v := (0 : Int64)) hx hb dX7_find_30 (by decide) ?_
        refine va_put (D := (dC, dI)) (ci := 4) (v := .long (0 : Int64)) (ty := .long) (C := RX7) (T := TX7) (N := 6) hx hb hts hinX7 tyX7 tyX7_ok nmX7 hown hK hP hD hS 0 (fs := (oV Q I L)) rfl rfl 4 (by decide) hk29 (fun _ h9 => h9) rfl (by decide +kernel) rfl rfl (Nat.le_of_ble_eq_true rfl) dX7_find_31 (fun H locs hP hD hS => ?_)
        have hP : va_P (dC, dI) vwCl (wV cI Q I (vp_updL L 4 (0 : Int64)) A) H := Eq.mp (congrArg (fun w => va_P (dC, dI) vwCl w H) (wVL_4 cI Q I L A (0 : Int64))) hP
        have hD : va_D AA (wV cI Q I (vp_updL L 4 (0 : Int64)) A) := Eq.mp (congrArg (fun w => va_D AA w) (wVL_4 cI Q I L A (0 : Int64))) hD
        refine lv_iload_n hx hb dX7_find_34 rfl (lv_at hl 3 rfl) ?_
        refine lv_istore (lv' := [(5, .int v3), (0, .ref (Q 100)), (1, .int v1), (2, .int v2), (3, .int v3), (4, .int v4)]) hx hb dX7_find_35 hl (by decide) rfl (fun ls hl => ?_)
        exact sg37  FU I (vp_updL L 4 (0 : Int64)) A v1 v2 v3 v4 v3 H locs ls hf hP hD hS (lv_sub hl [1, 2, 3, 4, 5, 0] rfl)
      · have hf := (if_neg c1).symm.trans hf
        refine lv_aload_n hx hb dX7_find_10 rfl (lv_at hl 0 rfl) ?_
        refine va_get (D := (dC, dI)) (ci := 4) (v := .ref (Q 2)) (C := RX7) (T := TX7) (N := 6) hx hb hts hinX7 hown hK hP 0 rfl rfl 2 (by decide) hk15 (fun _ h9 => h9) rfl dX7_find_11 ?_
        refine lv_iload hx hb dX7_find_14 (lv_at hl 5 rfl) ?_
        refine lv_aload_n hx hb dX7_find_16 rfl (lv_at hl 0 rfl) ?_
        refine lv_iload hx hb dX7_find_17 (lv_at hl 5 rfl) ?_
        obtain ⟨r2, hc3, hf⟩ := of_bind_some hf
        refine W.callR (r := r2) (W.runV (As := [.int v5]) (rest := [.int v5, .ref (Q 2)]) ⟨hx, hb, hml, hown, hts⟩ (mX7_nearest l en dC dI cI Q I L A v5 r2 hc3) (cwV 1 hts gX7_find_X7_nearest rfl rfl rfl (by decide +kernel) ⟨Nat.le_of_ble_eq_true rfl, Nat.le_of_ble_eq_true rfl⟩) ⟨blindRE, va_recv hK hP (ci := 4) (q0 := 0) rfl rfl, fun U hU hW => ⟨rfl, by rw [hU]; exact hP, va_K.moved hW.alike hK, cE_read hE hS hW hU⟩⟩ rfl rfl hl.1 rfl (lv_room (Nat.le_of_ble_eq_true rfl)) dX7_find_19 ⟨Nat.zero_le _, Nat.zero_le _⟩) ?_
        refine W.eq (g2 := F0 m 22 ls [.int r2, .int v5, .ref (Q 2)]) rfl ?_
        obtain ⟨g4, hf⟩ := of_ite_some hf
        refine va_iast hx hb hK hP hD hS 2 0 (n := 128) (f := (A 2)) rfl rfl g4 dX7_find_22 (fun H locs hP hD hS => ?_)
        have hP : va_P (dC, dI) vwCl (wV cI Q I L (va_up A 2 (upd (A 2) v5.toNatClampNeg r2))) H := Eq.mp (congrArg (fun w => va_P (dC, dI) vwCl w H) (wVA_2 cI Q I L A (upd (A 2) v5.toNatClampNeg r2))) hP
        have hD : va_D AA (wV cI Q I L (va_up A 2 (upd (A 2) v5.toNatClampNeg r2))) := Eq.mp (congrArg (fun w => va_D AA w) (wVA_2 cI Q I L A (upd (A 2) v5.toNatClampNeg r2))) hD
        refine lv_iinc (v := (v5 + (1 : Int32))) (lv' := [(5, .int (v5 + (1 : Int32))), (0, .ref (Q 100)), (1, .int v1), (2, .int v2), (3, .int v3), (4, .int v4)]) hx hb dX7_find_23 hl (k := 5) rfl rfl (by decide) rfl (fun ls hl => ?_)
        refine lv_goto (tgt := 3) hx hb dX7_find_26 (by decide) ?_
        exact ih3 I L (va_up A 2 (upd (A 2) v5.toNatClampNeg r2)) v1 v2 v3 v4 (v5 + (1 : Int32)) H locs ls hf hP hD hS (lv_sub hl [1, 2, 3, 4, 5, 0] rfl)
  have hl := lv_entry ([.ref (Q 100), .int x1, .int x2, .int x3, .int x4]) (n := 6) (Nat.le_of_ble_eq_true rfl)
  rw [lg_entry_eq]
  generalize (lg_sl ([.ref (Q 100), .int x1, .int x2, .int x3, .int x4]) ++ List.replicate (6 - (lg_sl ([.ref (Q 100), .int x1, .int x2, .int x3, .int x4])).length) Slot.unset).toArray = ls at hl ⊢
  have hl : lv_has ls 6 [(0, .ref (Q 100)), (1, .int x1), (2, .int x2), (3, .int x3), (4, .int x4)] := hl
  unfold fX7_find at hf
  refine lv_iload_n hx hb dX7_find_0 rfl (lv_at hl 3 rfl) ?_
  refine lv_istore (lv' := [(5, .int x3), (0, .ref (Q 100)), (1, .int x1), (2, .int x2), (3, .int x3), (4, .int x4)]) hx hb dX7_find_1 hl (by decide) rfl (fun ls hl => ?_)
  exact sg3  FU I L A x1 x2 x3 x4 x3 s.heap [] ls hf hP hD hS (lv_sub hl [1, 2, 3, 4, 5, 0] rfl)
