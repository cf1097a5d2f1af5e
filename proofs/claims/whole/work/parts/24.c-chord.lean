def fX1_has (I : Nat → Int32)  (x1 : Int32) : Option Int32 :=
  (if ((I 1) &&& x1) = 0 then (some (0 : Int32)) else (some (1 : Int32)))
set_option maxRecDepth 100000 in
set_option maxHeartbeats 4000000 in
theorem mX1_has (l : Launch) (dC : Nat → ClassId) (dI : Nat → Nat → Nat) (cI : ClassId) (Q : Nat → Nat) (I : Nat → Int32)  (x1 : Int32) (r : Int32) (hf : fX1_has I x1 = some r) : Met l yX1_has wsX1_has ({ frames := 0, cells := 0, slots := 0, locals := 0 }) (va_Pc [.ref (Q 100), .int x1] (fun U => va_P (dC, dI) vwCl (wK cI Q I) U.heap ∧ va_K (dC, dI) vwCl [(cI, .int)] U)) (QcRead r) 0 0 (fun _ => False) := by
  refine Met.ofW (cc := cX1_has) (maxL := 2) (ret := (some .boolean)) (by decide) rfl ?_
  intro p e s m args below meth c s₁ BL hml hv
  obtain ⟨rfl, hP, hK⟩ := hv
  have hx := BL.exec
  have hb := BL.bytes
  have hr := BL.returns
  have hts := atoms_spec (ws := wsX1_has) BL.pre
  have hown : s.vm.findClass RX1 = some m.cls := findClass_of_methodNamed BL.named
  have hlocks := BL.notSynchronized
  have hinX1 : ∀ w ∈ u_ws RX1 TX1 4, w ∈ wsX1_has := by decide +kernel
  have hk15 := hts (.fieldLink RX1 15 "LeadSheets$Chord" "steps" "I") (by decide +kernel)
  have hl := lv_entry ([.ref (Q 100), .int x1]) (n := 2) (Nat.le_of_ble_eq_true rfl)
  rw [lg_entry_eq]
  generalize (lg_sl ([.ref (Q 100), .int x1]) ++ List.replicate (2 - (lg_sl ([.ref (Q 100), .int x1])).length) Slot.unset).toArray = ls at hl ⊢
  have hl : lv_has ls 2 [(0, .ref (Q 100)), (1, .int x1)] := hl
  unfold fX1_has at hf
  refine lv_aload_n hx hb dX1_has_0 rfl (lv_at hl 0 rfl) ?_
  refine va_get (D := (dC, dI)) (ci := 0) (v := .int (I 1)) (C := RX1) (T := TX1) (N := 4) hx hb hts hinX1 hown hK hP 0 rfl rfl 1 (by decide) hk15 (fun _ h9 => h9) rfl dX1_has_1 ?_
  refine lv_iload_n hx hb dX1_has_4 rfl (lv_at hl 1 rfl) ?_
  refine lv_iand hx hb dX1_has_5 ?_
  refine lv_if_eq (tgt := 13) hx hb dX1_has_6 (by decide) (fun c1 => ?_) (fun c1 => ?_)
  · have hf := (if_pos c1).symm.trans hf
    refine lv_iconst (v := (0 : Int32)) hx hb dX1_has_13 (by decide) ?_
    exact W.zret (v := (0 : Int32)) hx hb hr rfl (fun t ht hW => ⟨congrArg (fun z => Outcome.returned (some (Value.int z))) (Option.some.inj hf), ht⟩) (fun _ h => nomatch h) dX1_has_14
  · have hf := (if_neg c1).symm.trans hf
    refine lv_iconst (v := (1 : Int32)) hx hb dX1_has_9 (by decide) ?_
    refine lv_goto (tgt := 14) hx hb dX1_has_10 (by decide) ?_
    exact W.zret (v := (1 : Int32)) hx hb hr rfl (fun t ht hW => ⟨congrArg (fun z => Outcome.returned (some (Value.int z))) (Option.some.inj hf), ht⟩) (fun _ h => nomatch h) dX1_has_14
def fX1_body (I : Nat → Int32)   : Option Int32 :=
  ((fX0_withSteps (I 1)).bind fun r1 => (some r1))
set_option maxRecDepth 100000 in
set_option maxHeartbeats 4000000 in
theorem mX1_body (l : Launch) (en : Nat → Nat) (dC : Nat → ClassId) (dI : Nat → Nat → Nat) (cI : ClassId) (Q : Nat → Nat) (I : Nat → Int32)   (r : Int32) (hf : fX1_body I = some r) : Met l yX1_body wsX1_body ({ frames := 2, cells := 0, slots := 0, locals := 42 }) (va_Pc [.ref (Q 100)] (fun U => va_P (dC, dI) vwCl (wK cI Q I) U.heap ∧ va_K (dC, dI) vwCl [(cI, .int)] U ∧ cE en NA U U.heap)) (QcRead r) 0 0 (fun _ => False) := by
  refine Met.ofW (cc := cX1_body) (maxL := 1) (ret := (some .int)) (by decide) rfl ?_
  intro p e s m args below meth c s₁ BL hml hv
  obtain ⟨rfl, hP, hK, hE⟩ := hv
  have hS : va_S NA s.heap s.heap [] := va_S.rf
  have hx := BL.exec
  have hb := BL.bytes
  have hr := BL.returns
  have hts := atoms_spec (ws := wsX1_body) BL.pre
  have hown : s.vm.findClass RX1 = some m.cls := findClass_of_methodNamed BL.named
  have hlocks := BL.notSynchronized
  have hinX1 : ∀ w ∈ u_ws RX1 TX1 4, w ∈ wsX1_body := by decide +kernel
  have hk15 := hts (.fieldLink RX1 15 "LeadSheets$Chord" "steps" "I") (by decide +kernel)
  have hl := lv_entry ([.ref (Q 100)]) (n := 1) (Nat.le_of_ble_eq_true rfl)
  rw [lg_entry_eq]
  generalize (lg_sl ([.ref (Q 100)]) ++ List.replicate (1 - (lg_sl ([.ref (Q 100)])).length) Slot.unset).toArray = ls at hl ⊢
  have hl : lv_has ls 1 [(0, .ref (Q 100))] := hl
  unfold fX1_body at hf
  refine lv_aload_n hx hb dX1_body_0 rfl (lv_at hl 0 rfl) ?_
  refine va_get (D := (dC, dI)) (ci := 0) (v := .int (I 1)) (C := RX1) (T := TX1) (N := 4) hx hb hts hinX1 hown hK hP 0 rfl rfl 1 (by decide) hk15 (fun _ h9 => h9) rfl dX1_body_1 ?_
  obtain ⟨r1, hc2, hf⟩ := of_bind_some hf
  refine W.callR (r := r1) (W.runS (As := [.int (I 1)]) (rest := []) ⟨hx, hb, hml, hown, hts⟩ (mX0_withSteps l en (I 1) r1 hc2) (va_cwS 1 hts gX1_body_X0_withSteps rfl rfl rfl (by decide +kernel) ⟨Nat.le_of_ble_eq_true rfl, Nat.le_of_ble_eq_true rfl⟩) ⟨blindS, fun U hU hW => ⟨rfl, cE_read hE hS hW hU⟩⟩ rfl rfl hl.1 rfl (lv_room (Nat.le_of_ble_eq_true rfl)) dX1_body_4 ⟨Nat.zero_le _, Nat.zero_le _⟩) ?_
  refine W.eq (g2 := F0 m 7 ls [.int r1]) rfl ?_
  exact W.iret (v := r1) hx hb hr (fun t ht hW => ⟨congrArg (fun z => Outcome.returned (some (Value.int z))) (Option.some.inj hf), ht⟩) (fun _ h => nomatch h) dX1_body_7
def fX1_pitches (I : Nat → Int32)   : Option Int32 :=
  ((fX3_pitch (I 0)).bind fun r1 => ((fX4_set r1 (I 1)).bind fun r3 => ((fX3_pitch (I 2)).bind fun r5 => (some (r3 ||| ((1 : Int32) <<< (r5 &&& 31)))))))
set_option maxRecDepth 100000 in
set_option maxHeartbeats 4000000 in
theorem mX1_pitches (l : Launch) (en : Nat → Nat) (dC : Nat → ClassId) (dI : Nat → Nat → Nat) (cI : ClassId) (Q : Nat → Nat) (I : Nat → Int32)   (r : Int32) (hf : fX1_pitches I = some r) : Met l yX1_pitches wsX1_pitches ({ frames := 3, cells := 0, slots := 0, locals := 64 }) (va_Pc [.ref (Q 100)] (fun U => va_P (dC, dI) vwCl (wK cI Q I) U.heap ∧ va_K (dC, dI) vwCl [(cI, .int)] U ∧ cE en NA U U.heap)) (QcRead r) 0 0 (fun _ => False) := by
  refine Met.ofW (cc := cX1_pitches) (maxL := 1) (ret := (some .int)) (by decide) rfl ?_
  intro p e s m args below meth c s₁ BL hml hv
  obtain ⟨rfl, hP, hK, hE⟩ := hv
  have hS : va_S NA s.heap s.heap [] := va_S.rf
  have hx := BL.exec
  have hb := BL.bytes
  have hr := BL.returns
  have hts := atoms_spec (ws := wsX1_pitches) BL.pre
  have hown : s.vm.findClass RX1 = some m.cls := findClass_of_methodNamed BL.named
  have hlocks := BL.notSynchronized
  have hinX1 : ∀ w ∈ u_ws RX1 TX1 4, w ∈ wsX1_pitches := by decide +kernel
  have hk9 := hts (.fieldLink RX1 9 "LeadSheets$Chord" "root" "I") (by decide +kernel)
  have hk15 := hts (.fieldLink RX1 15 "LeadSheets$Chord" "steps" "I") (by decide +kernel)
  have hk18 := hts (.fieldLink RX1 18 "LeadSheets$Chord" "bass" "I") (by decide +kernel)
  have hl := lv_entry ([.ref (Q 100)]) (n := 1) (Nat.le_of_ble_eq_true rfl)
  rw [lg_entry_eq]
  generalize (lg_sl ([.ref (Q 100)]) ++ List.replicate (1 - (lg_sl ([.ref (Q 100)])).length) Slot.unset).toArray = ls at hl ⊢
  have hl : lv_has ls 1 [(0, .ref (Q 100))] := hl
  unfold fX1_pitches at hf
  refine lv_aload_n hx hb dX1_pitches_0 rfl (lv_at hl 0 rfl) ?_
  refine va_get (D := (dC, dI)) (ci := 0) (v := .int (I 0)) (C := RX1) (T := TX1) (N := 4) hx hb hts hinX1 hown hK hP 0 rfl rfl 0 (by decide) hk9 (fun _ h9 => h9) rfl dX1_pitches_1 ?_
  obtain ⟨r1, hc2, hf⟩ := of_bind_some hf
  refine W.callR (r := r1) (W.runS (As := [.int (I 0)]) (rest := []) ⟨hx, hb, hml, hown, hts⟩ (mX3_pitch l en (I 0) r1 hc2) (va_cwS 1 hts gX1_pitches_X3_pitch rfl rfl rfl (by decide +kernel) ⟨Nat.le_of_ble_eq_true rfl, Nat.le_of_ble_eq_true rfl⟩) ⟨blindS, fun U hU hW => ⟨rfl, cE_read hE hS hW hU⟩⟩ rfl rfl hl.1 rfl (lv_room (Nat.le_of_ble_eq_true rfl)) dX1_pitches_4 ⟨Nat.zero_le _, Nat.zero_le _⟩) ?_
  refine W.eq (g2 := F0 m 7 ls [.int r1]) rfl ?_
  refine lv_aload_n hx hb dX1_pitches_7 rfl (lv_at hl 0 rfl) ?_
  refine va_get (D := (dC, dI)) (ci := 0) (v := .int (I 1)) (C := RX1) (T := TX1) (N := 4) hx hb hts hinX1 hown hK hP 0 rfl rfl 1 (by decide) hk15 (fun _ h9 => h9) rfl dX1_pitches_8 ?_
  obtain ⟨r3, hc4, hf⟩ := of_bind_some hf
  refine W.callR (r := r3) (W.runS (As := [.int r1, .int (I 1)]) (rest := []) ⟨hx, hb, hml, hown, hts⟩ (mX4_set l en r1 (I 1) r3 hc4) (va_cwS 2 hts gX1_pitches_X4_set rfl rfl rfl (by decide +kernel) ⟨Nat.le_of_ble_eq_true rfl, Nat.le_of_ble_eq_true rfl⟩) ⟨blindS, fun U hU hW => ⟨rfl, cE_read hE hS hW hU⟩⟩ rfl rfl hl.1 rfl (lv_room (Nat.le_of_ble_eq_true rfl)) dX1_pitches_11 ⟨Nat.zero_le _, Nat.zero_le _⟩) ?_
  refine W.eq (g2 := F0 m 14 ls [.int r3]) rfl ?_
  refine lv_iconst (v := (1 : Int32)) hx hb dX1_pitches_14 (by decide) ?_
  refine lv_aload_n hx hb dX1_pitches_15 rfl (lv_at hl 0 rfl) ?_
  refine va_get (D := (dC, dI)) (ci := 0) (v := .int (I 2)) (C := RX1) (T := TX1) (N := 4) hx hb hts hinX1 hown hK hP 0 rfl rfl 2 (by decide) hk18 (fun _ h9 => h9) rfl dX1_pitches_16 ?_
  obtain ⟨r5, hc6, hf⟩ := of_bind_some hf
  refine W.callR (r := r5) (W.runS (As := [.int (I 2)]) (rest := [.int (1 : Int32), .int r3]) ⟨hx, hb, hml, hown, hts⟩ (mX3_pitch l en (I 2) r5 hc6) (va_cwS 1 hts gX1_pitches_X3_pitch rfl rfl rfl (by decide +kernel) ⟨Nat.le_of_ble_eq_true rfl, Nat.le_of_ble_eq_true rfl⟩) ⟨blindS, fun U hU hW => ⟨rfl, cE_read hE hS hW hU⟩⟩ rfl rfl hl.1 rfl (lv_room (Nat.le_of_ble_eq_true rfl)) dX1_pitches_19 ⟨Nat.zero_le _, Nat.zero_le _⟩) ?_
  refine W.eq (g2 := F0 m 22 ls [.int r5, .int (1 : Int32), .int r3]) rfl ?_
  refine lv_ishl hx hb dX1_pitches_22 ?_
  refine lv_ior hx hb dX1_pitches_23 ?_
  exact W.iret (v := (r3 ||| ((1 : Int32) <<< (r5 &&& 31)))) hx hb hr (fun t ht hW => ⟨congrArg (fun z => Outcome.returned (some (Value.int z))) (Option.some.inj hf), ht⟩) (fun _ h => nomatch h) dX1_pitches_24
def fX1_degreeOfBass_2B (I : Nat → Int32)  (k2 : Int32 → Option Int32)  (v1 : Int32) : Option Int32 :=
  (if (19 : Int32) ≤ v1 then (some (0 : Int32)) else (if (fX4_isIn (I 1) v1) = 0 then (k2 (v1 + (1 : Int32))) else ((fX4_pitch (I 0) v1).bind fun r3 => ((fX3_pitch (I 2)).bind fun r5 => (if r3 = r5 then ((fX4_degree v1).bind fun r8 => (some r8)) else (k2 (v1 + (1 : Int32))))))))
def fX1_degreeOfBass_2 (I : Nat → Int32)  : Nat → (Int32 → Option Int32)
  | 0 => fun _ => none
  | n + 1 => fX1_degreeOfBass_2B I  (fX1_degreeOfBass_2 I  n)
def fX1_degreeOfBass (I : Nat → Int32)   : Option Int32 :=
  (fX1_degreeOfBass_2 I  FU (0 : Int32))
set_option maxRecDepth 100000 in
set_option maxHeartbeats 4000000 in
theorem mX1_degreeOfBass (l : Launch) (en : Nat → Nat) (dC : Nat → ClassId) (dI : Nat → Nat → Nat) (cI : ClassId) (Q : Nat → Nat) (I : Nat → Int32)   (r : Int32) (hf : fX1_degreeOfBass I = some r) : Met l yX1_degreeOfBass wsX1_degreeOfBass ({ frames := 4, cells := 0, slots := 0, locals := 82 }) (va_Pc [.ref (Q 100)] (fun U => va_P (dC, dI) vwCl (wK cI Q I) U.heap ∧ va_K (dC, dI) vwCl [(cI, .int)] U ∧ cE en NA U U.heap)) (QcRead r) 0 0 (fun _ => False) := by
  refine Met.ofW (cc := cX1_degreeOfBass) (maxL := 2) (ret := (some .int)) (by decide) rfl ?_
  intro p e s m args below meth c s₁ BL hml hv
  obtain ⟨rfl, hP, hK, hE⟩ := hv
  have hS : va_S NA s.heap s.heap [] := va_S.rf
  have hx := BL.exec
  have hb := BL.bytes
  have hr := BL.returns
  have hts := atoms_spec (ws := wsX1_degreeOfBass) BL.pre
  have hown : s.vm.findClass RX1 = some m.cls := findClass_of_methodNamed BL.named
  have hlocks := BL.notSynchronized
  have hinX1 : ∀ w ∈ u_ws RX1 TX1 4, w ∈ wsX1_degreeOfBass := by decide +kernel
  have hk9 := hts (.fieldLink RX1 9 "LeadSheets$Chord" "root" "I") (by decide +kernel)
  have hk15 := hts (.fieldLink RX1 15 "LeadSheets$Chord" "steps" "I") (by decide +kernel)
  have hk18 := hts (.fieldLink RX1 18 "LeadSheets$Chord" "bass" "I") (by decide +kernel)
  have sg2 : ∀ n : Nat, ∀  (v1 : Int32) (ls : Array Slot), fX1_degreeOfBass_2 I  n  v1 = some r → lv_has ls 2 [(0, .ref (Q 100)), (1, .int v1)] → W p l e (headSpec wsX1_degreeOfBass ({ frames := 4, cells := 0, slots := 0, locals := 82 })).room s m (([.ref (Q 100)] : List Value).toArray) below meth c s.heap [] 0 0 (MQ below (QcRead r) (([.ref (Q 100)] : List Value).toArray) s 0 0 (fun _ => False)) (F0 m 2 ls []) := by
    intro n
    induction n with
    | zero => intro v1 ls hf hl; exact of_none hf
    | succ n ih2 =>
      intro v1 ls hf hl
      change fX1_degreeOfBass_2B I  (fX1_degreeOfBass_2 I  n) v1 = _ at hf
      unfold fX1_degreeOfBass_2B at hf
      refine lv_iload_n hx hb dX1_degreeOfBass_2 rfl (lv_at hl 1 rfl) ?_
      refine lv_bipush (v := (19 : Int32)) hx hb dX1_degreeOfBass_3 (by decide) ?_
      refine lv_icmp_ge (tgt := 48) hx hb dX1_degreeOfBass_5 (by decide) (fun c1 => ?_) (fun c1 => ?_)
      · have hf := (if_pos c1).symm.trans hf
        refine lv_iconst (v := (0 : Int32)) hx hb dX1_degreeOfBass_48 (by decide) ?_
        exact W.iret (v := (0 : Int32)) hx hb hr (fun t ht hW => ⟨congrArg (fun z => Outcome.returned (some (Value.int z))) (Option.some.inj hf), ht⟩) (fun _ h => nomatch h) dX1_degreeOfBass_49
      · have hf := (if_neg c1).symm.trans hf
        refine lv_aload_n hx hb dX1_degreeOfBass_8 rfl (lv_at hl 0 rfl) ?_
        refine va_get (D := (dC, dI)) (ci := 0) (v := .int (I 1)) (C := RX1) (T := TX1) (N := 4) hx hb hts hinX1 hown hK hP 0 rfl rfl 1 (by decide) hk15 (fun _ h9 => h9) rfl dX1_degreeOfBass_9 ?_
        refine lv_iload_n hx hb dX1_degreeOfBass_12 rfl (lv_at hl 1 rfl) ?_
        refine W.callR (r := (fX4_isIn (I 1) v1)) (W.runS (As := [.int (I 1), .int v1]) (rest := []) ⟨hx, hb, hml, hown, hts⟩ (mX4_isIn l (I 1) v1 (fX4_isIn (I 1) v1) rfl) (va_cwS 2 hts gX1_degreeOfBass_X4_isIn rfl rfl rfl (by decide +kernel) ⟨Nat.le_of_ble_eq_true rfl, Nat.le_of_ble_eq_true rfl⟩) ⟨fun _ _ _ _ q => q, fun U hU hW => ⟨rfl, trivial⟩⟩ rfl rfl hl.1 rfl (lv_room (Nat.le_of_ble_eq_true rfl)) dX1_degreeOfBass_13 ⟨Nat.zero_le _, Nat.zero_le _⟩) ?_
        refine W.eq (g2 := F0 m 16 ls [.int (fX4_isIn (I 1) v1)]) rfl ?_
        refine lv_if_eq (tgt := 42) hx hb dX1_degreeOfBass_16 (by decide) (fun c2 => ?_) (fun c2 => ?_)
        · have hf := (if_pos c2).symm.trans hf
          refine lv_iinc (v := (v1 + (1 : Int32))) (lv' := [(1, .int (v1 + (1 : Int32))), (0, .ref (Q 100))]) hx hb dX1_degreeOfBass_42 hl (k := 1) rfl rfl (by decide) rfl (fun ls hl => ?_)
          refine lv_goto (tgt := 2) hx hb dX1_degreeOfBass_45 (by decide) ?_
          exact ih2 (v1 + (1 : Int32)) ls hf (lv_sub hl [1, 0] rfl)
        · have hf := (if_neg c2).symm.trans hf
          refine lv_aload_n hx hb dX1_degreeOfBass_19 rfl (lv_at hl 0 rfl) ?_
          refine va_get (D := (dC, dI)) (ci := 0) (v := .int (I 0)) (C := RX1) (T := TX1) (N := 4) hx hb hts hinX1 hown hK hP 0 rfl rfl 0 (by decide) hk9 (fun _ h9 => h9) rfl dX1_degreeOfBass_20 ?_
          refine lv_iload_n hx hb dX1_degreeOfBass_23 rfl (lv_at hl 1 rfl) ?_
          obtain ⟨r3, hc4, hf⟩ := of_bind_some hf
          refine W.callR (r := r3) (W.runS (As := [.int (I 0), .int v1]) (rest := []) ⟨hx, hb, hml, hown, hts⟩ (mX4_pitch l en (I 0) v1 r3 hc4) (va_cwS 2 hts gX1_degreeOfBass_X4_pitch rfl rfl rfl (by decide +kernel) ⟨Nat.le_of_ble_eq_true rfl, Nat.le_of_ble_eq_true rfl⟩) ⟨blindS, fun U hU hW => ⟨rfl, cE_read hE hS hW hU⟩⟩ rfl rfl hl.1 rfl (lv_room (Nat.le_of_ble_eq_true rfl)) dX1_degreeOfBass_24 ⟨Nat.zero_le _, Nat.zero_le _⟩) ?_
          refine W.eq (g2 := F0 m 27 ls [.int r3]) rfl ?_
          refine lv_aload_n hx hb dX1_degreeOfBass_27 rfl (lv_at hl 0 rfl) ?_
          refine va_get (D := (dC, dI)) (ci := 0) (v := .int (I 2)) (C := RX1) (T := TX1) (N := 4) hx hb hts hinX1 hown hK hP 0 rfl rfl 2 (by decide) hk18 (fun _ h9 => h9) rfl dX1_degreeOfBass_28 ?_
          obtain ⟨r5, hc6, hf⟩ := of_bind_some hf
          refine W.callR (r := r5) (W.runS (As := [.int (I 2)]) (rest := [.int r3]) ⟨hx, hb, hml, hown, hts⟩ (mX3_pitch l en (I 2) r5 hc6) (va_cwS 1 hts gX1_degreeOfBass_X3_pitch rfl rfl rfl (by decide +kernel) ⟨Nat.le_of_ble_eq_true rfl, Nat.le_of_ble_eq_true rfl⟩) ⟨blindS, fun U hU hW => ⟨rfl, cE_read hE hS hW hU⟩⟩ rfl rfl hl.1 rfl (lv_room (Nat.le_of_ble_eq_true rfl)) dX1_degreeOfBass_31 ⟨Nat.zero_le _, Nat.zero_le _⟩) ?_
          refine W.eq (g2 := F0 m 34 ls [.int r5, .int r3]) rfl ?_
          refine lv_icmp_ne (tgt := 42) hx hb dX1_degreeOfBass_34 (by decide) (fun c7 => ?_) (fun c7 => ?_)
          · have hf := (if_neg c7).symm.trans hf
            refine lv_iinc (v := (v1 + (1 : Int32))) (lv' := [(1, .int (v1 + (1 : Int32))), (0, .ref (Q 100))]) hx hb dX1_degreeOfBass_42 hl (k := 1) rfl rfl (by decide) rfl (fun ls hl => ?_)
            refine lv_goto (tgt := 2) hx hb dX1_degreeOfBass_45 (by decide) ?_
            exact ih2 (v1 + (1 : Int32)) ls hf (lv_sub hl [1, 0] rfl)
          · have hf := (if_pos c7).symm.trans hf
            refine lv_iload_n hx hb dX1_degreeOfBass_37 rfl (lv_at hl 1 rfl) ?_
            obtain ⟨r8, hc9, hf⟩ := of_bind_some hf
            refine W.callR (r := r8) (W.runS (As := [.int v1]) (rest := []) ⟨hx, hb, hml, hown, hts⟩ (mX4_degree l en v1 r8 hc9) (va_cwS 1 hts gX1_degreeOfBass_X4_degree rfl rfl rfl (by decide +kernel) ⟨Nat.le_of_ble_eq_true rfl, Nat.le_of_ble_eq_true rfl⟩) ⟨blindS, fun U hU hW => ⟨rfl, cE_read hE hS hW hU⟩⟩ rfl rfl hl.1 rfl (lv_room (Nat.le_of_ble_eq_true rfl)) dX1_degreeOfBass_38 ⟨Nat.zero_le _, Nat.zero_le _⟩) ?_
            refine W.eq (g2 := F0 m 41 ls [.int r8]) rfl ?_
            exact W.iret (v := r8) hx hb hr (fun t ht hW => ⟨congrArg (fun z => Outcome.returned (some (Value.int z))) (Option.some.inj hf), ht⟩) (fun _ h => nomatch h) dX1_degreeOfBass_41
  have hl := lv_entry ([.ref (Q 100)]) (n := 2) (Nat.le_of_ble_eq_true rfl)
  rw [lg_entry_eq]
  generalize (lg_sl ([.ref (Q 100)]) ++ List.replicate (2 - (lg_sl ([.ref (Q 100)])).length) Slot.unset).toArray = ls at hl ⊢
  have hl : lv_has ls 2 [(0, .ref (Q 100))] := hl
  unfold fX1_degreeOfBass at hf
  refine lv_iconst (v := (0 : Int32)) hx hb dX1_degreeOfBass_0 (by decide) ?_
  refine lv_istore_n (lv' := [(1, .int (0 : Int32)), (0, .ref (Q 100))]) hx hb dX1_degreeOfBass_1 rfl hl (by decide) rfl (fun ls hl => ?_)
  exact sg2  FU (0 : Int32) ls hf (lv_sub hl [1, 0] rfl)
