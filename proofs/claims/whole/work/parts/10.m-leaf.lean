def fX9_isIn   (x0 : Int32) (x1 : Int32) (x2 : Int32) : Int32 :=
  (if x0 < x1 then (0 : Int32) else (if x2 < x0 then (0 : Int32) else (1 : Int32)))
set_option maxRecDepth 100000 in
set_option maxHeartbeats 4000000 in
theorem mX9_isIn (l : Launch) (x0 : Int32) (x1 : Int32) (x2 : Int32) (r : Int32) (hf : fX9_isIn x0 x1 x2 = r) : Met l yX9_isIn wsX9_isIn ({ frames := 0, cells := 0, slots := 0, locals := 0 }) (va_Pc [.int x0, .int x1, .int x2] (fun _ => True)) (QcRead r) 0 0 (fun _ => False) := by
  refine Met.ofW (cc := cX9_isIn) (maxL := 3) (ret := (some .boolean)) (by decide) rfl ?_
  intro p e s m args below meth c s₁ BL hml hv
  obtain ⟨rfl, -⟩ := hv
  have hx := BL.exec
  have hb := BL.bytes
  have hr := BL.returns
  have hts := atoms_spec (ws := wsX9_isIn) BL.pre
  have hown : s.vm.findClass RX9 = some m.cls := findClass_of_methodNamed BL.named
  have hlocks := BL.notSynchronized
  have hl := lv_entry ([.int x0, .int x1, .int x2]) (n := 3) (Nat.le_of_ble_eq_true rfl)
  rw [lg_entry_eq]
  generalize (lg_sl ([.int x0, .int x1, .int x2]) ++ List.replicate (3 - (lg_sl ([.int x0, .int x1, .int x2])).length) Slot.unset).toArray = ls at hl ⊢
  have hl : lv_has ls 3 [(0, .int x0), (1, .int x1), (2, .int x2)] := hl
  unfold fX9_isIn at hf
  refine lv_iload_n hx hb dX9_isIn_0 rfl (lv_at hl 0 rfl) ?_
  refine lv_iload_n hx hb dX9_isIn_1 rfl (lv_at hl 1 rfl) ?_
  refine lv_icmp_lt (tgt := 14) hx hb dX9_isIn_2 (by decide) (fun c1 => ?_) (fun c1 => ?_)
  · have hf := (if_pos c1).symm.trans hf
    refine lv_iconst (v := (0 : Int32)) hx hb dX9_isIn_14 (by decide) ?_
    exact W.zret (v := (0 : Int32)) hx hb hr rfl (fun t ht hW => ⟨congrArg (fun z => Outcome.returned (some (Value.int z))) hf, ht⟩) (fun _ h => nomatch h) dX9_isIn_15
  · have hf := (if_neg c1).symm.trans hf
    refine lv_iload_n hx hb dX9_isIn_5 rfl (lv_at hl 0 rfl) ?_
    refine lv_iload_n hx hb dX9_isIn_6 rfl (lv_at hl 2 rfl) ?_
    refine lv_icmp_gt (tgt := 14) hx hb dX9_isIn_7 (by decide) (fun c2 => ?_) (fun c2 => ?_)
    · have hf := (if_pos c2).symm.trans hf
      refine lv_iconst (v := (0 : Int32)) hx hb dX9_isIn_14 (by decide) ?_
      exact W.zret (v := (0 : Int32)) hx hb hr rfl (fun t ht hW => ⟨congrArg (fun z => Outcome.returned (some (Value.int z))) hf, ht⟩) (fun _ h => nomatch h) dX9_isIn_15
    · have hf := (if_neg c2).symm.trans hf
      refine lv_iconst (v := (1 : Int32)) hx hb dX9_isIn_10 (by decide) ?_
      refine lv_goto (tgt := 15) hx hb dX9_isIn_11 (by decide) ?_
      exact W.zret (v := (1 : Int32)) hx hb hr rfl (fun t ht hW => ⟨congrArg (fun z => Outcome.returned (some (Value.int z))) hf, ht⟩) (fun _ h => nomatch h) dX9_isIn_15
def fX9_mod12   (x0 : Int32) : Int32 :=
  (jrem ((jrem x0 (12 : Int32)) + (12 : Int32)) (12 : Int32))
set_option maxRecDepth 100000 in
set_option maxHeartbeats 4000000 in
theorem mX9_mod12 (l : Launch) (x0 : Int32) (r : Int32) (hf : fX9_mod12 x0 = r) : Met l yX9_mod12 wsX9_mod12 ({ frames := 0, cells := 0, slots := 0, locals := 0 }) (va_Pc [.int x0] (fun _ => True)) (QcRead r) 0 0 (fun _ => False) := by
  refine Met.ofW (cc := cX9_mod12) (maxL := 1) (ret := (some .int)) (by decide) rfl ?_
  intro p e s m args below meth c s₁ BL hml hv
  obtain ⟨rfl, -⟩ := hv
  have hx := BL.exec
  have hb := BL.bytes
  have hr := BL.returns
  have hts := atoms_spec (ws := wsX9_mod12) BL.pre
  have hown : s.vm.findClass RX9 = some m.cls := findClass_of_methodNamed BL.named
  have hlocks := BL.notSynchronized
  have hl := lv_entry ([.int x0]) (n := 1) (Nat.le_of_ble_eq_true rfl)
  rw [lg_entry_eq]
  generalize (lg_sl ([.int x0]) ++ List.replicate (1 - (lg_sl ([.int x0])).length) Slot.unset).toArray = ls at hl ⊢
  have hl : lv_has ls 1 [(0, .int x0)] := hl
  unfold fX9_mod12 at hf
  refine lv_iload_n hx hb dX9_mod12_0 rfl (lv_at hl 0 rfl) ?_
  refine lv_bipush (v := (12 : Int32)) hx hb dX9_mod12_1 (by decide) ?_
  refine lv_irem hx hb dX9_mod12_3 (by decide) ?_
  refine W.eq (g2 := F0 m 4 ls [.int (jrem x0 (12 : Int32))]) rfl ?_
  refine lv_bipush (v := (12 : Int32)) hx hb dX9_mod12_4 (by decide) ?_
  refine lv_iadd hx hb dX9_mod12_6 ?_
  refine lv_bipush (v := (12 : Int32)) hx hb dX9_mod12_7 (by decide) ?_
  refine lv_irem hx hb dX9_mod12_9 (by decide) ?_
  refine W.eq (g2 := F0 m 10 ls [.int (jrem ((jrem x0 (12 : Int32)) + (12 : Int32)) (12 : Int32))]) rfl ?_
  exact W.iret (v := (jrem ((jrem x0 (12 : Int32)) + (12 : Int32)) (12 : Int32))) hx hb hr (fun t ht hW => ⟨congrArg (fun z => Outcome.returned (some (Value.int z))) hf, ht⟩) (fun _ h => nomatch h) dX9_mod12_10
def fX9_size   (x0 : Int32) : Int32 :=
  (if 0 ≤ x0 then x0 else (-x0))
set_option maxRecDepth 100000 in
set_option maxHeartbeats 4000000 in
theorem mX9_size (l : Launch) (x0 : Int32) (r : Int32) (hf : fX9_size x0 = r) : Met l yX9_size wsX9_size ({ frames := 0, cells := 0, slots := 0, locals := 0 }) (va_Pc [.int x0] (fun _ => True)) (QcRead r) 0 0 (fun _ => False) := by
  refine Met.ofW (cc := cX9_size) (maxL := 1) (ret := (some .int)) (by decide) rfl ?_
  intro p e s m args below meth c s₁ BL hml hv
  obtain ⟨rfl, -⟩ := hv
  have hx := BL.exec
  have hb := BL.bytes
  have hr := BL.returns
  have hts := atoms_spec (ws := wsX9_size) BL.pre
  have hown : s.vm.findClass RX9 = some m.cls := findClass_of_methodNamed BL.named
  have hlocks := BL.notSynchronized
  have hl := lv_entry ([.int x0]) (n := 1) (Nat.le_of_ble_eq_true rfl)
  rw [lg_entry_eq]
  generalize (lg_sl ([.int x0]) ++ List.replicate (1 - (lg_sl ([.int x0])).length) Slot.unset).toArray = ls at hl ⊢
  have hl : lv_has ls 1 [(0, .int x0)] := hl
  unfold fX9_size at hf
  refine lv_iload_n hx hb dX9_size_0 rfl (lv_at hl 0 rfl) ?_
  refine lv_if_ge (tgt := 9) hx hb dX9_size_1 (by decide) (fun c1 => ?_) (fun c1 => ?_)
  · have hf := (if_pos c1).symm.trans hf
    refine lv_iload_n hx hb dX9_size_9 rfl (lv_at hl 0 rfl) ?_
    exact W.iret (v := x0) hx hb hr (fun t ht hW => ⟨congrArg (fun z => Outcome.returned (some (Value.int z))) hf, ht⟩) (fun _ h => nomatch h) dX9_size_10
  · have hf := (if_neg c1).symm.trans hf
    refine lv_iload_n hx hb dX9_size_4 rfl (lv_at hl 0 rfl) ?_
    refine lv_ineg hx hb dX9_size_5 ?_
    refine lv_goto (tgt := 10) hx hb dX9_size_6 (by decide) ?_
    exact W.iret (v := (-x0)) hx hb hr (fun t ht hW => ⟨congrArg (fun z => Outcome.returned (some (Value.int z))) hf, ht⟩) (fun _ h => nomatch h) dX9_size_10
def fX9_pitchOf   (x0 : Int32) : Int32 :=
  (if (3 : Int32) ≤ x0 then (((2 : Int32) * x0) - (1 : Int32)) else ((2 : Int32) * x0))
set_option maxRecDepth 100000 in
set_option maxHeartbeats 4000000 in
theorem mX9_pitchOf (l : Launch) (x0 : Int32) (r : Int32) (hf : fX9_pitchOf x0 = r) : Met l yX9_pitchOf wsX9_pitchOf ({ frames := 0, cells := 0, slots := 0, locals := 0 }) (va_Pc [.int x0] (fun _ => True)) (QcRead r) 0 0 (fun _ => False) := by
  refine Met.ofW (cc := cX9_pitchOf) (maxL := 1) (ret := (some .int)) (by decide) rfl ?_
  intro p e s m args below meth c s₁ BL hml hv
  obtain ⟨rfl, -⟩ := hv
  have hx := BL.exec
  have hb := BL.bytes
  have hr := BL.returns
  have hts := atoms_spec (ws := wsX9_pitchOf) BL.pre
  have hown : s.vm.findClass RX9 = some m.cls := findClass_of_methodNamed BL.named
  have hlocks := BL.notSynchronized
  have hl := lv_entry ([.int x0]) (n := 1) (Nat.le_of_ble_eq_true rfl)
  rw [lg_entry_eq]
  generalize (lg_sl ([.int x0]) ++ List.replicate (1 - (lg_sl ([.int x0])).length) Slot.unset).toArray = ls at hl ⊢
  have hl : lv_has ls 1 [(0, .int x0)] := hl
  unfold fX9_pitchOf at hf
  refine lv_iload_n hx hb dX9_pitchOf_0 rfl (lv_at hl 0 rfl) ?_
  refine lv_iconst (v := (3 : Int32)) hx hb dX9_pitchOf_1 (by decide) ?_
  refine lv_icmp_ge (tgt := 11) hx hb dX9_pitchOf_2 (by decide) (fun c1 => ?_) (fun c1 => ?_)
  · have hf := (if_pos c1).symm.trans hf
    refine lv_iconst (v := (2 : Int32)) hx hb dX9_pitchOf_11 (by decide) ?_
    refine lv_iload_n hx hb dX9_pitchOf_12 rfl (lv_at hl 0 rfl) ?_
    refine lv_imul hx hb dX9_pitchOf_13 ?_
    refine lv_iconst (v := (1 : Int32)) hx hb dX9_pitchOf_14 (by decide) ?_
    refine lv_isub hx hb dX9_pitchOf_15 ?_
    exact W.iret (v := (((2 : Int32) * x0) - (1 : Int32))) hx hb hr (fun t ht hW => ⟨congrArg (fun z => Outcome.returned (some (Value.int z))) hf, ht⟩) (fun _ h => nomatch h) dX9_pitchOf_16
  · have hf := (if_neg c1).symm.trans hf
    refine lv_iconst (v := (2 : Int32)) hx hb dX9_pitchOf_5 (by decide) ?_
    refine lv_iload_n hx hb dX9_pitchOf_6 rfl (lv_at hl 0 rfl) ?_
    refine lv_imul hx hb dX9_pitchOf_7 ?_
    refine lv_goto (tgt := 16) hx hb dX9_pitchOf_8 (by decide) ?_
    exact W.iret (v := ((2 : Int32) * x0)) hx hb hr (fun t ht hW => ⟨congrArg (fun z => Outcome.returned (some (Value.int z))) hf, ht⟩) (fun _ h => nomatch h) dX9_pitchOf_16
def fX9_signsOf   (x0 : Int32) (x1 : Int32) (x2 : Int32) (x3 : Int32) : Int32 :=
  ((fX9_mod12 (((((fX9_pitchOf x0) + x1) + x2) - (fX9_pitchOf (jrem ((x0 + x3) - (1 : Int32)) (7 : Int32)))) + (6 : Int32))) - (6 : Int32))
set_option maxRecDepth 100000 in
set_option maxHeartbeats 4000000 in
theorem mX9_signsOf (l : Launch) (x0 : Int32) (x1 : Int32) (x2 : Int32) (x3 : Int32) (r : Int32) (hf : fX9_signsOf x0 x1 x2 x3 = r) : Met l yX9_signsOf wsX9_signsOf ({ frames := 1, cells := 0, slots := 0, locals := 20 }) (va_Pc [.int x0, .int x1, .int x2, .int x3] (fun _ => True)) (QcRead r) 0 0 (fun _ => False) := by
  refine Met.ofW (cc := cX9_signsOf) (maxL := 5) (ret := (some .int)) (by decide) rfl ?_
  intro p e s m args below meth c s₁ BL hml hv
  obtain ⟨rfl, -⟩ := hv
  have hx := BL.exec
  have hb := BL.bytes
  have hr := BL.returns
  have hts := atoms_spec (ws := wsX9_signsOf) BL.pre
  have hown : s.vm.findClass RX9 = some m.cls := findClass_of_methodNamed BL.named
  have hlocks := BL.notSynchronized
  have hl := lv_entry ([.int x0, .int x1, .int x2, .int x3]) (n := 5) (Nat.le_of_ble_eq_true rfl)
  rw [lg_entry_eq]
  generalize (lg_sl ([.int x0, .int x1, .int x2, .int x3]) ++ List.replicate (5 - (lg_sl ([.int x0, .int x1, .int x2, .int x3])).length) Slot.unset).toArray = ls at hl ⊢
  have hl : lv_has ls 5 [(0, .int x0), (1, .int x1), (2, .int x2), (3, .int x3)] := hl
  unfold fX9_signsOf at hf
  refine lv_iload_n hx hb dX9_signsOf_0 rfl (lv_at hl 0 rfl) ?_
  refine lv_iload_n hx hb dX9_signsOf_1 rfl (lv_at hl 3 rfl) ?_
  refine lv_iadd hx hb dX9_signsOf_2 ?_
  refine lv_iconst (v := (1 : Int32)) hx hb dX9_signsOf_3 (by decide) ?_
  refine lv_isub hx hb dX9_signsOf_4 ?_
  refine lv_bipush (v := (7 : Int32)) hx hb dX9_signsOf_5 (by decide) ?_
  refine lv_irem hx hb dX9_signsOf_7 (by decide) ?_
  refine W.eq (g2 := F0 m 8 ls [.int (jrem ((x0 + x3) - (1 : Int32)) (7 : Int32))]) rfl ?_
  refine lv_istore (lv' := [(4, .int (jrem ((x0 + x3) - (1 : Int32)) (7 : Int32))), (0, .int x0), (1, .int x1), (2, .int x2), (3, .int x3)]) hx hb dX9_signsOf_8 hl (by decide) rfl (fun ls hl => ?_)
  refine lv_iload_n hx hb dX9_signsOf_10 rfl (lv_at hl 1 rfl) ?_
  refine W.callR (r := (fX9_pitchOf x0)) (W.runS (As := [.int x0]) (rest := []) ⟨hx, hb, hml, hown, hts⟩ (mX9_pitchOf l x0 (fX9_pitchOf x0) rfl) (va_cwS 1 hts gX9_signsOf_X9_pitchOf rfl rfl rfl (by decide +kernel) ⟨Nat.le_of_ble_eq_true rfl, Nat.le_of_ble_eq_true rfl⟩) ⟨fun _ _ _ _ q => q, fun U hU hW => ⟨rfl, trivial⟩⟩ rfl rfl hl.1 rfl (lv_room (Nat.le_of_ble_eq_true rfl)) dX9_signsOf_11 ⟨Nat.zero_le _, Nat.zero_le _⟩) ?_
  refine W.eq (g2 := F0 m 14 ls [.int (fX9_pitchOf x0)]) rfl ?_
  refine lv_iload_n hx hb dX9_signsOf_14 rfl (lv_at hl 2 rfl) ?_
  refine lv_iadd hx hb dX9_signsOf_15 ?_
  refine lv_iload_n hx hb dX9_signsOf_16 rfl (lv_at hl 3 rfl) ?_
  refine lv_iadd hx hb dX9_signsOf_17 ?_
  refine lv_iload hx hb dX9_signsOf_18 (lv_at hl 0 rfl) ?_
  refine W.callR (r := (fX9_pitchOf (jrem ((x0 + x3) - (1 : Int32)) (7 : Int32)))) (W.runS (As := [.int (jrem ((x0 + x3) - (1 : Int32)) (7 : Int32))]) (rest := [.int (((fX9_pitchOf x0) + x1) + x2)]) ⟨hx, hb, hml, hown, hts⟩ (mX9_pitchOf l (jrem ((x0 + x3) - (1 : Int32)) (7 : Int32)) (fX9_pitchOf (jrem ((x0 + x3) - (1 : Int32)) (7 : Int32))) rfl) (va_cwS 1 hts gX9_signsOf_X9_pitchOf rfl rfl rfl (by decide +kernel) ⟨Nat.le_of_ble_eq_true rfl, Nat.le_of_ble_eq_true rfl⟩) ⟨fun _ _ _ _ q => q, fun U hU hW => ⟨rfl, trivial⟩⟩ rfl rfl hl.1 rfl (lv_room (Nat.le_of_ble_eq_true rfl)) dX9_signsOf_20 ⟨Nat.zero_le _, Nat.zero_le _⟩) ?_
  refine W.eq (g2 := F0 m 23 ls [.int (fX9_pitchOf (jrem ((x0 + x3) - (1 : Int32)) (7 : Int32))), .int (((fX9_pitchOf x0) + x1) + x2)]) rfl ?_
  refine lv_isub hx hb dX9_signsOf_23 ?_
  refine lv_bipush (v := (6 : Int32)) hx hb dX9_signsOf_24 (by decide) ?_
  refine lv_iadd hx hb dX9_signsOf_26 ?_
  refine W.callR (r := (fX9_mod12 (((((fX9_pitchOf x0) + x1) + x2) - (fX9_pitchOf (jrem ((x0 + x3) - (1 : Int32)) (7 : Int32)))) + (6 : Int32)))) (W.runS (As := [.int (((((fX9_pitchOf x0) + x1) + x2) - (fX9_pitchOf (jrem ((x0 + x3) - (1 : Int32)) (7 : Int32)))) + (6 : Int32))]) (rest := []) ⟨hx, hb, hml, hown, hts⟩ (mX9_mod12 l (((((fX9_pitchOf x0) + x1) + x2) - (fX9_pitchOf (jrem ((x0 + x3) - (1 : Int32)) (7 : Int32)))) + (6 : Int32)) (fX9_mod12 (((((fX9_pitchOf x0) + x1) + x2) - (fX9_pitchOf (jrem ((x0 + x3) - (1 : Int32)) (7 : Int32)))) + (6 : Int32))) rfl) (va_cwS 1 hts gX9_signsOf_X9_mod12 rfl rfl rfl (by decide +kernel) ⟨Nat.le_of_ble_eq_true rfl, Nat.le_of_ble_eq_true rfl⟩) ⟨fun _ _ _ _ q => q, fun U hU hW => ⟨rfl, trivial⟩⟩ rfl rfl hl.1 rfl (lv_room (Nat.le_of_ble_eq_true rfl)) dX9_signsOf_27 ⟨Nat.zero_le _, Nat.zero_le _⟩) ?_
  refine W.eq (g2 := F0 m 30 ls [.int (fX9_mod12 (((((fX9_pitchOf x0) + x1) + x2) - (fX9_pitchOf (jrem ((x0 + x3) - (1 : Int32)) (7 : Int32)))) + (6 : Int32)))]) rfl ?_
  refine lv_bipush (v := (6 : Int32)) hx hb dX9_signsOf_30 (by decide) ?_
  refine lv_isub hx hb dX9_signsOf_32 ?_
  exact W.iret (v := ((fX9_mod12 (((((fX9_pitchOf x0) + x1) + x2) - (fX9_pitchOf (jrem ((x0 + x3) - (1 : Int32)) (7 : Int32)))) + (6 : Int32))) - (6 : Int32))) hx hb hr (fun t ht hW => ⟨congrArg (fun z => Outcome.returned (some (Value.int z))) hf, ht⟩) (fun _ h => nomatch h) dX9_signsOf_33
def fX9_lengthOf_2B   (k2 : Int64 → Int32 → Option Int32)  (v0 : Int64) (v2 : Int32) : Option Int32 :=
  (if (lg_cmp (v0 >>> (((8 : Int32) * v2).toInt64 &&& 63)) (0 : Int64)) = 0 then (some v2) else (k2 v0 (v2 + (1 : Int32))))
def fX9_lengthOf_2   : Nat → (Int64 → Int32 → Option Int32)
  | 0 => fun _ _ => none
  | n + 1 => fX9_lengthOf_2B   (fX9_lengthOf_2   n)
def fX9_lengthOf   (x0 : Int64) : Option Int32 :=
  (fX9_lengthOf_2   FU x0 (0 : Int32))
set_option maxRecDepth 100000 in
set_option maxHeartbeats 4000000 in
theorem mX9_lengthOf (l : Launch) (x0 : Int64) (r : Int32) (hf : fX9_lengthOf x0 = some r) : Met l yX9_lengthOf wsX9_lengthOf ({ frames := 0, cells := 0, slots := 0, locals := 0 }) (va_Pc [.long x0] (fun _ => True)) (QcRead r) 0 0 (fun _ => False) := by
  refine Met.ofW (cc := cX9_lengthOf) (maxL := 3) (ret := (some .int)) (by decide) rfl ?_
  intro p e s m args below meth c s₁ BL hml hv
  obtain ⟨rfl, -⟩ := hv
  have hx := BL.exec
  have hb := BL.bytes
  have hr := BL.returns
  have hts := atoms_spec (ws := wsX9_lengthOf) BL.pre
  have hown : s.vm.findClass RX9 = some m.cls := findClass_of_methodNamed BL.named
  have hlocks := BL.notSynchronized
  have sg2 : ∀ n : Nat, ∀  (v0 : Int64) (v2 : Int32) (ls : Array Slot), fX9_lengthOf_2   n  v0 v2 = some r → lv_has ls 3 [(0, .long v0), (2, .int v2)] → W p l e (headSpec wsX9_lengthOf ({ frames := 0, cells := 0, slots := 0, locals := 0 })).room s m (([.long x0] : List Value).toArray) below meth c s.heap [] 0 0 (MQ below (QcRead r) (([.long x0] : List Value).toArray) s 0 0 (fun _ => False)) (F0 m 2 ls []) := by
    intro n
    induction n with
    | zero => intro v0 v2 ls hf hl; exact of_none hf
    | succ n ih2 =>
      intro v0 v2 ls hf hl
      change fX9_lengthOf_2B   (fX9_lengthOf_2   n) v0 v2 = _ at hf
      unfold fX9_lengthOf_2B at hf
      refine lv_lload_n hx hb dX9_lengthOf_2 rfl (lv_at hl 0 rfl) ?_
      refine lv_bipush (v := (8 : Int32)) hx hb dX9_lengthOf_3 (by decide) ?_
      refine lv_iload_n hx hb dX9_lengthOf_5 rfl (lv_at hl 1 rfl) ?_
      refine lv_imul hx hb dX9_lengthOf_6 ?_
      refine lv_lshr (v := (v0 >>> (((8 : Int32) * v2).toInt64 &&& 63))) hx hb dX9_lengthOf_7 rfl ?_
      refine lv_lconst (v := (0 : Int64)) hx hb dX9_lengthOf_8 (by decide) ?_
      refine W.lcmp hx hb dX9_lengthOf_9 ?_
      refine lv_if_eq (tgt := 19) hx hb dX9_lengthOf_10 (by decide) (fun c1 => ?_) (fun c1 => ?_)
      · have hf := (if_pos c1).symm.trans hf
        refine lv_iload_n hx hb dX9_lengthOf_19 rfl (lv_at hl 1 rfl) ?_
        exact W.iret (v := v2) hx hb hr (fun t ht hW => ⟨congrArg (fun z => Outcome.returned (some (Value.int z))) (Option.some.inj hf), ht⟩) (fun _ h => nomatch h) dX9_lengthOf_20
      · have hf := (if_neg c1).symm.trans hf
        refine lv_iinc (v := (v2 + (1 : Int32))) (lv' := [(2, .int (v2 + (1 : Int32))), (0, .long v0)]) hx hb dX9_lengthOf_13 hl (k := 1) rfl rfl (by decide) rfl (fun ls hl => ?_)
        refine lv_goto (tgt := 2) hx hb dX9_lengthOf_16 (by decide) ?_
        exact ih2 v0 (v2 + (1 : Int32)) ls hf (lv_sub hl [1, 0] rfl)
  have hl := lv_entry ([.long x0]) (n := 3) (Nat.le_of_ble_eq_true rfl)
  rw [lg_entry_eq]
  generalize (lg_sl ([.long x0]) ++ List.replicate (3 - (lg_sl ([.long x0])).length) Slot.unset).toArray = ls at hl ⊢
  have hl : lv_has ls 3 [(0, .long x0)] := hl
  unfold fX9_lengthOf at hf
  refine lv_iconst (v := (0 : Int32)) hx hb dX9_lengthOf_0 (by decide) ?_
  refine lv_istore_n (lv' := [(2, .int (0 : Int32)), (0, .long x0)]) hx hb dX9_lengthOf_1 rfl hl (by decide) rfl (fun ls hl => ?_)
  exact sg2  FU x0 (0 : Int32) ls hf (lv_sub hl [1, 0] rfl)
def fX9_byteOf   (x0 : Int64) (x2 : Int32) : Option Int32 :=
  ((fX9_lengthOf x0).bind fun r1 => (some (((x0 >>> (((8 : Int32) * ((r1 - (1 : Int32)) - x2)).toInt64 &&& 63)).toInt32) &&& (255 : Int32))))
set_option maxRecDepth 100000 in
set_option maxHeartbeats 4000000 in
theorem mX9_byteOf (l : Launch) (x0 : Int64) (x2 : Int32) (r : Int32) (hf : fX9_byteOf x0 x2 = some r) : Met l yX9_byteOf wsX9_byteOf ({ frames := 1, cells := 0, slots := 0, locals := 22 }) (va_Pc [.long x0, .int x2] (fun _ => True)) (QcRead r) 0 0 (fun _ => False) := by
  refine Met.ofW (cc := cX9_byteOf) (maxL := 3) (ret := (some .int)) (by decide) rfl ?_
  intro p e s m args below meth c s₁ BL hml hv
  obtain ⟨rfl, -⟩ := hv
  have hx := BL.exec
  have hb := BL.bytes
  have hr := BL.returns
  have hts := atoms_spec (ws := wsX9_byteOf) BL.pre
  have hown : s.vm.findClass RX9 = some m.cls := findClass_of_methodNamed BL.named
  have hlocks := BL.notSynchronized
  have hl := lv_entry ([.long x0, .int x2]) (n := 3) (Nat.le_of_ble_eq_true rfl)
  rw [lg_entry_eq]
  generalize (lg_sl ([.long x0, .int x2]) ++ List.replicate (3 - (lg_sl ([.long x0, .int x2])).length) Slot.unset).toArray = ls at hl ⊢
  have hl : lv_has ls 3 [(0, .long x0), (2, .int x2)] := hl
  unfold fX9_byteOf at hf
  refine lv_lload_n hx hb dX9_byteOf_0 rfl (lv_at hl 0 rfl) ?_
  refine lv_bipush (v := (8 : Int32)) hx hb dX9_byteOf_1 (by decide) ?_
  refine lv_lload_n hx hb dX9_byteOf_3 rfl (lv_at hl 0 rfl) ?_
  obtain ⟨r1, hc2, hf⟩ := of_bind_some hf
  refine W.callR (r := r1) (W.runS (As := [.long x0]) (rest := [.int (8 : Int32), .long x0]) ⟨hx, hb, hml, hown, hts⟩ (mX9_lengthOf l x0 r1 hc2) (va_cwS 1 hts gX9_byteOf_X9_lengthOf rfl rfl rfl (by decide +kernel) ⟨Nat.le_of_ble_eq_true rfl, Nat.le_of_ble_eq_true rfl⟩) ⟨fun _ _ _ _ q => q, fun U hU hW => ⟨rfl, trivial⟩⟩ rfl rfl hl.1 rfl (lv_room (Nat.le_of_ble_eq_true rfl)) dX9_byteOf_4 ⟨Nat.zero_le _, Nat.zero_le _⟩) ?_
  refine W.eq (g2 := F0 m 7 ls [.int r1, .int (8 : Int32), .long x0]) rfl ?_
  refine lv_iconst (v := (1 : Int32)) hx hb dX9_byteOf_7 (by decide) ?_
  refine lv_isub hx hb dX9_byteOf_8 ?_
  refine lv_iload_n hx hb dX9_byteOf_9 rfl (lv_at hl 1 rfl) ?_
  refine lv_isub hx hb dX9_byteOf_10 ?_
  refine lv_imul hx hb dX9_byteOf_11 ?_
  refine lv_lshr (v := (x0 >>> (((8 : Int32) * ((r1 - (1 : Int32)) - x2)).toInt64 &&& 63))) hx hb dX9_byteOf_12 rfl ?_
  refine lv_l2i (v := ((x0 >>> (((8 : Int32) * ((r1 - (1 : Int32)) - x2)).toInt64 &&& 63)).toInt32)) hx hb dX9_byteOf_13 rfl ?_
  refine lv_sipush (v := (255 : Int32)) hx hb dX9_byteOf_14 (by decide) ?_
  refine lv_iand hx hb dX9_byteOf_17 ?_
  exact W.iret (v := (((x0 >>> (((8 : Int32) * ((r1 - (1 : Int32)) - x2)).toInt64 &&& 63)).toInt32) &&& (255 : Int32))) hx hb hr (fun t ht hW => ⟨congrArg (fun z => Outcome.returned (some (Value.int z))) (Option.some.inj hf), ht⟩) (fun _ h => nomatch h) dX9_byteOf_18
def fX9_letterOf_2B   (k2 : Int32 → Int32 → Int32 → Option Int32)  (v0 : Int32) (v1 : Int32) (v2 : Int32) : Option Int32 :=
  (if (7 : Int32) ≤ v2 then (some (-2 : Int32)) else (if (fX9_mod12 ((fX9_pitchOf v2) + v1)) = v0 then (some v2) else (k2 v0 v1 (v2 + (1 : Int32)))))
def fX9_letterOf_2   : Nat → (Int32 → Int32 → Int32 → Option Int32)
  | 0 => fun _ _ _ => none
  | n + 1 => fX9_letterOf_2B   (fX9_letterOf_2   n)
def fX9_letterOf   (x0 : Int32) (x1 : Int32) : Option Int32 :=
  (fX9_letterOf_2   FU x0 x1 (0 : Int32))
set_option maxRecDepth 100000 in
set_option maxHeartbeats 4000000 in
theorem mX9_letterOf (l : Launch) (x0 : Int32) (x1 : Int32) (r : Int32) (hf : fX9_letterOf x0 x1 = some r) : Met l yX9_letterOf wsX9_letterOf ({ frames := 1, cells := 0, slots := 0, locals := 20 }) (va_Pc [.int x0, .int x1] (fun _ => True)) (QcRead r) 0 0 (fun _ => False) := by
  refine Met.ofW (cc := cX9_letterOf) (maxL := 3) (ret := (some .int)) (by decide) rfl ?_
  intro p e s m args below meth c s₁ BL hml hv
  obtain ⟨rfl, -⟩ := hv
  have hx := BL.exec
  have hb := BL.bytes
  have hr := BL.returns
  have hts := atoms_spec (ws := wsX9_letterOf) BL.pre
  have hown : s.vm.findClass RX9 = some m.cls := findClass_of_methodNamed BL.named
  have hlocks := BL.notSynchronized
  have sg2 : ∀ n : Nat, ∀  (v0 : Int32) (v1 : Int32) (v2 : Int32) (ls : Array Slot), fX9_letterOf_2   n  v0 v1 v2 = some r → lv_has ls 3 [(0, .int v0), (1, .int v1), (2, .int v2)] → W p l e (headSpec wsX9_letterOf ({ frames := 1, cells := 0, slots := 0, locals := 20 })).room s m (([.int x0, .int x1] : List Value).toArray) below meth c s.heap [] 0 0 (MQ below (QcRead r) (([.int x0, .int x1] : List Value).toArray) s 0 0 (fun _ => False)) (F0 m 2 ls []) := by
    intro n
    induction n with
    | zero => intro v0 v1 v2 ls hf hl; exact of_none hf
    | succ n ih2 =>
      intro v0 v1 v2 ls hf hl
      change fX9_letterOf_2B   (fX9_letterOf_2   n) v0 v1 v2 = _ at hf
      unfold fX9_letterOf_2B at hf
      refine lv_iload_n hx hb dX9_letterOf_2 rfl (lv_at hl 2 rfl) ?_
      refine lv_bipush (v := (7 : Int32)) hx hb dX9_letterOf_3 (by decide) ?_
      refine lv_icmp_ge (tgt := 29) hx hb dX9_letterOf_5 (by decide) (fun c1 => ?_) (fun c1 => ?_)
      · have hf := (if_pos c1).symm.trans hf
        refine lv_bipush (v := (-2 : Int32)) hx hb dX9_letterOf_29 (by decide) ?_
        exact W.iret (v := (-2 : Int32)) hx hb hr (fun t ht hW => ⟨congrArg (fun z => Outcome.returned (some (Value.int z))) (Option.some.inj hf), ht⟩) (fun _ h => nomatch h) dX9_letterOf_31
      · have hf := (if_neg c1).symm.trans hf
        refine lv_iload_n hx hb dX9_letterOf_8 rfl (lv_at hl 2 rfl) ?_
        refine W.callR (r := (fX9_pitchOf v2)) (W.runS (As := [.int v2]) (rest := []) ⟨hx, hb, hml, hown, hts⟩ (mX9_pitchOf l v2 (fX9_pitchOf v2) rfl) (va_cwS 1 hts gX9_letterOf_X9_pitchOf rfl rfl rfl (by decide +kernel) ⟨Nat.le_of_ble_eq_true rfl, Nat.le_of_ble_eq_true rfl⟩) ⟨fun _ _ _ _ q => q, fun U hU hW => ⟨rfl, trivial⟩⟩ rfl rfl hl.1 rfl (lv_room (Nat.le_of_ble_eq_true rfl)) dX9_letterOf_9 ⟨Nat.zero_le _, Nat.zero_le _⟩) ?_
        refine W.eq (g2 := F0 m 12 ls [.int (fX9_pitchOf v2)]) rfl ?_
        refine lv_iload_n hx hb dX9_letterOf_12 rfl (lv_at hl 1 rfl) ?_
        refine lv_iadd hx hb dX9_letterOf_13 ?_
        refine W.callR (r := (fX9_mod12 ((fX9_pitchOf v2) + v1))) (W.runS (As := [.int ((fX9_pitchOf v2) + v1)]) (rest := []) ⟨hx, hb, hml, hown, hts⟩ (mX9_mod12 l ((fX9_pitchOf v2) + v1) (fX9_mod12 ((fX9_pitchOf v2) + v1)) rfl) (va_cwS 1 hts gX9_letterOf_X9_mod12 rfl rfl rfl (by decide +kernel) ⟨Nat.le_of_ble_eq_true rfl, Nat.le_of_ble_eq_true rfl⟩) ⟨fun _ _ _ _ q => q, fun U hU hW => ⟨rfl, trivial⟩⟩ rfl rfl hl.1 rfl (lv_room (Nat.le_of_ble_eq_true rfl)) dX9_letterOf_14 ⟨Nat.zero_le _, Nat.zero_le _⟩) ?_
        refine W.eq (g2 := F0 m 17 ls [.int (fX9_mod12 ((fX9_pitchOf v2) + v1))]) rfl ?_
        refine lv_iload_n hx hb dX9_letterOf_17 rfl (lv_at hl 0 rfl) ?_
        refine lv_icmp_ne (tgt := 23) hx hb dX9_letterOf_18 (by decide) (fun c2 => ?_) (fun c2 => ?_)
        · have hf := (if_neg c2).symm.trans hf
          refine lv_iinc (v := (v2 + (1 : Int32))) (lv' := [(2, .int (v2 + (1 : Int32))), (0, .int v0), (1, .int v1)]) hx hb dX9_letterOf_23 hl (k := 2) rfl rfl (by decide) rfl (fun ls hl => ?_)
          refine lv_goto (tgt := 2) hx hb dX9_letterOf_26 (by decide) ?_
          exact ih2 v0 v1 (v2 + (1 : Int32)) ls hf (lv_sub hl [1, 2, 0] rfl)
        · have hf := (if_pos c2).symm.trans hf
          refine lv_iload_n hx hb dX9_letterOf_21 rfl (lv_at hl 2 rfl) ?_
          exact W.iret (v := v2) hx hb hr (fun t ht hW => ⟨congrArg (fun z => Outcome.returned (some (Value.int z))) (Option.some.inj hf), ht⟩) (fun _ h => nomatch h) dX9_letterOf_22
  have hl := lv_entry ([.int x0, .int x1]) (n := 3) (Nat.le_of_ble_eq_true rfl)
  rw [lg_entry_eq]
  generalize (lg_sl ([.int x0, .int x1]) ++ List.replicate (3 - (lg_sl ([.int x0, .int x1])).length) Slot.unset).toArray = ls at hl ⊢
  have hl : lv_has ls 3 [(0, .int x0), (1, .int x1)] := hl
  unfold fX9_letterOf at hf
  refine lv_iconst (v := (0 : Int32)) hx hb dX9_letterOf_0 (by decide) ?_
  refine lv_istore_n (lv' := [(2, .int (0 : Int32)), (0, .int x0), (1, .int x1)]) hx hb dX9_letterOf_1 rfl hl (by decide) rfl (fun ls hl => ?_)
  exact sg2  FU x0 x1 (0 : Int32) ls hf (lv_sub hl [1, 2, 0] rfl)
def fX9_isChord (B : Nat → Nat → Int64) (I : Nat → Int32) (A : Nat → Nat → Int32)  (x1 : Int32) : Option Int32 :=
  (if (fX9_isIn x1 (0 : Int32) ((I 6) - (1 : Int32))) = 0 ∨ (fX9_isIn x1 (0 : Int32) ((I 6) - (1 : Int32))) = 1 then (some (fX9_isIn x1 (0 : Int32) ((I 6) - (1 : Int32)))) else none)
set_option maxRecDepth 100000 in
set_option maxHeartbeats 4000000 in
theorem mX9_isChord (l : Launch) (dC : Nat → ClassId) (dI : Nat → Nat → Nat) (cI cB cJ : ClassId) (Q : Nat → Nat) (B : Nat → Nat → Int64) (I : Nat → Int32) (A : Nat → Nat → Int32)  (x1 : Int32) (r : Int32) (hf : fX9_isChord B I A x1 = some r) : Met l yX9_isChord wsX9_isChord ({ frames := 1, cells := 0, slots := 0, locals := 22 }) (va_Pc [.ref (Q 100), .int x1] (fun U => va_P (dC, dI) vwCl (wM cI cB cJ Q B I A) U.heap ∧ va_K (dC, dI) vwCl (tM cI cB cJ) U)) (QcRead r) 0 0 (fun _ => False) := by
  refine Met.ofW (cc := cX9_isChord) (maxL := 2) (ret := (some .boolean)) (by decide) rfl ?_
  intro p e s m args below meth c s₁ BL hml hv
  obtain ⟨rfl, hP, hK⟩ := hv
  have hx := BL.exec
  have hb := BL.bytes
  have hr := BL.returns
  have hts := atoms_spec (ws := wsX9_isChord) BL.pre
  have hown : s.vm.findClass RX9 = some m.cls := findClass_of_methodNamed BL.named
  have hlocks := BL.notSynchronized
  have hinX9 : ∀ w ∈ u_ws RX9 TX9 36, w ∈ wsX9_isChord := by decide +kernel
  have hk265 := hts (.fieldLink RX9 265 "LeadSheetsModel" "chords" "I") (by decide +kernel)
  have hl := lv_entry ([.ref (Q 100), .int x1]) (n := 2) (Nat.le_of_ble_eq_true rfl)
  rw [lg_entry_eq]
  generalize (lg_sl ([.ref (Q 100), .int x1]) ++ List.replicate (2 - (lg_sl ([.ref (Q 100), .int x1])).length) Slot.unset).toArray = ls at hl ⊢
  have hl : lv_has ls 2 [(0, .ref (Q 100)), (1, .int x1)] := hl
  unfold fX9_isChord at hf
  refine lv_iload_n hx hb dX9_isChord_0 rfl (lv_at hl 1 rfl) ?_
  refine lv_iconst (v := (0 : Int32)) hx hb dX9_isChord_1 (by decide) ?_
  refine lv_aload_n hx hb dX9_isChord_2 rfl (lv_at hl 0 rfl) ?_
  refine va_get (D := (dC, dI)) (ci := 6) (v := .int (I 6)) (C := RX9) (T := TX9) (N := 36) hx hb hts hinX9 hown hK hP 0 rfl rfl 6 (by decide) hk265 (fun _ h9 => h9) rfl dX9_isChord_3 ?_
  refine lv_iconst (v := (1 : Int32)) hx hb dX9_isChord_6 (by decide) ?_
  refine lv_isub hx hb dX9_isChord_7 ?_
  refine W.callR (r := (fX9_isIn x1 (0 : Int32) ((I 6) - (1 : Int32)))) (W.runS (As := [.int x1, .int (0 : Int32), .int ((I 6) - (1 : Int32))]) (rest := []) ⟨hx, hb, hml, hown, hts⟩ (mX9_isIn l x1 (0 : Int32) ((I 6) - (1 : Int32)) (fX9_isIn x1 (0 : Int32) ((I 6) - (1 : Int32))) rfl) (va_cwS 3 hts gX9_isChord_X9_isIn rfl rfl rfl (by decide +kernel) ⟨Nat.le_of_ble_eq_true rfl, Nat.le_of_ble_eq_true rfl⟩) ⟨fun _ _ _ _ q => q, fun U hU hW => ⟨rfl, trivial⟩⟩ rfl rfl hl.1 rfl (lv_room (Nat.le_of_ble_eq_true rfl)) dX9_isChord_8 ⟨Nat.zero_le _, Nat.zero_le _⟩) ?_
  refine W.eq (g2 := F0 m 11 ls [.int (fX9_isIn x1 (0 : Int32) ((I 6) - (1 : Int32)))]) rfl ?_
  obtain ⟨z1, hf⟩ := of_ite_some hf
  exact W.zret (v := (fX9_isIn x1 (0 : Int32) ((I 6) - (1 : Int32)))) hx hb hr (zn_of z1) (fun t ht hW => ⟨congrArg (fun z => Outcome.returned (some (Value.int z))) (Option.some.inj hf), ht⟩) (fun _ h => nomatch h) dX9_isChord_11
def fX9_rootOf (B : Nat → Nat → Int64) (I : Nat → Int32) (A : Nat → Nat → Int32)  (x1 : Int32) : Option Int32 :=
  (if gd ((5 : Int32) * x1) 500 then (if gd (((5 : Int32) * x1) + (1 : Int32)) 500 then (some (fX9_mod12 ((fX9_pitchOf ((A 2) ((5 : Int32) * x1).toNatClampNeg)) + ((A 2) (((5 : Int32) * x1) + (1 : Int32)).toNatClampNeg)))) else none) else none)
set_option maxRecDepth 100000 in
set_option maxHeartbeats 4000000 in
theorem mX9_rootOf (l : Launch) (dC : Nat → ClassId) (dI : Nat → Nat → Nat) (cI cB cJ : ClassId) (Q : Nat → Nat) (B : Nat → Nat → Int64) (I : Nat → Int32) (A : Nat → Nat → Int32)  (x1 : Int32) (r : Int32) (hf : fX9_rootOf B I A x1 = some r) : Met l yX9_rootOf wsX9_rootOf ({ frames := 1, cells := 0, slots := 0, locals := 20 }) (va_Pc [.ref (Q 100), .int x1] (fun U => va_P (dC, dI) vwCl (wM cI cB cJ Q B I A) U.heap ∧ va_K (dC, dI) vwCl (tM cI cB cJ) U)) (QcRead r) 0 0 (fun _ => False) := by
  refine Met.ofW (cc := cX9_rootOf) (maxL := 2) (ret := (some .int)) (by decide) rfl ?_
  intro p e s m args below meth c s₁ BL hml hv
  obtain ⟨rfl, hP, hK⟩ := hv
  have hx := BL.exec
  have hb := BL.bytes
  have hr := BL.returns
  have hts := atoms_spec (ws := wsX9_rootOf) BL.pre
  have hown : s.vm.findClass RX9 = some m.cls := findClass_of_methodNamed BL.named
  have hlocks := BL.notSynchronized
  have hinX9 : ∀ w ∈ u_ws RX9 TX9 36, w ∈ wsX9_rootOf := by decide +kernel
  have hk13 := hts (.fieldLink RX9 13 "LeadSheetsModel" "heads" "[I") (by decide +kernel)
  have hl := lv_entry ([.ref (Q 100), .int x1]) (n := 2) (Nat.le_of_ble_eq_true rfl)
  rw [lg_entry_eq]
  generalize (lg_sl ([.ref (Q 100), .int x1]) ++ List.replicate (2 - (lg_sl ([.ref (Q 100), .int x1])).length) Slot.unset).toArray = ls at hl ⊢
  have hl : lv_has ls 2 [(0, .ref (Q 100)), (1, .int x1)] := hl
  unfold fX9_rootOf at hf
  refine lv_aload_n hx hb dX9_rootOf_0 rfl (lv_at hl 0 rfl) ?_
  refine va_get (D := (dC, dI)) (ci := 6) (v := .ref (Q 2)) (C := RX9) (T := TX9) (N := 36) hx hb hts hinX9 hown hK hP 0 rfl rfl 2 (by decide) hk13 (fun _ h9 => h9) rfl dX9_rootOf_1 ?_
  refine lv_iconst (v := (5 : Int32)) hx hb dX9_rootOf_4 (by decide) ?_
  refine lv_iload_n hx hb dX9_rootOf_5 rfl (lv_at hl 1 rfl) ?_
  refine lv_imul hx hb dX9_rootOf_6 ?_
  obtain ⟨g1, hf⟩ := of_ite_some hf
  refine va_iald hx hb hK hP 2 0 (n := 500) (f := (A 2)) rfl rfl g1 dX9_rootOf_7 ?_
  refine W.callR (r := (fX9_pitchOf ((A 2) ((5 : Int32) * x1).toNatClampNeg))) (W.runS (As := [.int ((A 2) ((5 : Int32) * x1).toNatClampNeg)]) (rest := []) ⟨hx, hb, hml, hown, hts⟩ (mX9_pitchOf l ((A 2) ((5 : Int32) * x1).toNatClampNeg) (fX9_pitchOf ((A 2) ((5 : Int32) * x1).toNatClampNeg)) rfl) (va_cwS 1 hts gX9_rootOf_X9_pitchOf rfl rfl rfl (by decide +kernel) ⟨Nat.le_of_ble_eq_true rfl, Nat.le_of_ble_eq_true rfl⟩) ⟨fun _ _ _ _ q => q, fun U hU hW => ⟨rfl, trivial⟩⟩ rfl rfl hl.1 rfl (lv_room (Nat.le_of_ble_eq_true rfl)) dX9_rootOf_8 ⟨Nat.zero_le _, Nat.zero_le _⟩) ?_
  refine W.eq (g2 := F0 m 11 ls [.int (fX9_pitchOf ((A 2) ((5 : Int32) * x1).toNatClampNeg))]) rfl ?_
  refine lv_aload_n hx hb dX9_rootOf_11 rfl (lv_at hl 0 rfl) ?_
  refine va_get (D := (dC, dI)) (ci := 6) (v := .ref (Q 2)) (C := RX9) (T := TX9) (N := 36) hx hb hts hinX9 hown hK hP 0 rfl rfl 2 (by decide) hk13 (fun _ h9 => h9) rfl dX9_rootOf_12 ?_
  refine lv_iconst (v := (5 : Int32)) hx hb dX9_rootOf_15 (by decide) ?_
  refine lv_iload_n hx hb dX9_rootOf_16 rfl (lv_at hl 1 rfl) ?_
  refine lv_imul hx hb dX9_rootOf_17 ?_
  refine lv_iconst (v := (1 : Int32)) hx hb dX9_rootOf_18 (by decide) ?_
  refine lv_iadd hx hb dX9_rootOf_19 ?_
  obtain ⟨g2, hf⟩ := of_ite_some hf
  refine va_iald hx hb hK hP 2 0 (n := 500) (f := (A 2)) rfl rfl g2 dX9_rootOf_20 ?_
  refine lv_iadd hx hb dX9_rootOf_21 ?_
  refine W.callR (r := (fX9_mod12 ((fX9_pitchOf ((A 2) ((5 : Int32) * x1).toNatClampNeg)) + ((A 2) (((5 : Int32) * x1) + (1 : Int32)).toNatClampNeg)))) (W.runS (As := [.int ((fX9_pitchOf ((A 2) ((5 : Int32) * x1).toNatClampNeg)) + ((A 2) (((5 : Int32) * x1) + (1 : Int32)).toNatClampNeg))]) (rest := []) ⟨hx, hb, hml, hown, hts⟩ (mX9_mod12 l ((fX9_pitchOf ((A 2) ((5 : Int32) * x1).toNatClampNeg)) + ((A 2) (((5 : Int32) * x1) + (1 : Int32)).toNatClampNeg)) (fX9_mod12 ((fX9_pitchOf ((A 2) ((5 : Int32) * x1).toNatClampNeg)) + ((A 2) (((5 : Int32) * x1) + (1 : Int32)).toNatClampNeg))) rfl) (va_cwS 1 hts gX9_rootOf_X9_mod12 rfl rfl rfl (by decide +kernel) ⟨Nat.le_of_ble_eq_true rfl, Nat.le_of_ble_eq_true rfl⟩) ⟨fun _ _ _ _ q => q, fun U hU hW => ⟨rfl, trivial⟩⟩ rfl rfl hl.1 rfl (lv_room (Nat.le_of_ble_eq_true rfl)) dX9_rootOf_22 ⟨Nat.zero_le _, Nat.zero_le _⟩) ?_
  refine W.eq (g2 := F0 m 25 ls [.int (fX9_mod12 ((fX9_pitchOf ((A 2) ((5 : Int32) * x1).toNatClampNeg)) + ((A 2) (((5 : Int32) * x1) + (1 : Int32)).toNatClampNeg)))]) rfl ?_
  exact W.iret (v := (fX9_mod12 ((fX9_pitchOf ((A 2) ((5 : Int32) * x1).toNatClampNeg)) + ((A 2) (((5 : Int32) * x1) + (1 : Int32)).toNatClampNeg)))) hx hb hr (fun t ht hW => ⟨congrArg (fun z => Outcome.returned (some (Value.int z))) (Option.some.inj hf), ht⟩) (fun _ h => nomatch h) dX9_rootOf_25
def fX9_bassOf (B : Nat → Nat → Int64) (I : Nat → Int32) (A : Nat → Nat → Int32)  (x1 : Int32) : Option Int32 :=
  (if gd (((5 : Int32) * x1) + (2 : Int32)) 500 then (if gd (((5 : Int32) * x1) + (3 : Int32)) 500 then (some (fX9_mod12 ((fX9_pitchOf ((A 2) (((5 : Int32) * x1) + (2 : Int32)).toNatClampNeg)) + ((A 2) (((5 : Int32) * x1) + (3 : Int32)).toNatClampNeg)))) else none) else none)
set_option maxRecDepth 100000 in
set_option maxHeartbeats 4000000 in
theorem mX9_bassOf (l : Launch) (dC : Nat → ClassId) (dI : Nat → Nat → Nat) (cI cB cJ : ClassId) (Q : Nat → Nat) (B : Nat → Nat → Int64) (I : Nat → Int32) (A : Nat → Nat → Int32)  (x1 : Int32) (r : Int32) (hf : fX9_bassOf B I A x1 = some r) : Met l yX9_bassOf wsX9_bassOf ({ frames := 1, cells := 0, slots := 0, locals := 20 }) (va_Pc [.ref (Q 100), .int x1] (fun U => va_P (dC, dI) vwCl (wM cI cB cJ Q B I A) U.heap ∧ va_K (dC, dI) vwCl (tM cI cB cJ) U)) (QcRead r) 0 0 (fun _ => False) := by
  refine Met.ofW (cc := cX9_bassOf) (maxL := 2) (ret := (some .int)) (by decide) rfl ?_
  intro p e s m args below meth c s₁ BL hml hv
  obtain ⟨rfl, hP, hK⟩ := hv
  have hx := BL.exec
  have hb := BL.bytes
  have hr := BL.returns
  have hts := atoms_spec (ws := wsX9_bassOf) BL.pre
  have hown : s.vm.findClass RX9 = some m.cls := findClass_of_methodNamed BL.named
  have hlocks := BL.notSynchronized
  have hinX9 : ∀ w ∈ u_ws RX9 TX9 36, w ∈ wsX9_bassOf := by decide +kernel
  have hk13 := hts (.fieldLink RX9 13 "LeadSheetsModel" "heads" "[I") (by decide +kernel)
  have hl := lv_entry ([.ref (Q 100), .int x1]) (n := 2) (Nat.le_of_ble_eq_true rfl)
  rw [lg_entry_eq]
  generalize (lg_sl ([.ref (Q 100), .int x1]) ++ List.replicate (2 - (lg_sl ([.ref (Q 100), .int x1])).length) Slot.unset).toArray = ls at hl ⊢
  have hl : lv_has ls 2 [(0, .ref (Q 100)), (1, .int x1)] := hl
  unfold fX9_bassOf at hf
  refine lv_aload_n hx hb dX9_bassOf_0 rfl (lv_at hl 0 rfl) ?_
  refine va_get (D := (dC, dI)) (ci := 6) (v := .ref (Q 2)) (C := RX9) (T := TX9) (N := 36) hx hb hts hinX9 hown hK hP 0 rfl rfl 2 (by decide) hk13 (fun _ h9 => h9) rfl dX9_bassOf_1 ?_
  refine lv_iconst (v := (5 : Int32)) hx hb dX9_bassOf_4 (by decide) ?_
  refine lv_iload_n hx hb dX9_bassOf_5 rfl (lv_at hl 1 rfl) ?_
  refine lv_imul hx hb dX9_bassOf_6 ?_
  refine lv_iconst (v := (2 : Int32)) hx hb dX9_bassOf_7 (by decide) ?_
  refine lv_iadd hx hb dX9_bassOf_8 ?_
  obtain ⟨g1, hf⟩ := of_ite_some hf
  refine va_iald hx hb hK hP 2 0 (n := 500) (f := (A 2)) rfl rfl g1 dX9_bassOf_9 ?_
  refine W.callR (r := (fX9_pitchOf ((A 2) (((5 : Int32) * x1) + (2 : Int32)).toNatClampNeg))) (W.runS (As := [.int ((A 2) (((5 : Int32) * x1) + (2 : Int32)).toNatClampNeg)]) (rest := []) ⟨hx, hb, hml, hown, hts⟩ (mX9_pitchOf l ((A 2) (((5 : Int32) * x1) + (2 : Int32)).toNatClampNeg) (fX9_pitchOf ((A 2) (((5 : Int32) * x1) + (2 : Int32)).toNatClampNeg)) rfl) (va_cwS 1 hts gX9_bassOf_X9_pitchOf rfl rfl rfl (by decide +kernel) ⟨Nat.le_of_ble_eq_true rfl, Nat.le_of_ble_eq_true rfl⟩) ⟨fun _ _ _ _ q => q, fun U hU hW => ⟨rfl, trivial⟩⟩ rfl rfl hl.1 rfl (lv_room (Nat.le_of_ble_eq_true rfl)) dX9_bassOf_10 ⟨Nat.zero_le _, Nat.zero_le _⟩) ?_
  refine W.eq (g2 := F0 m 13 ls [.int (fX9_pitchOf ((A 2) (((5 : Int32) * x1) + (2 : Int32)).toNatClampNeg))]) rfl ?_
  refine lv_aload_n hx hb dX9_bassOf_13 rfl (lv_at hl 0 rfl) ?_
  refine va_get (D := (dC, dI)) (ci := 6) (v := .ref (Q 2)) (C := RX9) (T := TX9) (N := 36) hx hb hts hinX9 hown hK hP 0 rfl rfl 2 (by decide) hk13 (fun _ h9 => h9) rfl dX9_bassOf_14 ?_
  refine lv_iconst (v := (5 : Int32)) hx hb dX9_bassOf_17 (by decide) ?_
  refine lv_iload_n hx hb dX9_bassOf_18 rfl (lv_at hl 1 rfl) ?_
  refine lv_imul hx hb dX9_bassOf_19 ?_
  refine lv_iconst (v := (3 : Int32)) hx hb dX9_bassOf_20 (by decide) ?_
  refine lv_iadd hx hb dX9_bassOf_21 ?_
  obtain ⟨g2, hf⟩ := of_ite_some hf
  refine va_iald hx hb hK hP 2 0 (n := 500) (f := (A 2)) rfl rfl g2 dX9_bassOf_22 ?_
  refine lv_iadd hx hb dX9_bassOf_23 ?_
  refine W.callR (r := (fX9_mod12 ((fX9_pitchOf ((A 2) (((5 : Int32) * x1) + (2 : Int32)).toNatClampNeg)) + ((A 2) (((5 : Int32) * x1) + (3 : Int32)).toNatClampNeg)))) (W.runS (As := [.int ((fX9_pitchOf ((A 2) (((5 : Int32) * x1) + (2 : Int32)).toNatClampNeg)) + ((A 2) (((5 : Int32) * x1) + (3 : Int32)).toNatClampNeg))]) (rest := []) ⟨hx, hb, hml, hown, hts⟩ (mX9_mod12 l ((fX9_pitchOf ((A 2) (((5 : Int32) * x1) + (2 : Int32)).toNatClampNeg)) + ((A 2) (((5 : Int32) * x1) + (3 : Int32)).toNatClampNeg)) (fX9_mod12 ((fX9_pitchOf ((A 2) (((5 : Int32) * x1) + (2 : Int32)).toNatClampNeg)) + ((A 2) (((5 : Int32) * x1) + (3 : Int32)).toNatClampNeg))) rfl) (va_cwS 1 hts gX9_bassOf_X9_mod12 rfl rfl rfl (by decide +kernel) ⟨Nat.le_of_ble_eq_true rfl, Nat.le_of_ble_eq_true rfl⟩) ⟨fun _ _ _ _ q => q, fun U hU hW => ⟨rfl, trivial⟩⟩ rfl rfl hl.1 rfl (lv_room (Nat.le_of_ble_eq_true rfl)) dX9_bassOf_24 ⟨Nat.zero_le _, Nat.zero_le _⟩) ?_
  refine W.eq (g2 := F0 m 27 ls [.int (fX9_mod12 ((fX9_pitchOf ((A 2) (((5 : Int32) * x1) + (2 : Int32)).toNatClampNeg)) + ((A 2) (((5 : Int32) * x1) + (3 : Int32)).toNatClampNeg)))]) rfl ?_
  exact W.iret (v := (fX9_mod12 ((fX9_pitchOf ((A 2) (((5 : Int32) * x1) + (2 : Int32)).toNatClampNeg)) + ((A 2) (((5 : Int32) * x1) + (3 : Int32)).toNatClampNeg)))) hx hb hr (fun t ht hW => ⟨congrArg (fun z => Outcome.returned (some (Value.int z))) (Option.some.inj hf), ht⟩) (fun _ h => nomatch h) dX9_bassOf_27
def fX9_setOf_10B (B : Nat → Nat → Int64) (I : Nat → Int32) (A : Nat → Nat → Int32)  (k10 : Int32 → Int32 → Int32 → Option Int32)  (v1 : Int32) (v2 : Int32) (v3 : Int32) : Option Int32 :=
  (if gd v1 100 then (if ((A 5) v1.toNatClampNeg) ≤ v3 then (some v2) else ((fX9_rootOf B I A v1).bind fun r5 => (if gd (((16 : Int32) * v1) + v3) 1600 then (k10 v1 (v2 ||| ((1 : Int32) <<< ((jrem (r5 + ((A 3) (((16 : Int32) * v1) + v3).toNatClampNeg)) (12 : Int32)) &&& 31))) (v3 + (1 : Int32))) else none))) else none)
def fX9_setOf_10 (B : Nat → Nat → Int64) (I : Nat → Int32) (A : Nat → Nat → Int32)  : Nat → (Int32 → Int32 → Int32 → Option Int32)
  | 0 => fun _ _ _ => none
  | n + 1 => fX9_setOf_10B B I A  (fX9_setOf_10 B I A  n)
def fX9_setOf (B : Nat → Nat → Int64) (I : Nat → Int32) (A : Nat → Nat → Int32)  (x1 : Int32) : Option Int32 :=
  ((fX9_bassOf B I A x1).bind fun r1 => (fX9_setOf_10 B I A  FU x1 ((1 : Int32) <<< (r1 &&& 31)) (0 : Int32)))
set_option maxRecDepth 100000 in
set_option maxHeartbeats 4000000 in
theorem mX9_setOf (l : Launch) (dC : Nat → ClassId) (dI : Nat → Nat → Nat) (cI cB cJ : ClassId) (Q : Nat → Nat) (B : Nat → Nat → Int64) (I : Nat → Int32) (A : Nat → Nat → Int32)  (x1 : Int32) (r : Int32) (hf : fX9_setOf B I A x1 = some r) : Met l yX9_setOf wsX9_setOf ({ frames := 2, cells := 0, slots := 0, locals := 41 }) (va_Pc [.ref (Q 100), .int x1] (fun U => va_P (dC, dI) vwCl (wM cI cB cJ Q B I A) U.heap ∧ va_K (dC, dI) vwCl (tM cI cB cJ) U)) (QcRead r) 0 0 (fun _ => False) := by
  refine Met.ofW (cc := cX9_setOf) (maxL := 4) (ret := (some .int)) (by decide) rfl ?_
  intro p e s m args below meth c s₁ BL hml hv
  obtain ⟨rfl, hP, hK⟩ := hv
  have hx := BL.exec
  have hb := BL.bytes
  have hr := BL.returns
  have hts := atoms_spec (ws := wsX9_setOf) BL.pre
  have hown : s.vm.findClass RX9 = some m.cls := findClass_of_methodNamed BL.named
  have hlocks := BL.notSynchronized
  have hinX9 : ∀ w ∈ u_ws RX9 TX9 36, w ∈ wsX9_setOf := by decide +kernel
  have hk17 := hts (.fieldLink RX9 17 "LeadSheetsModel" "halves" "[I") (by decide +kernel)
  have hk23 := hts (.fieldLink RX9 23 "LeadSheetsModel" "stepMany" "[I") (by decide +kernel)
  have sg10 : ∀ n : Nat, ∀  (v1 : Int32) (v2 : Int32) (v3 : Int32) (ls : Array Slot), fX9_setOf_10 B I A  n  v1 v2 v3 = some r → lv_has ls 4 [(0, .ref (Q 100)), (1, .int v1), (2, .int v2), (3, .int v3)] → W p l e (headSpec wsX9_setOf ({ frames := 2, cells := 0, slots := 0, locals := 41 })).room s m (([.ref (Q 100), .int x1] : List Value).toArray) below meth c s.heap [] 0 0 (MQ below (QcRead r) (([.ref (Q 100), .int x1] : List Value).toArray) s 0 0 (fun _ => False)) (F0 m 10 ls []) := by
    intro n
    induction n with
    | zero => intro v1 v2 v3 ls hf hl; exact of_none hf
    | succ n ih10 =>
      intro v1 v2 v3 ls hf hl
      change fX9_setOf_10B B I A  (fX9_setOf_10 B I A  n) v1 v2 v3 = _ at hf
      unfold fX9_setOf_10B at hf
      refine lv_iload_n hx hb dX9_setOf_10 rfl (lv_at hl 3 rfl) ?_
      refine lv_aload_n hx hb dX9_setOf_11 rfl (lv_at hl 0 rfl) ?_
      refine va_get (D := (dC, dI)) (ci := 6) (v := .ref (Q 5)) (C := RX9) (T := TX9) (N := 36) hx hb hts hinX9 hown hK hP 0 rfl rfl 5 (by decide) hk23 (fun _ h9 => h9) rfl dX9_setOf_12 ?_
      refine lv_iload_n hx hb dX9_setOf_15 rfl (lv_at hl 1 rfl) ?_
      obtain ⟨g3, hf⟩ := of_ite_some hf
      refine va_iald hx hb hK hP 5 0 (n := 100) (f := (A 5)) rfl rfl g3 dX9_setOf_16 ?_
      refine lv_icmp_ge (tgt := 51) hx hb dX9_setOf_17 (by decide) (fun c4 => ?_) (fun c4 => ?_)
      · have hf := (if_pos c4).symm.trans hf
        refine lv_iload_n hx hb dX9_setOf_51 rfl (lv_at hl 2 rfl) ?_
        exact W.iret (v := v2) hx hb hr (fun t ht hW => ⟨congrArg (fun z => Outcome.returned (some (Value.int z))) (Option.some.inj hf), ht⟩) (fun _ h => nomatch h) dX9_setOf_52
      · have hf := (if_neg c4).symm.trans hf
        refine lv_iload_n hx hb dX9_setOf_20 rfl (lv_at hl 2 rfl) ?_
        refine lv_iconst (v := (1 : Int32)) hx hb dX9_setOf_21 (by decide) ?_
        refine lv_aload_n hx hb dX9_setOf_22 rfl (lv_at hl 0 rfl) ?_
        refine lv_iload_n hx hb dX9_setOf_23 rfl (lv_at hl 1 rfl) ?_
        obtain ⟨r5, hc6, hf⟩ := of_bind_some hf
        refine W.callR (r := r5) (W.runV (As := [.int v1]) (rest := [.int (1 : Int32), .int v2]) ⟨hx, hb, hml, hown, hts⟩ (mX9_rootOf l dC dI cI cB cJ Q B I A v1 r5 hc6) (cwV 1 hts gX9_setOf_X9_rootOf rfl rfl rfl (by decide +kernel) ⟨Nat.le_of_ble_eq_true rfl, Nat.le_of_ble_eq_true rfl⟩) ⟨blindR, va_recv hK hP (ci := 6) (q0 := 0) rfl rfl, fun U hU hW => ⟨rfl, by rw [hU]; exact hP, va_K.moved hW.alike hK⟩⟩ rfl rfl hl.1 rfl (lv_room (Nat.le_of_ble_eq_true rfl)) dX9_setOf_24 ⟨Nat.zero_le _, Nat.zero_le _⟩) ?_
        refine W.eq (g2 := F0 m 27 ls [.int r5, .int (1 : Int32), .int v2]) rfl ?_
        refine lv_aload_n hx hb dX9_setOf_27 rfl (lv_at hl 0 rfl) ?_
        refine va_get (D := (dC, dI)) (ci := 6) (v := .ref (Q 3)) (C := RX9) (T := TX9) (N := 36) hx hb hts hinX9 hown hK hP 0 rfl rfl 3 (by decide) hk17 (fun _ h9 => h9) rfl dX9_setOf_28 ?_
        refine lv_bipush (v := (16 : Int32)) hx hb dX9_setOf_31 (by decide) ?_
        refine lv_iload_n hx hb dX9_setOf_33 rfl (lv_at hl 1 rfl) ?_
        refine lv_imul hx hb dX9_setOf_34 ?_
        refine lv_iload_n hx hb dX9_setOf_35 rfl (lv_at hl 3 rfl) ?_
        refine lv_iadd hx hb dX9_setOf_36 ?_
        obtain ⟨g7, hf⟩ := of_ite_some hf
        refine va_iald hx hb hK hP 3 0 (n := 1600) (f := (A 3)) rfl rfl g7 dX9_setOf_37 ?_
        refine lv_iadd hx hb dX9_setOf_38 ?_
        refine lv_bipush (v := (12 : Int32)) hx hb dX9_setOf_39 (by decide) ?_
        refine lv_irem hx hb dX9_setOf_41 (by decide) ?_
        refine W.eq (g2 := F0 m 42 ls [.int (jrem (r5 + ((A 3) (((16 : Int32) * v1) + v3).toNatClampNeg)) (12 : Int32)), .int (1 : Int32), .int v2]) rfl ?_
        refine lv_ishl hx hb dX9_setOf_42 ?_
        refine lv_ior hx hb dX9_setOf_43 ?_
        refine lv_istore_n (lv' := [(2, .int (v2 ||| ((1 : Int32) <<< ((jrem (r5 + ((A 3) (((16 : Int32) * v1) + v3).toNatClampNeg)) (12 : Int32)) &&& 31)))), (0, .ref (Q 100)), (1, .int v1), (3, .int v3)]) hx hb dX9_setOf_44 rfl hl (by decide) rfl (fun ls hl => ?_)
        refine lv_iinc (v := (v3 + (1 : Int32))) (lv' := [(3, .int (v3 + (1 : Int32))), (2, .int (v2 ||| ((1 : Int32) <<< ((jrem (r5 + ((A 3) (((16 : Int32) * v1) + v3).toNatClampNeg)) (12 : Int32)) &&& 31)))), (0, .ref (Q 100)), (1, .int v1)]) hx hb dX9_setOf_45 hl (k := 3) rfl rfl (by decide) rfl (fun ls hl => ?_)
        refine lv_goto (tgt := 10) hx hb dX9_setOf_48 (by decide) ?_
        exact ih10 v1 (v2 ||| ((1 : Int32) <<< ((jrem (r5 + ((A 3) (((16 : Int32) * v1) + v3).toNatClampNeg)) (12 : Int32)) &&& 31))) (v3 + (1 : Int32)) ls hf (lv_sub hl [2, 3, 1, 0] rfl)
  have hl := lv_entry ([.ref (Q 100), .int x1]) (n := 4) (Nat.le_of_ble_eq_true rfl)
  rw [lg_entry_eq]
  generalize (lg_sl ([.ref (Q 100), .int x1]) ++ List.replicate (4 - (lg_sl ([.ref (Q 100), .int x1])).length) Slot.unset).toArray = ls at hl ⊢
  have hl : lv_has ls 4 [(0, .ref (Q 100)), (1, .int x1)] := hl
  unfold fX9_setOf at hf
  refine lv_iconst (v := (1 : Int32)) hx hb dX9_setOf_0 (by decide) ?_
  refine lv_aload_n hx hb dX9_setOf_1 rfl (lv_at hl 0 rfl) ?_
  refine lv_iload_n hx hb dX9_setOf_2 rfl (lv_at hl 1 rfl) ?_
  obtain ⟨r1, hc2, hf⟩ := of_bind_some hf
  refine W.callR (r := r1) (W.runV (As := [.int x1]) (rest := [.int (1 : Int32)]) ⟨hx, hb, hml, hown, hts⟩ (mX9_bassOf l dC dI cI cB cJ Q B I A x1 r1 hc2) (cwV 1 hts gX9_setOf_X9_bassOf rfl rfl rfl (by decide +kernel) ⟨Nat.le_of_ble_eq_true rfl, Nat.le_of_ble_eq_true rfl⟩) ⟨blindR, va_recv hK hP (ci := 6) (q0 := 0) rfl rfl, fun U hU hW => ⟨rfl, by rw [hU]; exact hP, va_K.moved hW.alike hK⟩⟩ rfl rfl hl.1 rfl (lv_room (Nat.le_of_ble_eq_true rfl)) dX9_setOf_3 ⟨Nat.zero_le _, Nat.zero_le _⟩) ?_
  refine W.eq (g2 := F0 m 6 ls [.int r1, .int (1 : Int32)]) rfl ?_
  refine lv_ishl hx hb dX9_setOf_6 ?_
  refine lv_istore_n (lv' := [(2, .int ((1 : Int32) <<< (r1 &&& 31))), (0, .ref (Q 100)), (1, .int x1)]) hx hb dX9_setOf_7 rfl hl (by decide) rfl (fun ls hl => ?_)
  refine lv_iconst (v := (0 : Int32)) hx hb dX9_setOf_8 (by decide) ?_
  refine lv_istore_n (lv' := [(3, .int (0 : Int32)), (2, .int ((1 : Int32) <<< (r1 &&& 31))), (0, .ref (Q 100)), (1, .int x1)]) hx hb dX9_setOf_9 rfl hl (by decide) rfl (fun ls hl => ?_)
  exact sg10  FU x1 ((1 : Int32) <<< (r1 &&& 31)) (0 : Int32) ls hf (lv_sub hl [2, 3, 1, 0] rfl)
def fX9_stepsWeight_6B (B : Nat → Nat → Int64) (I : Nat → Int32) (A : Nat → Nat → Int32)  (k6 : Int32 → Int32 → Int32 → Int32 → Int32 → Option Int32)  (v1 : Int32) (v2 : Int32) (v3 : Int32) (v4 : Int32) (v5 : Int32) : Option Int32 :=
  (if gd v1 100 then (if ((A 5) v1.toNatClampNeg) ≤ v5 then (some v4) else (if gd (((16 : Int32) * v1) + v5) 1600 then (if gd (((16 : Int32) * v1) + v5) 1600 then (k6 v1 v2 v3 (v4 + (fX9_size (fX9_signsOf v2 v3 ((A 3) (((16 : Int32) * v1) + v5).toNatClampNeg) ((A 4) (((16 : Int32) * v1) + v5).toNatClampNeg)))) (v5 + (1 : Int32))) else none) else none)) else none)
def fX9_stepsWeight_6 (B : Nat → Nat → Int64) (I : Nat → Int32) (A : Nat → Nat → Int32)  : Nat → (Int32 → Int32 → Int32 → Int32 → Int32 → Option Int32)
  | 0 => fun _ _ _ _ _ => none
  | n + 1 => fX9_stepsWeight_6B B I A  (fX9_stepsWeight_6 B I A  n)
def fX9_stepsWeight (B : Nat → Nat → Int64) (I : Nat → Int32) (A : Nat → Nat → Int32)  (x1 : Int32) (x2 : Int32) (x3 : Int32) : Option Int32 :=
  (fX9_stepsWeight_6 B I A  FU x1 x2 x3 (0 : Int32) (0 : Int32))
set_option maxRecDepth 100000 in
set_option maxHeartbeats 4000000 in
theorem mX9_stepsWeight (l : Launch) (dC : Nat → ClassId) (dI : Nat → Nat → Nat) (cI cB cJ : ClassId) (Q : Nat → Nat) (B : Nat → Nat → Int64) (I : Nat → Int32) (A : Nat → Nat → Int32)  (x1 : Int32) (x2 : Int32) (x3 : Int32) (r : Int32) (hf : fX9_stepsWeight B I A x1 x2 x3 = some r) : Met l yX9_stepsWeight wsX9_stepsWeight ({ frames := 2, cells := 0, slots := 0, locals := 44 }) (va_Pc [.ref (Q 100), .int x1, .int x2, .int x3] (fun U => va_P (dC, dI) vwCl (wM cI cB cJ Q B I A) U.heap ∧ va_K (dC, dI) vwCl (tM cI cB cJ) U)) (QcRead r) 0 0 (fun _ => False) := by
  refine Met.ofW (cc := cX9_stepsWeight) (maxL := 6) (ret := (some .int)) (by decide) rfl ?_
  intro p e s m args below meth c s₁ BL hml hv
  obtain ⟨rfl, hP, hK⟩ := hv
  have hx := BL.exec
  have hb := BL.bytes
  have hr := BL.returns
  have hts := atoms_spec (ws := wsX9_stepsWeight) BL.pre
  have hown : s.vm.findClass RX9 = some m.cls := findClass_of_methodNamed BL.named
  have hlocks := BL.notSynchronized
  have hinX9 : ∀ w ∈ u_ws RX9 TX9 36, w ∈ wsX9_stepsWeight := by decide +kernel
  have hk17 := hts (.fieldLink RX9 17 "LeadSheetsModel" "halves" "[I") (by decide +kernel)
  have hk20 := hts (.fieldLink RX9 20 "LeadSheetsModel" "degrees" "[I") (by decide +kernel)
  have hk23 := hts (.fieldLink RX9 23 "LeadSheetsModel" "stepMany" "[I") (by decide +kernel)
  have sg6 : ∀ n : Nat, ∀  (v1 : Int32) (v2 : Int32) (v3 : Int32) (v4 : Int32) (v5 : Int32) (ls : Array Slot), fX9_stepsWeight_6 B I A  n  v1 v2 v3 v4 v5 = some r → lv_has ls 6 [(0, .ref (Q 100)), (1, .int v1), (2, .int v2), (3, .int v3), (4, .int v4), (5, .int v5)] → W p l e (headSpec wsX9_stepsWeight ({ frames := 2, cells := 0, slots := 0, locals := 44 })).room s m (([.ref (Q 100), .int x1, .int x2, .int x3] : List Value).toArray) below meth c s.heap [] 0 0 (MQ below (QcRead r) (([.ref (Q 100), .int x1, .int x2, .int x3] : List Value).toArray) s 0 0 (fun _ => False)) (F0 m 6 ls []) := by
    intro n
    induction n with
    | zero => intro v1 v2 v3 v4 v5 ls hf hl; exact of_none hf
    | succ n ih6 =>
      intro v1 v2 v3 v4 v5 ls hf hl
      change fX9_stepsWeight_6B B I A  (fX9_stepsWeight_6 B I A  n) v1 v2 v3 v4 v5 = _ at hf
      unfold fX9_stepsWeight_6B at hf
      refine lv_iload hx hb dX9_stepsWeight_6 (lv_at hl 5 rfl) ?_
      refine lv_aload_n hx hb dX9_stepsWeight_8 rfl (lv_at hl 0 rfl) ?_
      refine va_get (D := (dC, dI)) (ci := 6) (v := .ref (Q 5)) (C := RX9) (T := TX9) (N := 36) hx hb hts hinX9 hown hK hP 0 rfl rfl 5 (by decide) hk23 (fun _ h9 => h9) rfl dX9_stepsWeight_9 ?_
      refine lv_iload_n hx hb dX9_stepsWeight_12 rfl (lv_at hl 1 rfl) ?_
      obtain ⟨g1, hf⟩ := of_ite_some hf
      refine va_iald hx hb hK hP 5 0 (n := 100) (f := (A 5)) rfl rfl g1 dX9_stepsWeight_13 ?_
      refine lv_icmp_ge (tgt := 60) hx hb dX9_stepsWeight_14 (by decide) (fun c2 => ?_) (fun c2 => ?_)
      · have hf := (if_pos c2).symm.trans hf
        refine lv_iload hx hb dX9_stepsWeight_60 (lv_at hl 4 rfl) ?_
        exact W.iret (v := v4) hx hb hr (fun t ht hW => ⟨congrArg (fun z => Outcome.returned (some (Value.int z))) (Option.some.inj hf), ht⟩) (fun _ h => nomatch h) dX9_stepsWeight_62
      · have hf := (if_neg c2).symm.trans hf
        refine lv_iload hx hb dX9_stepsWeight_17 (lv_at hl 4 rfl) ?_
        refine lv_iload_n hx hb dX9_stepsWeight_19 rfl (lv_at hl 2 rfl) ?_
        refine lv_iload_n hx hb dX9_stepsWeight_20 rfl (lv_at hl 3 rfl) ?_
        refine lv_aload_n hx hb dX9_stepsWeight_21 rfl (lv_at hl 0 rfl) ?_
        refine va_get (D := (dC, dI)) (ci := 6) (v := .ref (Q 3)) (C := RX9) (T := TX9) (N := 36) hx hb hts hinX9 hown hK hP 0 rfl rfl 3 (by decide) hk17 (fun _ h9 => h9) rfl dX9_stepsWeight_22 ?_
        refine lv_bipush (v := (16 : Int32)) hx hb dX9_stepsWeight_25 (by decide) ?_
        refine lv_iload_n hx hb dX9_stepsWeight_27 rfl (lv_at hl 1 rfl) ?_
        refine lv_imul hx hb dX9_stepsWeight_28 ?_
        refine lv_iload hx hb dX9_stepsWeight_29 (lv_at hl 5 rfl) ?_
        refine lv_iadd hx hb dX9_stepsWeight_31 ?_
        obtain ⟨g3, hf⟩ := of_ite_some hf
        refine va_iald hx hb hK hP 3 0 (n := 1600) (f := (A 3)) rfl rfl g3 dX9_stepsWeight_32 ?_
        refine lv_aload_n hx hb dX9_stepsWeight_33 rfl (lv_at hl 0 rfl) ?_
        refine va_get (D := (dC, dI)) (ci := 6) (v := .ref (Q 4)) (C := RX9) (T := TX9) (N := 36) hx hb hts hinX9 hown hK hP 0 rfl rfl 4 (by decide) hk20 (fun _ h9 => h9) rfl dX9_stepsWeight_34 ?_
        refine lv_bipush (v := (16 : Int32)) hx hb dX9_stepsWeight_37 (by decide) ?_
        refine lv_iload_n hx hb dX9_stepsWeight_39 rfl (lv_at hl 1 rfl) ?_
        refine lv_imul hx hb dX9_stepsWeight_40 ?_
        refine lv_iload hx hb dX9_stepsWeight_41 (lv_at hl 5 rfl) ?_
        refine lv_iadd hx hb dX9_stepsWeight_43 ?_
        obtain ⟨g4, hf⟩ := of_ite_some hf
        refine va_iald hx hb hK hP 4 0 (n := 1600) (f := (A 4)) rfl rfl g4 dX9_stepsWeight_44 ?_
        refine W.callR (r := (fX9_signsOf v2 v3 ((A 3) (((16 : Int32) * v1) + v5).toNatClampNeg) ((A 4) (((16 : Int32) * v1) + v5).toNatClampNeg))) (W.runS (As := [.int v2, .int v3, .int ((A 3) (((16 : Int32) * v1) + v5).toNatClampNeg), .int ((A 4) (((16 : Int32) * v1) + v5).toNatClampNeg)]) (rest := [.int v4]) ⟨hx, hb, hml, hown, hts⟩ (mX9_signsOf l v2 v3 ((A 3) (((16 : Int32) * v1) + v5).toNatClampNeg) ((A 4) (((16 : Int32) * v1) + v5).toNatClampNeg) (fX9_signsOf v2 v3 ((A 3) (((16 : Int32) * v1) + v5).toNatClampNeg) ((A 4) (((16 : Int32) * v1) + v5).toNatClampNeg)) rfl) (va_cwS 4 hts gX9_stepsWeight_X9_signsOf rfl rfl rfl (by decide +kernel) ⟨Nat.le_of_ble_eq_true rfl, Nat.le_of_ble_eq_true rfl⟩) ⟨fun _ _ _ _ q => q, fun U hU hW => ⟨rfl, trivial⟩⟩ rfl rfl hl.1 rfl (lv_room (Nat.le_of_ble_eq_true rfl)) dX9_stepsWeight_45 ⟨Nat.zero_le _, Nat.zero_le _⟩) ?_
        refine W.eq (g2 := F0 m 48 ls [.int (fX9_signsOf v2 v3 ((A 3) (((16 : Int32) * v1) + v5).toNatClampNeg) ((A 4) (((16 : Int32) * v1) + v5).toNatClampNeg)), .int v4]) rfl ?_
        refine W.callR (r := (fX9_size (fX9_signsOf v2 v3 ((A 3) (((16 : Int32) * v1) + v5).toNatClampNeg) ((A 4) (((16 : Int32) * v1) + v5).toNatClampNeg)))) (W.runS (As := [.int (fX9_signsOf v2 v3 ((A 3) (((16 : Int32) * v1) + v5).toNatClampNeg) ((A 4) (((16 : Int32) * v1) + v5).toNatClampNeg))]) (rest := [.int v4]) ⟨hx, hb, hml, hown, hts⟩ (mX9_size l (fX9_signsOf v2 v3 ((A 3) (((16 : Int32) * v1) + v5).toNatClampNeg) ((A 4) (((16 : Int32) * v1) + v5).toNatClampNeg)) (fX9_size (fX9_signsOf v2 v3 ((A 3) (((16 : Int32) * v1) + v5).toNatClampNeg) ((A 4) (((16 : Int32) * v1) + v5).toNatClampNeg))) rfl) (va_cwS 1 hts gX9_stepsWeight_X9_size rfl rfl rfl (by decide +kernel) ⟨Nat.le_of_ble_eq_true rfl, Nat.le_of_ble_eq_true rfl⟩) ⟨fun _ _ _ _ q => q, fun U hU hW => ⟨rfl, trivial⟩⟩ rfl rfl hl.1 rfl (lv_room (Nat.le_of_ble_eq_true rfl)) dX9_stepsWeight_48 ⟨Nat.zero_le _, Nat.zero_le _⟩) ?_
        refine W.eq (g2 := F0 m 51 ls [.int (fX9_size (fX9_signsOf v2 v3 ((A 3) (((16 : Int32) * v1) + v5).toNatClampNeg) ((A 4) (((16 : Int32) * v1) + v5).toNatClampNeg))), .int v4]) rfl ?_
        refine lv_iadd hx hb dX9_stepsWeight_51 ?_
        refine lv_istore (lv' := [(4, .int (v4 + (fX9_size (fX9_signsOf v2 v3 ((A 3) (((16 : Int32) * v1) + v5).toNatClampNeg) ((A 4) (((16 : Int32) * v1) + v5).toNatClampNeg))))), (0, .ref (Q 100)), (1, .int v1), (2, .int v2), (3, .int v3), (5, .int v5)]) hx hb dX9_stepsWeight_52 hl (by decide) rfl (fun ls hl => ?_)
        refine lv_iinc (v := (v5 + (1 : Int32))) (lv' := [(5, .int (v5 + (1 : Int32))), (4, .int (v4 + (fX9_size (fX9_signsOf v2 v3 ((A 3) (((16 : Int32) * v1) + v5).toNatClampNeg) ((A 4) (((16 : Int32) * v1) + v5).toNatClampNeg))))), (0, .ref (Q 100)), (1, .int v1), (2, .int v2), (3, .int v3)]) hx hb dX9_stepsWeight_54 hl (k := 5) rfl rfl (by decide) rfl (fun ls hl => ?_)
        refine lv_goto (tgt := 6) hx hb dX9_stepsWeight_57 (by decide) ?_
        exact ih6 v1 v2 v3 (v4 + (fX9_size (fX9_signsOf v2 v3 ((A 3) (((16 : Int32) * v1) + v5).toNatClampNeg) ((A 4) (((16 : Int32) * v1) + v5).toNatClampNeg)))) (v5 + (1 : Int32)) ls hf (lv_sub hl [2, 3, 4, 5, 1, 0] rfl)
  have hl := lv_entry ([.ref (Q 100), .int x1, .int x2, .int x3]) (n := 6) (Nat.le_of_ble_eq_true rfl)
  rw [lg_entry_eq]
  generalize (lg_sl ([.ref (Q 100), .int x1, .int x2, .int x3]) ++ List.replicate (6 - (lg_sl ([.ref (Q 100), .int x1, .int x2, .int x3])).length) Slot.unset).toArray = ls at hl ⊢
  have hl : lv_has ls 6 [(0, .ref (Q 100)), (1, .int x1), (2, .int x2), (3, .int x3)] := hl
  unfold fX9_stepsWeight at hf
  refine lv_iconst (v := (0 : Int32)) hx hb dX9_stepsWeight_0 (by decide) ?_
  refine lv_istore (lv' := [(4, .int (0 : Int32)), (0, .ref (Q 100)), (1, .int x1), (2, .int x2), (3, .int x3)]) hx hb dX9_stepsWeight_1 hl (by decide) rfl (fun ls hl => ?_)
  refine lv_iconst (v := (0 : Int32)) hx hb dX9_stepsWeight_3 (by decide) ?_
  refine lv_istore (lv' := [(5, .int (0 : Int32)), (4, .int (0 : Int32)), (0, .ref (Q 100)), (1, .int x1), (2, .int x2), (3, .int x3)]) hx hb dX9_stepsWeight_4 hl (by decide) rfl (fun ls hl => ?_)
  exact sg6  FU x1 x2 x3 (0 : Int32) (0 : Int32) ls hf (lv_sub hl [2, 3, 4, 5, 1, 0] rfl)
def fX9_key (B : Nat → Nat → Int64) (I : Nat → Int32) (A : Nat → Nat → Int32)  (x1 : Int32) : Option Int32 :=
  (if (fX9_isIn x1 (0 : Int32) ((I 12) - (1 : Int32))) = 0 then (some (-1 : Int32)) else (if gd x1 12 then (some ((A 11) x1.toNatClampNeg)) else none))
set_option maxRecDepth 100000 in
set_option maxHeartbeats 4000000 in
theorem mX9_key (l : Launch) (dC : Nat → ClassId) (dI : Nat → Nat → Nat) (cI cB cJ : ClassId) (Q : Nat → Nat) (B : Nat → Nat → Int64) (I : Nat → Int32) (A : Nat → Nat → Int32)  (x1 : Int32) (r : Int32) (hf : fX9_key B I A x1 = some r) : Met l yX9_key wsX9_key ({ frames := 1, cells := 0, slots := 0, locals := 22 }) (va_Pc [.ref (Q 100), .int x1] (fun U => va_P (dC, dI) vwCl (wM cI cB cJ Q B I A) U.heap ∧ va_K (dC, dI) vwCl (tM cI cB cJ) U)) (QcRead r) 0 0 (fun _ => False) := by
  refine Met.ofW (cc := cX9_key) (maxL := 2) (ret := (some .int)) (by decide) rfl ?_
  intro p e s m args below meth c s₁ BL hml hv
  obtain ⟨rfl, hP, hK⟩ := hv
  have hx := BL.exec
  have hb := BL.bytes
  have hr := BL.returns
  have hts := atoms_spec (ws := wsX9_key) BL.pre
  have hown : s.vm.findClass RX9 = some m.cls := findClass_of_methodNamed BL.named
  have hlocks := BL.notSynchronized
  have hinX9 : ∀ w ∈ u_ws RX9 TX9 36, w ∈ wsX9_key := by decide +kernel
  have hk32 := hts (.fieldLink RX9 32 "LeadSheetsModel" "keys" "[I") (by decide +kernel)
  have hk344 := hts (.fieldLink RX9 344 "LeadSheetsModel" "keyMany" "I") (by decide +kernel)
  have hl := lv_entry ([.ref (Q 100), .int x1]) (n := 2) (Nat.le_of_ble_eq_true rfl)
  rw [lg_entry_eq]
  generalize (lg_sl ([.ref (Q 100), .int x1]) ++ List.replicate (2 - (lg_sl ([.ref (Q 100), .int x1])).length) Slot.unset).toArray = ls at hl ⊢
  have hl : lv_has ls 2 [(0, .ref (Q 100)), (1, .int x1)] := hl
  unfold fX9_key at hf
  refine lv_iload_n hx hb dX9_key_0 rfl (lv_at hl 1 rfl) ?_
  refine lv_iconst (v := (0 : Int32)) hx hb dX9_key_1 (by decide) ?_
  refine lv_aload_n hx hb dX9_key_2 rfl (lv_at hl 0 rfl) ?_
  refine va_get (D := (dC, dI)) (ci := 6) (v := .int (I 12)) (C := RX9) (T := TX9) (N := 36) hx hb hts hinX9 hown hK hP 0 rfl rfl 12 (by decide) hk344 (fun _ h9 => h9) rfl dX9_key_3 ?_
  refine lv_iconst (v := (1 : Int32)) hx hb dX9_key_6 (by decide) ?_
  refine lv_isub hx hb dX9_key_7 ?_
  refine W.callR (r := (fX9_isIn x1 (0 : Int32) ((I 12) - (1 : Int32)))) (W.runS (As := [.int x1, .int (0 : Int32), .int ((I 12) - (1 : Int32))]) (rest := []) ⟨hx, hb, hml, hown, hts⟩ (mX9_isIn l x1 (0 : Int32) ((I 12) - (1 : Int32)) (fX9_isIn x1 (0 : Int32) ((I 12) - (1 : Int32))) rfl) (va_cwS 3 hts gX9_key_X9_isIn rfl rfl rfl (by decide +kernel) ⟨Nat.le_of_ble_eq_true rfl, Nat.le_of_ble_eq_true rfl⟩) ⟨fun _ _ _ _ q => q, fun U hU hW => ⟨rfl, trivial⟩⟩ rfl rfl hl.1 rfl (lv_room (Nat.le_of_ble_eq_true rfl)) dX9_key_8 ⟨Nat.zero_le _, Nat.zero_le _⟩) ?_
  refine W.eq (g2 := F0 m 11 ls [.int (fX9_isIn x1 (0 : Int32) ((I 12) - (1 : Int32)))]) rfl ?_
  refine lv_if_eq (tgt := 23) hx hb dX9_key_11 (by decide) (fun c1 => ?_) (fun c1 => ?_)
  · have hf := (if_pos c1).symm.trans hf
    refine lv_iconst (v := (-1 : Int32)) hx hb dX9_key_23 (by decide) ?_
    exact W.iret (v := (-1 : Int32)) hx hb hr (fun t ht hW => ⟨congrArg (fun z => Outcome.returned (some (Value.int z))) (Option.some.inj hf), ht⟩) (fun _ h => nomatch h) dX9_key_24
  · have hf := (if_neg c1).symm.trans hf
    refine lv_aload_n hx hb dX9_key_14 rfl (lv_at hl 0 rfl) ?_
    refine va_get (D := (dC, dI)) (ci := 6) (v := .ref (Q 11)) (C := RX9) (T := TX9) (N := 36) hx hb hts hinX9 hown hK hP 0 rfl rfl 11 (by decide) hk32 (fun _ h9 => h9) rfl dX9_key_15 ?_
    refine lv_iload_n hx hb dX9_key_18 rfl (lv_at hl 1 rfl) ?_
    obtain ⟨g2, hf⟩ := of_ite_some hf
    refine va_iald hx hb hK hP 8 0 (n := 12) (f := (A 11)) rfl rfl g2 dX9_key_19 ?_
    refine lv_goto (tgt := 24) hx hb dX9_key_20 (by decide) ?_
    exact W.iret (v := ((A 11) x1.toNatClampNeg)) hx hb hr (fun t ht hW => ⟨congrArg (fun z => Outcome.returned (some (Value.int z))) (Option.some.inj hf), ht⟩) (fun _ h => nomatch h) dX9_key_24
def fX9_shown (B : Nat → Nat → Int64) (I : Nat → Int32) (A : Nat → Nat → Int32)  (x1 : Int32) : Option Int32 :=
  (if (fX9_isIn x1 (0 : Int32) ((I 8) - (1 : Int32))) = 0 then (some (-1 : Int32)) else (if gd x1 64 then (some ((A 7) x1.toNatClampNeg)) else none))
set_option maxRecDepth 100000 in
set_option maxHeartbeats 4000000 in
theorem mX9_shown (l : Launch) (dC : Nat → ClassId) (dI : Nat → Nat → Nat) (cI cB cJ : ClassId) (Q : Nat → Nat) (B : Nat → Nat → Int64) (I : Nat → Int32) (A : Nat → Nat → Int32)  (x1 : Int32) (r : Int32) (hf : fX9_shown B I A x1 = some r) : Met l yX9_shown wsX9_shown ({ frames := 1, cells := 0, slots := 0, locals := 22 }) (va_Pc [.ref (Q 100), .int x1] (fun U => va_P (dC, dI) vwCl (wM cI cB cJ Q B I A) U.heap ∧ va_K (dC, dI) vwCl (tM cI cB cJ) U)) (QcRead r) 0 0 (fun _ => False) := by
  refine Met.ofW (cc := cX9_shown) (maxL := 2) (ret := (some .int)) (by decide) rfl ?_
  intro p e s m args below meth c s₁ BL hml hv
  obtain ⟨rfl, hP, hK⟩ := hv
  have hx := BL.exec
  have hb := BL.bytes
  have hr := BL.returns
  have hts := atoms_spec (ws := wsX9_shown) BL.pre
  have hown : s.vm.findClass RX9 = some m.cls := findClass_of_methodNamed BL.named
  have hlocks := BL.notSynchronized
  have hinX9 : ∀ w ∈ u_ws RX9 TX9 36, w ∈ wsX9_shown := by decide +kernel
  have hk26 := hts (.fieldLink RX9 26 "LeadSheetsModel" "shown" "[B") (by decide +kernel)
  have hk304 := hts (.fieldLink RX9 304 "LeadSheetsModel" "shownMany" "I") (by decide +kernel)
  have hl := lv_entry ([.ref (Q 100), .int x1]) (n := 2) (Nat.le_of_ble_eq_true rfl)
  rw [lg_entry_eq]
  generalize (lg_sl ([.ref (Q 100), .int x1]) ++ List.replicate (2 - (lg_sl ([.ref (Q 100), .int x1])).length) Slot.unset).toArray = ls at hl ⊢
  have hl : lv_has ls 2 [(0, .ref (Q 100)), (1, .int x1)] := hl
  unfold fX9_shown at hf
  refine lv_iload_n hx hb dX9_shown_0 rfl (lv_at hl 1 rfl) ?_
  refine lv_iconst (v := (0 : Int32)) hx hb dX9_shown_1 (by decide) ?_
  refine lv_aload_n hx hb dX9_shown_2 rfl (lv_at hl 0 rfl) ?_
  refine va_get (D := (dC, dI)) (ci := 6) (v := .int (I 8)) (C := RX9) (T := TX9) (N := 36) hx hb hts hinX9 hown hK hP 0 rfl rfl 8 (by decide) hk304 (fun _ h9 => h9) rfl dX9_shown_3 ?_
  refine lv_iconst (v := (1 : Int32)) hx hb dX9_shown_6 (by decide) ?_
  refine lv_isub hx hb dX9_shown_7 ?_
  refine W.callR (r := (fX9_isIn x1 (0 : Int32) ((I 8) - (1 : Int32)))) (W.runS (As := [.int x1, .int (0 : Int32), .int ((I 8) - (1 : Int32))]) (rest := []) ⟨hx, hb, hml, hown, hts⟩ (mX9_isIn l x1 (0 : Int32) ((I 8) - (1 : Int32)) (fX9_isIn x1 (0 : Int32) ((I 8) - (1 : Int32))) rfl) (va_cwS 3 hts gX9_shown_X9_isIn rfl rfl rfl (by decide +kernel) ⟨Nat.le_of_ble_eq_true rfl, Nat.le_of_ble_eq_true rfl⟩) ⟨fun _ _ _ _ q => q, fun U hU hW => ⟨rfl, trivial⟩⟩ rfl rfl hl.1 rfl (lv_room (Nat.le_of_ble_eq_true rfl)) dX9_shown_8 ⟨Nat.zero_le _, Nat.zero_le _⟩) ?_
  refine W.eq (g2 := F0 m 11 ls [.int (fX9_isIn x1 (0 : Int32) ((I 8) - (1 : Int32)))]) rfl ?_
  refine lv_if_eq (tgt := 23) hx hb dX9_shown_11 (by decide) (fun c1 => ?_) (fun c1 => ?_)
  · have hf := (if_pos c1).symm.trans hf
    refine lv_iconst (v := (-1 : Int32)) hx hb dX9_shown_23 (by decide) ?_
    exact W.iret (v := (-1 : Int32)) hx hb hr (fun t ht hW => ⟨congrArg (fun z => Outcome.returned (some (Value.int z))) (Option.some.inj hf), ht⟩) (fun _ h => nomatch h) dX9_shown_24
  · have hf := (if_neg c1).symm.trans hf
    refine lv_aload_n hx hb dX9_shown_14 rfl (lv_at hl 0 rfl) ?_
    refine va_get (D := (dC, dI)) (ci := 6) (v := .ref (Q 7)) (C := RX9) (T := TX9) (N := 36) hx hb hts hinX9 hown hK hP 0 rfl rfl 7 (by decide) hk26 (fun _ h9 => h9) rfl dX9_shown_15 ?_
    refine lv_iload_n hx hb dX9_shown_18 rfl (lv_at hl 1 rfl) ?_
    obtain ⟨g2, hf⟩ := of_ite_some hf
    refine va_bald hx hb hK hP 6 1 (n := 64) (f := (A 7)) rfl rfl g2 dX9_shown_19 ?_
    refine lv_goto (tgt := 24) hx hb dX9_shown_20 (by decide) ?_
    exact W.iret (v := ((A 7) x1.toNatClampNeg)) hx hb hr (fun t ht hW => ⟨congrArg (fun z => Outcome.returned (some (Value.int z))) (Option.some.inj hf), ht⟩) (fun _ h => nomatch h) dX9_shown_24
def fX9_count (B : Nat → Nat → Int64) (I : Nat → Int32) (A : Nat → Nat → Int32)  (x1 : Int32) : Option Int32 :=
  (if x1 = (0 : Int32) then (some (I 6)) else (if x1 = (1 : Int32) then (some (I 10)) else (if x1 = (2 : Int32) then (some (I 1)) else (if x1 = (3 : Int32) then (some (I 8)) else (if x1 = (4 : Int32) then (some (I 12)) else (some (-1 : Int32)))))))
set_option maxRecDepth 100000 in
set_option maxHeartbeats 4000000 in
theorem mX9_count (l : Launch) (dC : Nat → ClassId) (dI : Nat → Nat → Nat) (cI cB cJ : ClassId) (Q : Nat → Nat) (B : Nat → Nat → Int64) (I : Nat → Int32) (A : Nat → Nat → Int32)  (x1 : Int32) (r : Int32) (hf : fX9_count B I A x1 = some r) : Met l yX9_count wsX9_count ({ frames := 0, cells := 0, slots := 0, locals := 0 }) (va_Pc [.ref (Q 100), .int x1] (fun U => va_P (dC, dI) vwCl (wM cI cB cJ Q B I A) U.heap ∧ va_K (dC, dI) vwCl (tM cI cB cJ) U)) (QcRead r) 0 0 (fun _ => False) := by
  refine Met.ofW (cc := cX9_count) (maxL := 2) (ret := (some .int)) (by decide) rfl ?_
  intro p e s m args below meth c s₁ BL hml hv
  obtain ⟨rfl, hP, hK⟩ := hv
  have hx := BL.exec
  have hb := BL.bytes
  have hr := BL.returns
  have hts := atoms_spec (ws := wsX9_count) BL.pre
  have hown : s.vm.findClass RX9 = some m.cls := findClass_of_methodNamed BL.named
  have hlocks := BL.notSynchronized
  have hinX9 : ∀ w ∈ u_ws RX9 TX9 36, w ∈ wsX9_count := by decide +kernel
  have hk219 := hts (.fieldLink RX9 219 "LeadSheetsModel" "taped" "I") (by decide +kernel)
  have hk265 := hts (.fieldLink RX9 265 "LeadSheetsModel" "chords" "I") (by decide +kernel)
  have hk304 := hts (.fieldLink RX9 304 "LeadSheetsModel" "shownMany" "I") (by decide +kernel)
  have hk337 := hts (.fieldLink RX9 337 "LeadSheetsModel" "foundMany" "I") (by decide +kernel)
  have hk344 := hts (.fieldLink RX9 344 "LeadSheetsModel" "keyMany" "I") (by decide +kernel)
  have hl := lv_entry ([.ref (Q 100), .int x1]) (n := 2) (Nat.le_of_ble_eq_true rfl)
  rw [lg_entry_eq]
  generalize (lg_sl ([.ref (Q 100), .int x1]) ++ List.replicate (2 - (lg_sl ([.ref (Q 100), .int x1])).length) Slot.unset).toArray = ls at hl ⊢
  have hl : lv_has ls 2 [(0, .ref (Q 100)), (1, .int x1)] := hl
  unfold fX9_count at hf
  refine lv_iload_n hx hb dX9_count_0 rfl (lv_at hl 1 rfl) ?_
  by_cases c1 : x1 = (0 : Int32)
  · have hf := (if_pos c1).symm.trans hf
    refine lv_tableIn (tgt := 36) hx hb dX9_count_1 (by rw [c1]; decide) (by rw [c1]; decide) (by rw [c1]; rfl) (by decide) ?_
    refine lv_aload_n hx hb dX9_count_36 rfl (lv_at hl 0 rfl) ?_
    refine va_get (D := (dC, dI)) (ci := 6) (v := .int (I 6)) (C := RX9) (T := TX9) (N := 36) hx hb hts hinX9 hown hK hP 0 rfl rfl 6 (by decide) hk265 (fun _ h9 => h9) rfl dX9_count_37 ?_
    exact W.iret (v := (I 6)) hx hb hr (fun t ht hW => ⟨congrArg (fun z => Outcome.returned (some (Value.int z))) (Option.some.inj hf), ht⟩) (fun _ h => nomatch h) dX9_count_40
  have hf := (if_neg c1).symm.trans hf
  by_cases c2 : x1 = (1 : Int32)
  · have hf := (if_pos c2).symm.trans hf
    refine lv_tableIn (tgt := 41) hx hb dX9_count_1 (by rw [c2]; decide) (by rw [c2]; decide) (by rw [c2]; rfl) (by decide) ?_
    refine lv_aload_n hx hb dX9_count_41 rfl (lv_at hl 0 rfl) ?_
    refine va_get (D := (dC, dI)) (ci := 6) (v := .int (I 10)) (C := RX9) (T := TX9) (N := 36) hx hb hts hinX9 hown hK hP 0 rfl rfl 10 (by decide) hk337 (fun _ h9 => h9) rfl dX9_count_42 ?_
    exact W.iret (v := (I 10)) hx hb hr (fun t ht hW => ⟨congrArg (fun z => Outcome.returned (some (Value.int z))) (Option.some.inj hf), ht⟩) (fun _ h => nomatch h) dX9_count_45
  have hf := (if_neg c2).symm.trans hf
  by_cases c3 : x1 = (2 : Int32)
  · have hf := (if_pos c3).symm.trans hf
    refine lv_tableIn (tgt := 46) hx hb dX9_count_1 (by rw [c3]; decide) (by rw [c3]; decide) (by rw [c3]; rfl) (by decide) ?_
    refine lv_aload_n hx hb dX9_count_46 rfl (lv_at hl 0 rfl) ?_
    refine va_get (D := (dC, dI)) (ci := 6) (v := .int (I 1)) (C := RX9) (T := TX9) (N := 36) hx hb hts hinX9 hown hK hP 0 rfl rfl 1 (by decide) hk219 (fun _ h9 => h9) rfl dX9_count_47 ?_
    exact W.iret (v := (I 1)) hx hb hr (fun t ht hW => ⟨congrArg (fun z => Outcome.returned (some (Value.int z))) (Option.some.inj hf), ht⟩) (fun _ h => nomatch h) dX9_count_50
  have hf := (if_neg c3).symm.trans hf
  by_cases c4 : x1 = (3 : Int32)
  · have hf := (if_pos c4).symm.trans hf
    refine lv_tableIn (tgt := 51) hx hb dX9_count_1 (by rw [c4]; decide) (by rw [c4]; decide) (by rw [c4]; rfl) (by decide) ?_
    refine lv_aload_n hx hb dX9_count_51 rfl (lv_at hl 0 rfl) ?_
    refine va_get (D := (dC, dI)) (ci := 6) (v := .int (I 8)) (C := RX9) (T := TX9) (N := 36) hx hb hts hinX9 hown hK hP 0 rfl rfl 8 (by decide) hk304 (fun _ h9 => h9) rfl dX9_count_52 ?_
    exact W.iret (v := (I 8)) hx hb hr (fun t ht hW => ⟨congrArg (fun z => Outcome.returned (some (Value.int z))) (Option.some.inj hf), ht⟩) (fun _ h => nomatch h) dX9_count_55
  have hf := (if_neg c4).symm.trans hf
  by_cases c5 : x1 = (4 : Int32)
  · have hf := (if_pos c5).symm.trans hf
    refine lv_tableIn (tgt := 56) hx hb dX9_count_1 (by rw [c5]; decide) (by rw [c5]; decide) (by rw [c5]; rfl) (by decide) ?_
    refine lv_aload_n hx hb dX9_count_56 rfl (lv_at hl 0 rfl) ?_
    refine va_get (D := (dC, dI)) (ci := 6) (v := .int (I 12)) (C := RX9) (T := TX9) (N := 36) hx hb hts hinX9 hown hK hP 0 rfl rfl 12 (by decide) hk344 (fun _ h9 => h9) rfl dX9_count_57 ?_
    exact W.iret (v := (I 12)) hx hb hr (fun t ht hW => ⟨congrArg (fun z => Outcome.returned (some (Value.int z))) (Option.some.inj hf), ht⟩) (fun _ h => nomatch h) dX9_count_60
  have hf := (if_neg c5).symm.trans hf
  refine lv_tableOut (tgt := 61) hx hb dX9_count_1 (by have := sw_ne (n := 0) (by decide) c1; have := sw_ne (n := 1) (by decide) c2; have := sw_ne (n := 2) (by decide) c3; have := sw_ne (n := 3) (by decide) c4; have := sw_ne (n := 4) (by decide) c5; omega) (by decide) ?_
  refine lv_iconst (v := (-1 : Int32)) hx hb dX9_count_61 (by decide) ?_
  exact W.iret (v := (-1 : Int32)) hx hb hr (fun t ht hW => ⟨congrArg (fun z => Outcome.returned (some (Value.int z))) (Option.some.inj hf), ht⟩) (fun _ h => nomatch h) dX9_count_62
def fX9_hasHalf_5B (B : Nat → Nat → Int64) (I : Nat → Int32) (A : Nat → Nat → Int32)  (k5 : Int32 → Int32 → Int32 → Int32 → Option Int32)  (v1 : Int32) (v2 : Int32) (v3 : Int32) (v4 : Int32) : Option Int32 :=
  (if gd v1 100 then (if ((A 5) v1.toNatClampNeg) ≤ v4 then (if v3 = 0 ∨ v3 = 1 then (some v3) else none) else (if gd (((16 : Int32) * v1) + v4) 1600 then (if ((A 3) (((16 : Int32) * v1) + v4).toNatClampNeg) = v2 then (k5 v1 v2 (v3 ||| (1 : Int32)) (v4 + (1 : Int32))) else (k5 v1 v2 (v3 ||| (0 : Int32)) (v4 + (1 : Int32)))) else none)) else none)
def fX9_hasHalf_5 (B : Nat → Nat → Int64) (I : Nat → Int32) (A : Nat → Nat → Int32)  : Nat → (Int32 → Int32 → Int32 → Int32 → Option Int32)
  | 0 => fun _ _ _ _ => none
  | n + 1 => fX9_hasHalf_5B B I A  (fX9_hasHalf_5 B I A  n)
def fX9_hasHalf (B : Nat → Nat → Int64) (I : Nat → Int32) (A : Nat → Nat → Int32)  (x1 : Int32) (x2 : Int32) : Option Int32 :=
  (fX9_hasHalf_5 B I A  FU x1 x2 (0 : Int32) (0 : Int32))
set_option maxRecDepth 100000 in
set_option maxHeartbeats 4000000 in
theorem mX9_hasHalf (l : Launch) (dC : Nat → ClassId) (dI : Nat → Nat → Nat) (cI cB cJ : ClassId) (Q : Nat → Nat) (B : Nat → Nat → Int64) (I : Nat → Int32) (A : Nat → Nat → Int32)  (x1 : Int32) (x2 : Int32) (r : Int32) (hf : fX9_hasHalf B I A x1 x2 = some r) : Met l yX9_hasHalf wsX9_hasHalf ({ frames := 0, cells := 0, slots := 0, locals := 0 }) (va_Pc [.ref (Q 100), .int x1, .int x2] (fun U => va_P (dC, dI) vwCl (wM cI cB cJ Q B I A) U.heap ∧ va_K (dC, dI) vwCl (tM cI cB cJ) U)) (QcRead r) 0 0 (fun _ => False) := by
  refine Met.ofW (cc := cX9_hasHalf) (maxL := 5) (ret := (some .boolean)) (by decide) rfl ?_
  intro p e s m args below meth c s₁ BL hml hv
  obtain ⟨rfl, hP, hK⟩ := hv
  have hx := BL.exec
  have hb := BL.bytes
  have hr := BL.returns
  have hts := atoms_spec (ws := wsX9_hasHalf) BL.pre
  have hown : s.vm.findClass RX9 = some m.cls := findClass_of_methodNamed BL.named
  have hlocks := BL.notSynchronized
  have hinX9 : ∀ w ∈ u_ws RX9 TX9 36, w ∈ wsX9_hasHalf := by decide +kernel
  have hk17 := hts (.fieldLink RX9 17 "LeadSheetsModel" "halves" "[I") (by decide +kernel)
  have hk23 := hts (.fieldLink RX9 23 "LeadSheetsModel" "stepMany" "[I") (by decide +kernel)
  have sg5 : ∀ n : Nat, ∀  (v1 : Int32) (v2 : Int32) (v3 : Int32) (v4 : Int32) (ls : Array Slot), fX9_hasHalf_5 B I A  n  v1 v2 v3 v4 = some r → lv_has ls 5 [(0, .ref (Q 100)), (1, .int v1), (2, .int v2), (3, .int v3), (4, .int v4)] → W p l e (headSpec wsX9_hasHalf ({ frames := 0, cells := 0, slots := 0, locals := 0 })).room s m (([.ref (Q 100), .int x1, .int x2] : List Value).toArray) below meth c s.heap [] 0 0 (MQ below (QcRead r) (([.ref (Q 100), .int x1, .int x2] : List Value).toArray) s 0 0 (fun _ => False)) (F0 m 5 ls []) := by
    intro n
    induction n with
    | zero => intro v1 v2 v3 v4 ls hf hl; exact of_none hf
    | succ n ih5 =>
      intro v1 v2 v3 v4 ls hf hl
      change fX9_hasHalf_5B B I A  (fX9_hasHalf_5 B I A  n) v1 v2 v3 v4 = _ at hf
      unfold fX9_hasHalf_5B at hf
      refine lv_iload hx hb dX9_hasHalf_5 (lv_at hl 4 rfl) ?_
      refine lv_aload_n hx hb dX9_hasHalf_7 rfl (lv_at hl 0 rfl) ?_
      refine va_get (D := (dC, dI)) (ci := 6) (v := .ref (Q 5)) (C := RX9) (T := TX9) (N := 36) hx hb hts hinX9 hown hK hP 0 rfl rfl 5 (by decide) hk23 (fun _ h9 => h9) rfl dX9_hasHalf_8 ?_
      refine lv_iload_n hx hb dX9_hasHalf_11 rfl (lv_at hl 1 rfl) ?_
      obtain ⟨g1, hf⟩ := of_ite_some hf
      refine va_iald hx hb hK hP 5 0 (n := 100) (f := (A 5)) rfl rfl g1 dX9_hasHalf_12 ?_
      refine lv_icmp_ge (tgt := 46) hx hb dX9_hasHalf_13 (by decide) (fun c2 => ?_) (fun c2 => ?_)
      · have hf := (if_pos c2).symm.trans hf
        refine lv_iload_n hx hb dX9_hasHalf_46 rfl (lv_at hl 3 rfl) ?_
        obtain ⟨z3, hf⟩ := of_ite_some hf
        exact W.zret (v := v3) hx hb hr (zn_of z3) (fun t ht hW => ⟨congrArg (fun z => Outcome.returned (some (Value.int z))) (Option.some.inj hf), ht⟩) (fun _ h => nomatch h) dX9_hasHalf_47
      · have hf := (if_neg c2).symm.trans hf
        refine lv_iload_n hx hb dX9_hasHalf_16 rfl (lv_at hl 3 rfl) ?_
        refine lv_aload_n hx hb dX9_hasHalf_17 rfl (lv_at hl 0 rfl) ?_
        refine va_get (D := (dC, dI)) (ci := 6) (v := .ref (Q 3)) (C := RX9) (T := TX9) (N := 36) hx hb hts hinX9 hown hK hP 0 rfl rfl 3 (by decide) hk17 (fun _ h9 => h9) rfl dX9_hasHalf_18 ?_
        refine lv_bipush (v := (16 : Int32)) hx hb dX9_hasHalf_21 (by decide) ?_
        refine lv_iload_n hx hb dX9_hasHalf_23 rfl (lv_at hl 1 rfl) ?_
        refine lv_imul hx hb dX9_hasHalf_24 ?_
        refine lv_iload hx hb dX9_hasHalf_25 (lv_at hl 4 rfl) ?_
        refine lv_iadd hx hb dX9_hasHalf_27 ?_
        obtain ⟨g4, hf⟩ := of_ite_some hf
        refine va_iald hx hb hK hP 3 0 (n := 1600) (f := (A 3)) rfl rfl g4 dX9_hasHalf_28 ?_
        refine lv_iload_n hx hb dX9_hasHalf_29 rfl (lv_at hl 2 rfl) ?_
        refine lv_icmp_ne (tgt := 37) hx hb dX9_hasHalf_30 (by decide) (fun c5 => ?_) (fun c5 => ?_)
        · have hf := (if_neg c5).symm.trans hf
          refine lv_iconst (v := (0 : Int32)) hx hb dX9_hasHalf_37 (by decide) ?_
          refine lv_ior hx hb dX9_hasHalf_38 ?_
          refine lv_istore_n (lv' := [(3, .int (v3 ||| (0 : Int32))), (0, .ref (Q 100)), (1, .int v1), (2, .int v2), (4, .int v4)]) hx hb dX9_hasHalf_39 rfl hl (by decide) rfl (fun ls hl => ?_)
          refine lv_iinc (v := (v4 + (1 : Int32))) (lv' := [(4, .int (v4 + (1 : Int32))), (3, .int (v3 ||| (0 : Int32))), (0, .ref (Q 100)), (1, .int v1), (2, .int v2)]) hx hb dX9_hasHalf_40 hl (k := 4) rfl rfl (by decide) rfl (fun ls hl => ?_)
          refine lv_goto (tgt := 5) hx hb dX9_hasHalf_43 (by decide) ?_
          exact ih5 v1 v2 (v3 ||| (0 : Int32)) (v4 + (1 : Int32)) ls hf (lv_sub hl [2, 3, 4, 1, 0] rfl)
        · have hf := (if_pos c5).symm.trans hf
          refine lv_iconst (v := (1 : Int32)) hx hb dX9_hasHalf_33 (by decide) ?_
          refine lv_goto (tgt := 38) hx hb dX9_hasHalf_34 (by decide) ?_
          refine lv_ior hx hb dX9_hasHalf_38 ?_
          refine lv_istore_n (lv' := [(3, .int (v3 ||| (1 : Int32))), (0, .ref (Q 100)), (1, .int v1), (2, .int v2), (4, .int v4)]) hx hb dX9_hasHalf_39 rfl hl (by decide) rfl (fun ls hl => ?_)
          refine lv_iinc (v := (v4 + (1 : Int32))) (lv' := [(4, .int (v4 + (1 : Int32))), (3, .int (v3 ||| (1 : Int32))), (0, .ref (Q 100)), (1, .int v1), (2, .int v2)]) hx hb dX9_hasHalf_40 hl (k := 4) rfl rfl (by decide) rfl (fun ls hl => ?_)
          refine lv_goto (tgt := 5) hx hb dX9_hasHalf_43 (by decide) ?_
          exact ih5 v1 v2 (v3 ||| (1 : Int32)) (v4 + (1 : Int32)) ls hf (lv_sub hl [2, 3, 4, 1, 0] rfl)
  have hl := lv_entry ([.ref (Q 100), .int x1, .int x2]) (n := 5) (Nat.le_of_ble_eq_true rfl)
  rw [lg_entry_eq]
  generalize (lg_sl ([.ref (Q 100), .int x1, .int x2]) ++ List.replicate (5 - (lg_sl ([.ref (Q 100), .int x1, .int x2])).length) Slot.unset).toArray = ls at hl ⊢
  have hl : lv_has ls 5 [(0, .ref (Q 100)), (1, .int x1), (2, .int x2)] := hl
  unfold fX9_hasHalf at hf
  refine lv_iconst (v := (0 : Int32)) hx hb dX9_hasHalf_0 (by decide) ?_
  refine lv_istore_n (lv' := [(3, .int (0 : Int32)), (0, .ref (Q 100)), (1, .int x1), (2, .int x2)]) hx hb dX9_hasHalf_1 rfl hl (by decide) rfl (fun ls hl => ?_)
  refine lv_iconst (v := (0 : Int32)) hx hb dX9_hasHalf_2 (by decide) ?_
  refine lv_istore (lv' := [(4, .int (0 : Int32)), (3, .int (0 : Int32)), (0, .ref (Q 100)), (1, .int x1), (2, .int x2)]) hx hb dX9_hasHalf_3 hl (by decide) rfl (fun ls hl => ?_)
  exact sg5  FU x1 x2 (0 : Int32) (0 : Int32) ls hf (lv_sub hl [2, 3, 4, 1, 0] rfl)
def fX9_nearest_17B (B : Nat → Nat → Int64) (I : Nat → Int32) (A : Nat → Nat → Int32)  (k17 : Int32 → Int32 → Int32 → Option Int32)  (v1 : Int32) (v2 : Int32) (v3 : Int32) : Option Int32 :=
  (if (I 12) ≤ v3 then (some v2) else (if gd v3 12 then (if v2 ≤ (fX9_size (((A 11) v3.toNatClampNeg) - v1)) then (k17 v1 v2 (v3 + (1 : Int32))) else (k17 v1 (fX9_size (((A 11) v3.toNatClampNeg) - v1)) (v3 + (1 : Int32)))) else none))
def fX9_nearest_17 (B : Nat → Nat → Int64) (I : Nat → Int32) (A : Nat → Nat → Int32)  : Nat → (Int32 → Int32 → Int32 → Option Int32)
  | 0 => fun _ _ _ => none
  | n + 1 => fX9_nearest_17B B I A  (fX9_nearest_17 B I A  n)
def fX9_nearest (B : Nat → Nat → Int64) (I : Nat → Int32) (A : Nat → Nat → Int32)  (x1 : Int32) : Option Int32 :=
  (if (I 12) = 0 then (fX9_nearest_17 B I A  FU x1 (0 : Int32) (0 : Int32)) else (fX9_nearest_17 B I A  FU x1 (200 : Int32) (0 : Int32)))
set_option maxRecDepth 100000 in
set_option maxHeartbeats 4000000 in
theorem mX9_nearest (l : Launch) (dC : Nat → ClassId) (dI : Nat → Nat → Nat) (cI cB cJ : ClassId) (Q : Nat → Nat) (B : Nat → Nat → Int64) (I : Nat → Int32) (A : Nat → Nat → Int32)  (x1 : Int32) (r : Int32) (hf : fX9_nearest B I A x1 = some r) : Met l yX9_nearest wsX9_nearest ({ frames := 1, cells := 0, slots := 0, locals := 20 }) (va_Pc [.ref (Q 100), .int x1] (fun U => va_P (dC, dI) vwCl (wM cI cB cJ Q B I A) U.heap ∧ va_K (dC, dI) vwCl (tM cI cB cJ) U)) (QcRead r) 0 0 (fun _ => False) := by
  refine Met.ofW (cc := cX9_nearest) (maxL := 5) (ret := (some .int)) (by decide) rfl ?_
  intro p e s m args below meth c s₁ BL hml hv
  obtain ⟨rfl, hP, hK⟩ := hv
  have hx := BL.exec
  have hb := BL.bytes
  have hr := BL.returns
  have hts := atoms_spec (ws := wsX9_nearest) BL.pre
  have hown : s.vm.findClass RX9 = some m.cls := findClass_of_methodNamed BL.named
  have hlocks := BL.notSynchronized
  have hinX9 : ∀ w ∈ u_ws RX9 TX9 36, w ∈ wsX9_nearest := by decide +kernel
  have hk32 := hts (.fieldLink RX9 32 "LeadSheetsModel" "keys" "[I") (by decide +kernel)
  have hk344 := hts (.fieldLink RX9 344 "LeadSheetsModel" "keyMany" "I") (by decide +kernel)
  have sg17 : ∀ n : Nat, ∀  (v1 : Int32) (v2 : Int32) (v3 : Int32) (ls : Array Slot), fX9_nearest_17 B I A  n  v1 v2 v3 = some r → lv_has ls 5 [(0, .ref (Q 100)), (1, .int v1), (2, .int v2), (3, .int v3)] → W p l e (headSpec wsX9_nearest ({ frames := 1, cells := 0, slots := 0, locals := 20 })).room s m (([.ref (Q 100), .int x1] : List Value).toArray) below meth c s.heap [] 0 0 (MQ below (QcRead r) (([.ref (Q 100), .int x1] : List Value).toArray) s 0 0 (fun _ => False)) (F0 m 17 ls []) := by
    intro n
    induction n with
    | zero => intro v1 v2 v3 ls hf hl; exact of_none hf
    | succ n ih17 =>
      intro v1 v2 v3 ls hf hl
      change fX9_nearest_17B B I A  (fX9_nearest_17 B I A  n) v1 v2 v3 = _ at hf
      unfold fX9_nearest_17B at hf
      refine lv_iload_n hx hb dX9_nearest_17 rfl (lv_at hl 3 rfl) ?_
      refine lv_aload_n hx hb dX9_nearest_18 rfl (lv_at hl 0 rfl) ?_
      refine va_get (D := (dC, dI)) (ci := 6) (v := .int (I 12)) (C := RX9) (T := TX9) (N := 36) hx hb hts hinX9 hown hK hP 0 rfl rfl 12 (by decide) hk344 (fun _ h9 => h9) rfl dX9_nearest_19 ?_
      refine lv_icmp_ge (tgt := 57) hx hb dX9_nearest_22 (by decide) (fun c2 => ?_) (fun c2 => ?_)
      · have hf := (if_pos c2).symm.trans hf
        refine lv_iload_n hx hb dX9_nearest_57 rfl (lv_at hl 2 rfl) ?_
        exact W.iret (v := v2) hx hb hr (fun t ht hW => ⟨congrArg (fun z => Outcome.returned (some (Value.int z))) (Option.some.inj hf), ht⟩) (fun _ h => nomatch h) dX9_nearest_58
      · have hf := (if_neg c2).symm.trans hf
        refine lv_aload_n hx hb dX9_nearest_25 rfl (lv_at hl 0 rfl) ?_
        refine va_get (D := (dC, dI)) (ci := 6) (v := .ref (Q 11)) (C := RX9) (T := TX9) (N := 36) hx hb hts hinX9 hown hK hP 0 rfl rfl 11 (by decide) hk32 (fun _ h9 => h9) rfl dX9_nearest_26 ?_
        refine lv_iload_n hx hb dX9_nearest_29 rfl (lv_at hl 3 rfl) ?_
        obtain ⟨g3, hf⟩ := of_ite_some hf
        refine va_iald hx hb hK hP 8 0 (n := 12) (f := (A 11)) rfl rfl g3 dX9_nearest_30 ?_
        refine lv_iload_n hx hb dX9_nearest_31 rfl (lv_at hl 1 rfl) ?_
        refine lv_isub hx hb dX9_nearest_32 ?_
        refine W.callR (r := (fX9_size (((A 11) v3.toNatClampNeg) - v1))) (W.runS (As := [.int (((A 11) v3.toNatClampNeg) - v1)]) (rest := []) ⟨hx, hb, hml, hown, hts⟩ (mX9_size l (((A 11) v3.toNatClampNeg) - v1) (fX9_size (((A 11) v3.toNatClampNeg) - v1)) rfl) (va_cwS 1 hts gX9_nearest_X9_size rfl rfl rfl (by decide +kernel) ⟨Nat.le_of_ble_eq_true rfl, Nat.le_of_ble_eq_true rfl⟩) ⟨fun _ _ _ _ q => q, fun U hU hW => ⟨rfl, trivial⟩⟩ rfl rfl hl.1 rfl (lv_room (Nat.le_of_ble_eq_true rfl)) dX9_nearest_33 ⟨Nat.zero_le _, Nat.zero_le _⟩) ?_
        refine W.eq (g2 := F0 m 36 ls [.int (fX9_size (((A 11) v3.toNatClampNeg) - v1))]) rfl ?_
        refine lv_istore (lv' := [(4, .int (fX9_size (((A 11) v3.toNatClampNeg) - v1))), (0, .ref (Q 100)), (1, .int v1), (2, .int v2), (3, .int v3)]) hx hb dX9_nearest_36 hl (by decide) rfl (fun ls hl => ?_)
        refine lv_iload hx hb dX9_nearest_38 (lv_at hl 0 rfl) ?_
        refine lv_iload_n hx hb dX9_nearest_40 rfl (lv_at hl 3 rfl) ?_
        refine lv_icmp_ge (tgt := 49) hx hb dX9_nearest_41 (by decide) (fun c4 => ?_) (fun c4 => ?_)
        · have hf := (if_pos c4).symm.trans hf
          refine lv_iload_n hx hb dX9_nearest_49 rfl (lv_at hl 3 rfl) ?_
          refine lv_istore_n (lv' := [(2, .int v2), (4, .int (fX9_size (((A 11) v3.toNatClampNeg) - v1))), (0, .ref (Q 100)), (1, .int v1), (3, .int v3)]) hx hb dX9_nearest_50 rfl hl (by decide) rfl (fun ls hl => ?_)
          refine lv_iinc (v := (v3 + (1 : Int32))) (lv' := [(3, .int (v3 + (1 : Int32))), (2, .int v2), (4, .int (fX9_size (((A 11) v3.toNatClampNeg) - v1))), (0, .ref (Q 100)), (1, .int v1)]) hx hb dX9_nearest_51 hl (k := 4) rfl rfl (by decide) rfl (fun ls hl => ?_)
          refine lv_goto (tgt := 17) hx hb dX9_nearest_54 (by decide) ?_
          exact ih17 v1 v2 (v3 + (1 : Int32)) ls hf (lv_sub hl [3, 4, 1, 0] rfl)
        · have hf := (if_neg c4).symm.trans hf
          refine lv_iload hx hb dX9_nearest_44 (lv_at hl 0 rfl) ?_
          refine lv_goto (tgt := 50) hx hb dX9_nearest_46 (by decide) ?_
          refine lv_istore_n (lv' := [(2, .int (fX9_size (((A 11) v3.toNatClampNeg) - v1))), (4, .int (fX9_size (((A 11) v3.toNatClampNeg) - v1))), (0, .ref (Q 100)), (1, .int v1), (3, .int v3)]) hx hb dX9_nearest_50 rfl hl (by decide) rfl (fun ls hl => ?_)
          refine lv_iinc (v := (v3 + (1 : Int32))) (lv' := [(3, .int (v3 + (1 : Int32))), (2, .int (fX9_size (((A 11) v3.toNatClampNeg) - v1))), (4, .int (fX9_size (((A 11) v3.toNatClampNeg) - v1))), (0, .ref (Q 100)), (1, .int v1)]) hx hb dX9_nearest_51 hl (k := 4) rfl rfl (by decide) rfl (fun ls hl => ?_)
          refine lv_goto (tgt := 17) hx hb dX9_nearest_54 (by decide) ?_
          exact ih17 v1 (fX9_size (((A 11) v3.toNatClampNeg) - v1)) (v3 + (1 : Int32)) ls hf (lv_sub hl [3, 4, 1, 0] rfl)
  have hl := lv_entry ([.ref (Q 100), .int x1]) (n := 5) (Nat.le_of_ble_eq_true rfl)
  rw [lg_entry_eq]
  generalize (lg_sl ([.ref (Q 100), .int x1]) ++ List.replicate (5 - (lg_sl ([.ref (Q 100), .int x1])).length) Slot.unset).toArray = ls at hl ⊢
  have hl : lv_has ls 5 [(0, .ref (Q 100)), (1, .int x1)] := hl
  unfold fX9_nearest at hf
  refine lv_aload_n hx hb dX9_nearest_0 rfl (lv_at hl 0 rfl) ?_
  refine va_get (D := (dC, dI)) (ci := 6) (v := .int (I 12)) (C := RX9) (T := TX9) (N := 36) hx hb hts hinX9 hown hK hP 0 rfl rfl 12 (by decide) hk344 (fun _ h9 => h9) rfl dX9_nearest_1 ?_
  refine lv_if_ne (tgt := 11) hx hb dX9_nearest_4 (by decide) (fun c1 => ?_) (fun c1 => ?_)
  · have hf := (if_neg c1).symm.trans hf
    refine lv_sipush (v := (200 : Int32)) hx hb dX9_nearest_11 (by decide) ?_
    refine lv_istore_n (lv' := [(2, .int (200 : Int32)), (0, .ref (Q 100)), (1, .int x1)]) hx hb dX9_nearest_14 rfl hl (by decide) rfl (fun ls hl => ?_)
    refine lv_iconst (v := (0 : Int32)) hx hb dX9_nearest_15 (by decide) ?_
    refine lv_istore_n (lv' := [(3, .int (0 : Int32)), (2, .int (200 : Int32)), (0, .ref (Q 100)), (1, .int x1)]) hx hb dX9_nearest_16 rfl hl (by decide) rfl (fun ls hl => ?_)
    exact sg17  FU x1 (200 : Int32) (0 : Int32) ls hf (lv_sub hl [2, 3, 1, 0] rfl)
  · have hf := (if_pos c1).symm.trans hf
    refine lv_iconst (v := (0 : Int32)) hx hb dX9_nearest_7 (by decide) ?_
    refine lv_goto (tgt := 14) hx hb dX9_nearest_8 (by decide) ?_
    refine lv_istore_n (lv' := [(2, .int (0 : Int32)), (0, .ref (Q 100)), (1, .int x1)]) hx hb dX9_nearest_14 rfl hl (by decide) rfl (fun ls hl => ?_)
    refine lv_iconst (v := (0 : Int32)) hx hb dX9_nearest_15 (by decide) ?_
    refine lv_istore_n (lv' := [(3, .int (0 : Int32)), (2, .int (0 : Int32)), (0, .ref (Q 100)), (1, .int x1)]) hx hb dX9_nearest_16 rfl hl (by decide) rfl (fun ls hl => ?_)
    exact sg17  FU x1 (0 : Int32) (0 : Int32) ls hf (lv_sub hl [2, 3, 1, 0] rfl)
def fX9_placeOfDegree_2B (B : Nat → Nat → Int64) (I : Nat → Int32) (A : Nat → Nat → Int32)  (k2 : Int32 → Int32 → Option Int32)  (v1 : Int32) (v2 : Int32) : Option Int32 :=
  (if (I 26) ≤ v2 then (some (-2 : Int32)) else (if gd v2 16 then (if ((A 25) v2.toNatClampNeg) = v1 then (some v2) else (k2 v1 (v2 + (1 : Int32)))) else none))
def fX9_placeOfDegree_2 (B : Nat → Nat → Int64) (I : Nat → Int32) (A : Nat → Nat → Int32)  : Nat → (Int32 → Int32 → Option Int32)
  | 0 => fun _ _ => none
  | n + 1 => fX9_placeOfDegree_2B B I A  (fX9_placeOfDegree_2 B I A  n)
def fX9_placeOfDegree (B : Nat → Nat → Int64) (I : Nat → Int32) (A : Nat → Nat → Int32)  (x1 : Int32) : Option Int32 :=
  (fX9_placeOfDegree_2 B I A  FU x1 (0 : Int32))
set_option maxRecDepth 100000 in
set_option maxHeartbeats 4000000 in
theorem mX9_placeOfDegree (l : Launch) (dC : Nat → ClassId) (dI : Nat → Nat → Nat) (cI cB cJ : ClassId) (Q : Nat → Nat) (B : Nat → Nat → Int64) (I : Nat → Int32) (A : Nat → Nat → Int32)  (x1 : Int32) (r : Int32) (hf : fX9_placeOfDegree B I A x1 = some r) : Met l yX9_placeOfDegree wsX9_placeOfDegree ({ frames := 0, cells := 0, slots := 0, locals := 0 }) (va_Pc [.ref (Q 100), .int x1] (fun U => va_P (dC, dI) vwCl (wM cI cB cJ Q B I A) U.heap ∧ va_K (dC, dI) vwCl (tM cI cB cJ) U)) (QcRead r) 0 0 (fun _ => False) := by
  refine Met.ofW (cc := cX9_placeOfDegree) (maxL := 3) (ret := (some .int)) (by decide) rfl ?_
  intro p e s m args below meth c s₁ BL hml hv
  obtain ⟨rfl, hP, hK⟩ := hv
  have hx := BL.exec
  have hb := BL.bytes
  have hr := BL.returns
  have hts := atoms_spec (ws := wsX9_placeOfDegree) BL.pre
  have hown : s.vm.findClass RX9 = some m.cls := findClass_of_methodNamed BL.named
  have hlocks := BL.notSynchronized
  have hinX9 : ∀ w ∈ u_ws RX9 TX9 36, w ∈ wsX9_placeOfDegree := by decide +kernel
  have hk172 := hts (.fieldLink RX9 172 "LeadSheetsModel" "degree" "[I") (by decide +kernel)
  have hk212 := hts (.fieldLink RX9 212 "LeadSheetsModel" "many" "I") (by decide +kernel)
  have sg2 : ∀ n : Nat, ∀  (v1 : Int32) (v2 : Int32) (ls : Array Slot), fX9_placeOfDegree_2 B I A  n  v1 v2 = some r → lv_has ls 3 [(0, .ref (Q 100)), (1, .int v1), (2, .int v2)] → W p l e (headSpec wsX9_placeOfDegree ({ frames := 0, cells := 0, slots := 0, locals := 0 })).room s m (([.ref (Q 100), .int x1] : List Value).toArray) below meth c s.heap [] 0 0 (MQ below (QcRead r) (([.ref (Q 100), .int x1] : List Value).toArray) s 0 0 (fun _ => False)) (F0 m 2 ls []) := by
    intro n
    induction n with
    | zero => intro v1 v2 ls hf hl; exact of_none hf
    | succ n ih2 =>
      intro v1 v2 ls hf hl
      change fX9_placeOfDegree_2B B I A  (fX9_placeOfDegree_2 B I A  n) v1 v2 = _ at hf
      unfold fX9_placeOfDegree_2B at hf
      refine lv_iload_n hx hb dX9_placeOfDegree_2 rfl (lv_at hl 2 rfl) ?_
      refine lv_aload_n hx hb dX9_placeOfDegree_3 rfl (lv_at hl 0 rfl) ?_
      refine va_get (D := (dC, dI)) (ci := 6) (v := .int (I 26)) (C := RX9) (T := TX9) (N := 36) hx hb hts hinX9 hown hK hP 0 rfl rfl 26 (by decide) hk212 (fun _ h9 => h9) rfl dX9_placeOfDegree_4 ?_
      refine lv_icmp_ge (tgt := 28) hx hb dX9_placeOfDegree_7 (by decide) (fun c1 => ?_) (fun c1 => ?_)
      · have hf := (if_pos c1).symm.trans hf
        refine lv_bipush (v := (-2 : Int32)) hx hb dX9_placeOfDegree_28 (by decide) ?_
        exact W.iret (v := (-2 : Int32)) hx hb hr (fun t ht hW => ⟨congrArg (fun z => Outcome.returned (some (Value.int z))) (Option.some.inj hf), ht⟩) (fun _ h => nomatch h) dX9_placeOfDegree_30
      · have hf := (if_neg c1).symm.trans hf
        refine lv_aload_n hx hb dX9_placeOfDegree_10 rfl (lv_at hl 0 rfl) ?_
        refine va_get (D := (dC, dI)) (ci := 6) (v := .ref (Q 25)) (C := RX9) (T := TX9) (N := 36) hx hb hts hinX9 hown hK hP 0 rfl rfl 25 (by decide) hk172 (fun _ h9 => h9) rfl dX9_placeOfDegree_11 ?_
        refine lv_iload_n hx hb dX9_placeOfDegree_14 rfl (lv_at hl 2 rfl) ?_
        obtain ⟨g2, hf⟩ := of_ite_some hf
        refine va_iald hx hb hK hP 19 0 (n := 16) (f := (A 25)) rfl rfl g2 dX9_placeOfDegree_15 ?_
        refine lv_iload_n hx hb dX9_placeOfDegree_16 rfl (lv_at hl 1 rfl) ?_
        refine lv_icmp_ne (tgt := 22) hx hb dX9_placeOfDegree_17 (by decide) (fun c3 => ?_) (fun c3 => ?_)
        · have hf := (if_neg c3).symm.trans hf
          refine lv_iinc (v := (v2 + (1 : Int32))) (lv' := [(2, .int (v2 + (1 : Int32))), (0, .ref (Q 100)), (1, .int v1)]) hx hb dX9_placeOfDegree_22 hl (k := 2) rfl rfl (by decide) rfl (fun ls hl => ?_)
          refine lv_goto (tgt := 2) hx hb dX9_placeOfDegree_25 (by decide) ?_
          exact ih2 v1 (v2 + (1 : Int32)) ls hf (lv_sub hl [1, 2, 0] rfl)
        · have hf := (if_pos c3).symm.trans hf
          refine lv_iload_n hx hb dX9_placeOfDegree_20 rfl (lv_at hl 2 rfl) ?_
          exact W.iret (v := v2) hx hb hr (fun t ht hW => ⟨congrArg (fun z => Outcome.returned (some (Value.int z))) (Option.some.inj hf), ht⟩) (fun _ h => nomatch h) dX9_placeOfDegree_21
  have hl := lv_entry ([.ref (Q 100), .int x1]) (n := 3) (Nat.le_of_ble_eq_true rfl)
  rw [lg_entry_eq]
  generalize (lg_sl ([.ref (Q 100), .int x1]) ++ List.replicate (3 - (lg_sl ([.ref (Q 100), .int x1])).length) Slot.unset).toArray = ls at hl ⊢
  have hl : lv_has ls 3 [(0, .ref (Q 100)), (1, .int x1)] := hl
  unfold fX9_placeOfDegree at hf
  refine lv_iconst (v := (0 : Int32)) hx hb dX9_placeOfDegree_0 (by decide) ?_
  refine lv_istore_n (lv' := [(2, .int (0 : Int32)), (0, .ref (Q 100)), (1, .int x1)]) hx hb dX9_placeOfDegree_1 rfl hl (by decide) rfl (fun ls hl => ?_)
  exact sg2  FU x1 (0 : Int32) ls hf (lv_sub hl [1, 2, 0] rfl)
def fX9_placeOf_2B (B : Nat → Nat → Int64) (I : Nat → Int32) (A : Nat → Nat → Int32)  (k2 : Int32 → Int32 → Int32 → Option Int32)  (v1 : Int32) (v2 : Int32) (v3 : Int32) : Option Int32 :=
  (if (I 26) ≤ v3 then (some (-2 : Int32)) else (if gd v3 16 then (if ((A 25) v3.toNatClampNeg) = v1 then (if gd v3 16 then (if ((A 24) v3.toNatClampNeg) = v2 then (some v3) else (k2 v1 v2 (v3 + (1 : Int32)))) else none) else (k2 v1 v2 (v3 + (1 : Int32)))) else none))
def fX9_placeOf_2 (B : Nat → Nat → Int64) (I : Nat → Int32) (A : Nat → Nat → Int32)  : Nat → (Int32 → Int32 → Int32 → Option Int32)
  | 0 => fun _ _ _ => none
  | n + 1 => fX9_placeOf_2B B I A  (fX9_placeOf_2 B I A  n)
def fX9_placeOf (B : Nat → Nat → Int64) (I : Nat → Int32) (A : Nat → Nat → Int32)  (x1 : Int32) (x2 : Int32) : Option Int32 :=
  (fX9_placeOf_2 B I A  FU x1 x2 (0 : Int32))
set_option maxRecDepth 100000 in
set_option maxHeartbeats 4000000 in
theorem mX9_placeOf (l : Launch) (dC : Nat → ClassId) (dI : Nat → Nat → Nat) (cI cB cJ : ClassId) (Q : Nat → Nat) (B : Nat → Nat → Int64) (I : Nat → Int32) (A : Nat → Nat → Int32)  (x1 : Int32) (x2 : Int32) (r : Int32) (hf : fX9_placeOf B I A x1 x2 = some r) : Met l yX9_placeOf wsX9_placeOf ({ frames := 0, cells := 0, slots := 0, locals := 0 }) (va_Pc [.ref (Q 100), .int x1, .int x2] (fun U => va_P (dC, dI) vwCl (wM cI cB cJ Q B I A) U.heap ∧ va_K (dC, dI) vwCl (tM cI cB cJ) U)) (QcRead r) 0 0 (fun _ => False) := by
  refine Met.ofW (cc := cX9_placeOf) (maxL := 4) (ret := (some .int)) (by decide) rfl ?_
  intro p e s m args below meth c s₁ BL hml hv
  obtain ⟨rfl, hP, hK⟩ := hv
  have hx := BL.exec
  have hb := BL.bytes
  have hr := BL.returns
  have hts := atoms_spec (ws := wsX9_placeOf) BL.pre
  have hown : s.vm.findClass RX9 = some m.cls := findClass_of_methodNamed BL.named
  have hlocks := BL.notSynchronized
  have hinX9 : ∀ w ∈ u_ws RX9 TX9 36, w ∈ wsX9_placeOf := by decide +kernel
  have hk169 := hts (.fieldLink RX9 169 "LeadSheetsModel" "half" "[I") (by decide +kernel)
  have hk172 := hts (.fieldLink RX9 172 "LeadSheetsModel" "degree" "[I") (by decide +kernel)
  have hk212 := hts (.fieldLink RX9 212 "LeadSheetsModel" "many" "I") (by decide +kernel)
  have sg2 : ∀ n : Nat, ∀  (v1 : Int32) (v2 : Int32) (v3 : Int32) (ls : Array Slot), fX9_placeOf_2 B I A  n  v1 v2 v3 = some r → lv_has ls 4 [(0, .ref (Q 100)), (1, .int v1), (2, .int v2), (3, .int v3)] → W p l e (headSpec wsX9_placeOf ({ frames := 0, cells := 0, slots := 0, locals := 0 })).room s m (([.ref (Q 100), .int x1, .int x2] : List Value).toArray) below meth c s.heap [] 0 0 (MQ below (QcRead r) (([.ref (Q 100), .int x1, .int x2] : List Value).toArray) s 0 0 (fun _ => False)) (F0 m 2 ls []) := by
    intro n
    induction n with
    | zero => intro v1 v2 v3 ls hf hl; exact of_none hf
    | succ n ih2 =>
      intro v1 v2 v3 ls hf hl
      change fX9_placeOf_2B B I A  (fX9_placeOf_2 B I A  n) v1 v2 v3 = _ at hf
      unfold fX9_placeOf_2B at hf
      refine lv_iload_n hx hb dX9_placeOf_2 rfl (lv_at hl 3 rfl) ?_
      refine lv_aload_n hx hb dX9_placeOf_3 rfl (lv_at hl 0 rfl) ?_
      refine va_get (D := (dC, dI)) (ci := 6) (v := .int (I 26)) (C := RX9) (T := TX9) (N := 36) hx hb hts hinX9 hown hK hP 0 rfl rfl 26 (by decide) hk212 (fun _ h9 => h9) rfl dX9_placeOf_4 ?_
      refine lv_icmp_ge (tgt := 38) hx hb dX9_placeOf_7 (by decide) (fun c1 => ?_) (fun c1 => ?_)
      · have hf := (if_pos c1).symm.trans hf
        refine lv_bipush (v := (-2 : Int32)) hx hb dX9_placeOf_38 (by decide) ?_
        exact W.iret (v := (-2 : Int32)) hx hb hr (fun t ht hW => ⟨congrArg (fun z => Outcome.returned (some (Value.int z))) (Option.some.inj hf), ht⟩) (fun _ h => nomatch h) dX9_placeOf_40
      · have hf := (if_neg c1).symm.trans hf
        refine lv_aload_n hx hb dX9_placeOf_10 rfl (lv_at hl 0 rfl) ?_
        refine va_get (D := (dC, dI)) (ci := 6) (v := .ref (Q 25)) (C := RX9) (T := TX9) (N := 36) hx hb hts hinX9 hown hK hP 0 rfl rfl 25 (by decide) hk172 (fun _ h9 => h9) rfl dX9_placeOf_11 ?_
        refine lv_iload_n hx hb dX9_placeOf_14 rfl (lv_at hl 3 rfl) ?_
        obtain ⟨g2, hf⟩ := of_ite_some hf
        refine va_iald hx hb hK hP 19 0 (n := 16) (f := (A 25)) rfl rfl g2 dX9_placeOf_15 ?_
        refine lv_iload_n hx hb dX9_placeOf_16 rfl (lv_at hl 1 rfl) ?_
        refine lv_icmp_ne (tgt := 32) hx hb dX9_placeOf_17 (by decide) (fun c3 => ?_) (fun c3 => ?_)
        · have hf := (if_neg c3).symm.trans hf
          refine lv_iinc (v := (v3 + (1 : Int32))) (lv' := [(3, .int (v3 + (1 : Int32))), (0, .ref (Q 100)), (1, .int v1), (2, .int v2)]) hx hb dX9_placeOf_32 hl (k := 3) rfl rfl (by decide) rfl (fun ls hl => ?_)
          refine lv_goto (tgt := 2) hx hb dX9_placeOf_35 (by decide) ?_
          exact ih2 v1 v2 (v3 + (1 : Int32)) ls hf (lv_sub hl [1, 2, 3, 0] rfl)
        · have hf := (if_pos c3).symm.trans hf
          refine lv_aload_n hx hb dX9_placeOf_20 rfl (lv_at hl 0 rfl) ?_
          refine va_get (D := (dC, dI)) (ci := 6) (v := .ref (Q 24)) (C := RX9) (T := TX9) (N := 36) hx hb hts hinX9 hown hK hP 0 rfl rfl 24 (by decide) hk169 (fun _ h9 => h9) rfl dX9_placeOf_21 ?_
          refine lv_iload_n hx hb dX9_placeOf_24 rfl (lv_at hl 3 rfl) ?_
          obtain ⟨g4, hf⟩ := of_ite_some hf
          refine va_iald hx hb hK hP 18 0 (n := 16) (f := (A 24)) rfl rfl g4 dX9_placeOf_25 ?_
          refine lv_iload_n hx hb dX9_placeOf_26 rfl (lv_at hl 2 rfl) ?_
          refine lv_icmp_ne (tgt := 32) hx hb dX9_placeOf_27 (by decide) (fun c5 => ?_) (fun c5 => ?_)
          · have hf := (if_neg c5).symm.trans hf
            refine lv_iinc (v := (v3 + (1 : Int32))) (lv' := [(3, .int (v3 + (1 : Int32))), (0, .ref (Q 100)), (1, .int v1), (2, .int v2)]) hx hb dX9_placeOf_32 hl (k := 3) rfl rfl (by decide) rfl (fun ls hl => ?_)
            refine lv_goto (tgt := 2) hx hb dX9_placeOf_35 (by decide) ?_
            exact ih2 v1 v2 (v3 + (1 : Int32)) ls hf (lv_sub hl [1, 2, 3, 0] rfl)
          · have hf := (if_pos c5).symm.trans hf
            refine lv_iload_n hx hb dX9_placeOf_30 rfl (lv_at hl 3 rfl) ?_
            exact W.iret (v := v3) hx hb hr (fun t ht hW => ⟨congrArg (fun z => Outcome.returned (some (Value.int z))) (Option.some.inj hf), ht⟩) (fun _ h => nomatch h) dX9_placeOf_31
  have hl := lv_entry ([.ref (Q 100), .int x1, .int x2]) (n := 4) (Nat.le_of_ble_eq_true rfl)
  rw [lg_entry_eq]
  generalize (lg_sl ([.ref (Q 100), .int x1, .int x2]) ++ List.replicate (4 - (lg_sl ([.ref (Q 100), .int x1, .int x2])).length) Slot.unset).toArray = ls at hl ⊢
  have hl : lv_has ls 4 [(0, .ref (Q 100)), (1, .int x1), (2, .int x2)] := hl
  unfold fX9_placeOf at hf
  refine lv_iconst (v := (0 : Int32)) hx hb dX9_placeOf_0 (by decide) ?_
  refine lv_istore_n (lv' := [(3, .int (0 : Int32)), (0, .ref (Q 100)), (1, .int x1), (2, .int x2)]) hx hb dX9_placeOf_1 rfl hl (by decide) rfl (fun ls hl => ?_)
  exact sg2  FU x1 x2 (0 : Int32) ls hf (lv_sub hl [1, 2, 3, 0] rfl)
