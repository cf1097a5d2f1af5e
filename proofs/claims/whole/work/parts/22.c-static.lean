def fJ9_floorMod_7cf53   (x0 : Int32) (x1 : Int32) : Int32 :=
  (if 0 ≤ (x0 ^^^ x1) then (jrem x0 x1) else (if (jrem x0 x1) = 0 then (jrem x0 x1) else ((jrem x0 x1) + x1)))
set_option maxRecDepth 100000 in
set_option maxHeartbeats 4000000 in
theorem mJ9_floorMod_7cf53 (l : Launch)  (x0 : Int32) (x1 : Int32) (h0x : ¬ x1 = 0) (r : Int32) (hf : fJ9_floorMod_7cf53 x0 x1 = r) : Met l yJ9_floorMod_7cf53 wsJ9_floorMod_7cf53 ({ frames := 0, cells := 0, slots := 0, locals := 0 }) (va_Pc [.int x0, .int x1] (fun _ => True)) (QcRead r) 0 0 (fun _ => False) := by
  first | refine Met.ofW (cc := cJ9_floorMod_7cf53) (maxL := 3) (ret := (some .int)) (by decide) rfl ?_ | refine va_MetF (cc := cJ9_floorMod_7cf53) (maxL := 3) (ret := (some .int)) (by decide +kernel) rfl ?_
  intro p e s m args below meth c s₁ BL hml hv
  obtain ⟨rfl, -⟩ := hv
  have hx := BL.exec
  have hb := BL.bytes
  have hr := BL.returns
  have hts := atoms_spec (ws := wsJ9_floorMod_7cf53) BL.pre
  have hown : s.vm.findClass RJ9 = some m.cls := findClass_of_methodNamed BL.named
  have hlocks := BL.notSynchronized
  have hl := lv_entry ([.int x0, .int x1]) (n := 3) (Nat.le_of_ble_eq_true rfl)
  rw [lg_entry_eq]
  generalize (lg_sl ([.int x0, .int x1]) ++ List.replicate (3 - (lg_sl ([.int x0, .int x1])).length) Slot.unset).toArray = ls at hl ⊢
  have hl : lv_has ls 3 [(0, .int x0), (1, .int x1)] := hl
  unfold fJ9_floorMod_7cf53 at hf
  refine lv_iload_n hx hb dJ9_floorMod_7cf53_0 rfl (lv_at hl 0 rfl) ?_
  refine lv_iload_n hx hb dJ9_floorMod_7cf53_1 rfl (lv_at hl 1 rfl) ?_
  refine lv_irem hx hb dJ9_floorMod_7cf53_2 h0x ?_
  refine W.eq (g2 := F0 m 3 ls [.int (jrem x0 x1)]) rfl ?_
  refine lv_istore_n (lv' := [(2, .int (jrem x0 x1)), (0, .int x0), (1, .int x1)]) hx hb dJ9_floorMod_7cf53_3 rfl hl (by decide) rfl (fun ls hl => ?_)
  refine lv_iload_n hx hb dJ9_floorMod_7cf53_4 rfl (lv_at hl 1 rfl) ?_
  refine lv_iload_n hx hb dJ9_floorMod_7cf53_5 rfl (lv_at hl 2 rfl) ?_
  refine lv_ixor hx hb dJ9_floorMod_7cf53_6 ?_
  refine lv_if_ge (tgt := 18) hx hb dJ9_floorMod_7cf53_7 (by decide) (fun c1 => ?_) (fun c1 => ?_)
  · have hf := (if_pos c1).symm.trans hf
    refine lv_iload_n hx hb dJ9_floorMod_7cf53_18 rfl (lv_at hl 0 rfl) ?_
    exact W.iret (v := (jrem x0 x1)) hx hb hr (fun t ht hW => ⟨congrArg (fun z => Outcome.returned (some (Value.int z))) hf, ht⟩) (fun _ h => nomatch h) dJ9_floorMod_7cf53_19
  · have hf := (if_neg c1).symm.trans hf
    refine lv_iload_n hx hb dJ9_floorMod_7cf53_10 rfl (lv_at hl 0 rfl) ?_
    refine lv_if_eq (tgt := 18) hx hb dJ9_floorMod_7cf53_11 (by decide) (fun c2 => ?_) (fun c2 => ?_)
    · have hf := (if_pos c2).symm.trans hf
      refine lv_iload_n hx hb dJ9_floorMod_7cf53_18 rfl (lv_at hl 0 rfl) ?_
      exact W.iret (v := (jrem x0 x1)) hx hb hr (fun t ht hW => ⟨congrArg (fun z => Outcome.returned (some (Value.int z))) hf, ht⟩) (fun _ h => nomatch h) dJ9_floorMod_7cf53_19
    · have hf := (if_neg c2).symm.trans hf
      refine lv_iload_n hx hb dJ9_floorMod_7cf53_14 rfl (lv_at hl 0 rfl) ?_
      refine lv_iload_n hx hb dJ9_floorMod_7cf53_15 rfl (lv_at hl 2 rfl) ?_
      refine lv_iadd hx hb dJ9_floorMod_7cf53_16 ?_
      exact W.iret (v := ((jrem x0 x1) + x1)) hx hb hr (fun t ht hW => ⟨congrArg (fun z => Outcome.returned (some (Value.int z))) hf, ht⟩) (fun _ h => nomatch h) dJ9_floorMod_7cf53_17
def fJ6_bitCount_0f7a4   (x0 : Int32) : Int32 :=
  ((((((((x0 - (((x0.toUInt32 >>> ((1 : Int32).toUInt32 &&& Int32.toUInt32 31)).toInt32) &&& (1431655765 : Int32))) &&& (858993459 : Int32)) + ((((x0 - (((x0.toUInt32 >>> ((1 : Int32).toUInt32 &&& Int32.toUInt32 31)).toInt32) &&& (1431655765 : Int32))).toUInt32 >>> ((2 : Int32).toUInt32 &&& Int32.toUInt32 31)).toInt32) &&& (858993459 : Int32))) + (((((x0 - (((x0.toUInt32 >>> ((1 : Int32).toUInt32 &&& Int32.toUInt32 31)).toInt32) &&& (1431655765 : Int32))) &&& (858993459 : Int32)) + ((((x0 - (((x0.toUInt32 >>> ((1 : Int32).toUInt32 &&& Int32.toUInt32 31)).toInt32) &&& (1431655765 : Int32))).toUInt32 >>> ((2 : Int32).toUInt32 &&& Int32.toUInt32 31)).toInt32) &&& (858993459 : Int32))).toUInt32 >>> ((4 : Int32).toUInt32 &&& Int32.toUInt32 31)).toInt32)) &&& (252645135 : Int32)) + (((((((x0 - (((x0.toUInt32 >>> ((1 : Int32).toUInt32 &&& Int32.toUInt32 31)).toInt32) &&& (1431655765 : Int32))) &&& (858993459 : Int32)) + ((((x0 - (((x0.toUInt32 >>> ((1 : Int32).toUInt32 &&& Int32.toUInt32 31)).toInt32) &&& (1431655765 : Int32))).toUInt32 >>> ((2 : Int32).toUInt32 &&& Int32.toUInt32 31)).toInt32) &&& (858993459 : Int32))) + (((((x0 - (((x0.toUInt32 >>> ((1 : Int32).toUInt32 &&& Int32.toUInt32 31)).toInt32) &&& (1431655765 : Int32))) &&& (858993459 : Int32)) + ((((x0 - (((x0.toUInt32 >>> ((1 : Int32).toUInt32 &&& Int32.toUInt32 31)).toInt32) &&& (1431655765 : Int32))).toUInt32 >>> ((2 : Int32).toUInt32 &&& Int32.toUInt32 31)).toInt32) &&& (858993459 : Int32))).toUInt32 >>> ((4 : Int32).toUInt32 &&& Int32.toUInt32 31)).toInt32)) &&& (252645135 : Int32)).toUInt32 >>> ((8 : Int32).toUInt32 &&& Int32.toUInt32 31)).toInt32)) + ((((((((x0 - (((x0.toUInt32 >>> ((1 : Int32).toUInt32 &&& Int32.toUInt32 31)).toInt32) &&& (1431655765 : Int32))) &&& (858993459 : Int32)) + ((((x0 - (((x0.toUInt32 >>> ((1 : Int32).toUInt32 &&& Int32.toUInt32 31)).toInt32) &&& (1431655765 : Int32))).toUInt32 >>> ((2 : Int32).toUInt32 &&& Int32.toUInt32 31)).toInt32) &&& (858993459 : Int32))) + (((((x0 - (((x0.toUInt32 >>> ((1 : Int32).toUInt32 &&& Int32.toUInt32 31)).toInt32) &&& (1431655765 : Int32))) &&& (858993459 : Int32)) + ((((x0 - (((x0.toUInt32 >>> ((1 : Int32).toUInt32 &&& Int32.toUInt32 31)).toInt32) &&& (1431655765 : Int32))).toUInt32 >>> ((2 : Int32).toUInt32 &&& Int32.toUInt32 31)).toInt32) &&& (858993459 : Int32))).toUInt32 >>> ((4 : Int32).toUInt32 &&& Int32.toUInt32 31)).toInt32)) &&& (252645135 : Int32)) + (((((((x0 - (((x0.toUInt32 >>> ((1 : Int32).toUInt32 &&& Int32.toUInt32 31)).toInt32) &&& (1431655765 : Int32))) &&& (858993459 : Int32)) + ((((x0 - (((x0.toUInt32 >>> ((1 : Int32).toUInt32 &&& Int32.toUInt32 31)).toInt32) &&& (1431655765 : Int32))).toUInt32 >>> ((2 : Int32).toUInt32 &&& Int32.toUInt32 31)).toInt32) &&& (858993459 : Int32))) + (((((x0 - (((x0.toUInt32 >>> ((1 : Int32).toUInt32 &&& Int32.toUInt32 31)).toInt32) &&& (1431655765 : Int32))) &&& (858993459 : Int32)) + ((((x0 - (((x0.toUInt32 >>> ((1 : Int32).toUInt32 &&& Int32.toUInt32 31)).toInt32) &&& (1431655765 : Int32))).toUInt32 >>> ((2 : Int32).toUInt32 &&& Int32.toUInt32 31)).toInt32) &&& (858993459 : Int32))).toUInt32 >>> ((4 : Int32).toUInt32 &&& Int32.toUInt32 31)).toInt32)) &&& (252645135 : Int32)).toUInt32 >>> ((8 : Int32).toUInt32 &&& Int32.toUInt32 31)).toInt32)).toUInt32 >>> ((16 : Int32).toUInt32 &&& Int32.toUInt32 31)).toInt32)) &&& (63 : Int32))
set_option maxRecDepth 100000 in
set_option maxHeartbeats 4000000 in
theorem mJ6_bitCount_0f7a4 (l : Launch)  (x0 : Int32) (r : Int32) (hf : fJ6_bitCount_0f7a4 x0 = r) : Met l yJ6_bitCount_0f7a4 wsJ6_bitCount_0f7a4 ({ frames := 0, cells := 0, slots := 0, locals := 0 }) (va_Pc [.int x0] (fun _ => True)) (QcRead r) 0 0 (fun _ => False) := by
  first | refine Met.ofW (cc := cJ6_bitCount_0f7a4) (maxL := 1) (ret := (some .int)) (by decide) rfl ?_ | refine va_MetF (cc := cJ6_bitCount_0f7a4) (maxL := 1) (ret := (some .int)) (by decide +kernel) rfl ?_
  intro p e s m args below meth c s₁ BL hml hv
  obtain ⟨rfl, -⟩ := hv
  have hx := BL.exec
  have hb := BL.bytes
  have hr := BL.returns
  have hts := atoms_spec (ws := wsJ6_bitCount_0f7a4) BL.pre
  have hown : s.vm.findClass RJ6 = some m.cls := findClass_of_methodNamed BL.named
  have hlocks := BL.notSynchronized
  have hl := lv_entry ([.int x0]) (n := 1) (Nat.le_of_ble_eq_true rfl)
  rw [lg_entry_eq]
  generalize (lg_sl ([.int x0]) ++ List.replicate (1 - (lg_sl ([.int x0])).length) Slot.unset).toArray = ls at hl ⊢
  have hl : lv_has ls 1 [(0, .int x0)] := hl
  unfold fJ6_bitCount_0f7a4 at hf
  refine lv_iload_n hx hb dJ6_bitCount_0f7a4_0 rfl (lv_at hl 0 rfl) ?_
  refine lv_iload_n hx hb dJ6_bitCount_0f7a4_1 rfl (lv_at hl 0 rfl) ?_
  refine lv_iconst (v := (1 : Int32)) hx hb dJ6_bitCount_0f7a4_2 (by decide) ?_
  refine lv_iushr (v := ((x0.toUInt32 >>> ((1 : Int32).toUInt32 &&& Int32.toUInt32 31)).toInt32)) hx hb dJ6_bitCount_0f7a4_3 rfl ?_
  refine lv_ldcw hx hb hown (hts (.constant RJ6 265 (1431655765)) (by decide +kernel)) dJ6_bitCount_0f7a4_4 ?_
  refine lv_iand hx hb dJ6_bitCount_0f7a4_7 ?_
  refine lv_isub hx hb dJ6_bitCount_0f7a4_8 ?_
  refine lv_istore_n (lv' := [(0, .int (x0 - (((x0.toUInt32 >>> ((1 : Int32).toUInt32 &&& Int32.toUInt32 31)).toInt32) &&& (1431655765 : Int32))))]) hx hb dJ6_bitCount_0f7a4_9 rfl hl (by decide) rfl (fun ls hl => ?_)
  refine lv_iload_n hx hb dJ6_bitCount_0f7a4_10 rfl (lv_at hl 0 rfl) ?_
  refine lv_ldcw hx hb hown (hts (.constant RJ6 266 (858993459)) (by decide +kernel)) dJ6_bitCount_0f7a4_11 ?_
  refine lv_iand hx hb dJ6_bitCount_0f7a4_14 ?_
  refine lv_iload_n hx hb dJ6_bitCount_0f7a4_15 rfl (lv_at hl 0 rfl) ?_
  refine lv_iconst (v := (2 : Int32)) hx hb dJ6_bitCount_0f7a4_16 (by decide) ?_
  refine lv_iushr (v := (((x0 - (((x0.toUInt32 >>> ((1 : Int32).toUInt32 &&& Int32.toUInt32 31)).toInt32) &&& (1431655765 : Int32))).toUInt32 >>> ((2 : Int32).toUInt32 &&& Int32.toUInt32 31)).toInt32)) hx hb dJ6_bitCount_0f7a4_17 rfl ?_
  refine lv_ldcw hx hb hown (hts (.constant RJ6 266 (858993459)) (by decide +kernel)) dJ6_bitCount_0f7a4_18 ?_
  refine lv_iand hx hb dJ6_bitCount_0f7a4_21 ?_
  refine lv_iadd hx hb dJ6_bitCount_0f7a4_22 ?_
  refine lv_istore_n (lv' := [(0, .int (((x0 - (((x0.toUInt32 >>> ((1 : Int32).toUInt32 &&& Int32.toUInt32 31)).toInt32) &&& (1431655765 : Int32))) &&& (858993459 : Int32)) + ((((x0 - (((x0.toUInt32 >>> ((1 : Int32).toUInt32 &&& Int32.toUInt32 31)).toInt32) &&& (1431655765 : Int32))).toUInt32 >>> ((2 : Int32).toUInt32 &&& Int32.toUInt32 31)).toInt32) &&& (858993459 : Int32))))]) hx hb dJ6_bitCount_0f7a4_23 rfl hl (by decide) rfl (fun ls hl => ?_)
  refine lv_iload_n hx hb dJ6_bitCount_0f7a4_24 rfl (lv_at hl 0 rfl) ?_
  refine lv_iload_n hx hb dJ6_bitCount_0f7a4_25 rfl (lv_at hl 0 rfl) ?_
  refine lv_iconst (v := (4 : Int32)) hx hb dJ6_bitCount_0f7a4_26 (by decide) ?_
  refine lv_iushr (v := (((((x0 - (((x0.toUInt32 >>> ((1 : Int32).toUInt32 &&& Int32.toUInt32 31)).toInt32) &&& (1431655765 : Int32))) &&& (858993459 : Int32)) + ((((x0 - (((x0.toUInt32 >>> ((1 : Int32).toUInt32 &&& Int32.toUInt32 31)).toInt32) &&& (1431655765 : Int32))).toUInt32 >>> ((2 : Int32).toUInt32 &&& Int32.toUInt32 31)).toInt32) &&& (858993459 : Int32))).toUInt32 >>> ((4 : Int32).toUInt32 &&& Int32.toUInt32 31)).toInt32)) hx hb dJ6_bitCount_0f7a4_27 rfl ?_
  refine lv_iadd hx hb dJ6_bitCount_0f7a4_28 ?_
  refine lv_ldcw hx hb hown (hts (.constant RJ6 267 (252645135)) (by decide +kernel)) dJ6_bitCount_0f7a4_29 ?_
  refine lv_iand hx hb dJ6_bitCount_0f7a4_32 ?_
  refine lv_istore_n (lv' := [(0, .int (((((x0 - (((x0.toUInt32 >>> ((1 : Int32).toUInt32 &&& Int32.toUInt32 31)).toInt32) &&& (1431655765 : Int32))) &&& (858993459 : Int32)) + ((((x0 - (((x0.toUInt32 >>> ((1 : Int32).toUInt32 &&& Int32.toUInt32 31)).toInt32) &&& (1431655765 : Int32))).toUInt32 >>> ((2 : Int32).toUInt32 &&& Int32.toUInt32 31)).toInt32) &&& (858993459 : Int32))) + (((((x0 - (((x0.toUInt32 >>> ((1 : Int32).toUInt32 &&& Int32.toUInt32 31)).toInt32) &&& (1431655765 : Int32))) &&& (858993459 : Int32)) + ((((x0 - (((x0.toUInt32 >>> ((1 : Int32).toUInt32 &&& Int32.toUInt32 31)).toInt32) &&& (1431655765 : Int32))).toUInt32 >>> ((2 : Int32).toUInt32 &&& Int32.toUInt32 31)).toInt32) &&& (858993459 : Int32))).toUInt32 >>> ((4 : Int32).toUInt32 &&& Int32.toUInt32 31)).toInt32)) &&& (252645135 : Int32)))]) hx hb dJ6_bitCount_0f7a4_33 rfl hl (by decide) rfl (fun ls hl => ?_)
  refine lv_iload_n hx hb dJ6_bitCount_0f7a4_34 rfl (lv_at hl 0 rfl) ?_
  refine lv_iload_n hx hb dJ6_bitCount_0f7a4_35 rfl (lv_at hl 0 rfl) ?_
  refine lv_bipush (v := (8 : Int32)) hx hb dJ6_bitCount_0f7a4_36 (by decide) ?_
  refine lv_iushr (v := (((((((x0 - (((x0.toUInt32 >>> ((1 : Int32).toUInt32 &&& Int32.toUInt32 31)).toInt32) &&& (1431655765 : Int32))) &&& (858993459 : Int32)) + ((((x0 - (((x0.toUInt32 >>> ((1 : Int32).toUInt32 &&& Int32.toUInt32 31)).toInt32) &&& (1431655765 : Int32))).toUInt32 >>> ((2 : Int32).toUInt32 &&& Int32.toUInt32 31)).toInt32) &&& (858993459 : Int32))) + (((((x0 - (((x0.toUInt32 >>> ((1 : Int32).toUInt32 &&& Int32.toUInt32 31)).toInt32) &&& (1431655765 : Int32))) &&& (858993459 : Int32)) + ((((x0 - (((x0.toUInt32 >>> ((1 : Int32).toUInt32 &&& Int32.toUInt32 31)).toInt32) &&& (1431655765 : Int32))).toUInt32 >>> ((2 : Int32).toUInt32 &&& Int32.toUInt32 31)).toInt32) &&& (858993459 : Int32))).toUInt32 >>> ((4 : Int32).toUInt32 &&& Int32.toUInt32 31)).toInt32)) &&& (252645135 : Int32)).toUInt32 >>> ((8 : Int32).toUInt32 &&& Int32.toUInt32 31)).toInt32)) hx hb dJ6_bitCount_0f7a4_38 rfl ?_
  refine lv_iadd hx hb dJ6_bitCount_0f7a4_39 ?_
  refine lv_istore_n (lv' := [(0, .int ((((((x0 - (((x0.toUInt32 >>> ((1 : Int32).toUInt32 &&& Int32.toUInt32 31)).toInt32) &&& (1431655765 : Int32))) &&& (858993459 : Int32)) + ((((x0 - (((x0.toUInt32 >>> ((1 : Int32).toUInt32 &&& Int32.toUInt32 31)).toInt32) &&& (1431655765 : Int32))).toUInt32 >>> ((2 : Int32).toUInt32 &&& Int32.toUInt32 31)).toInt32) &&& (858993459 : Int32))) + (((((x0 - (((x0.toUInt32 >>> ((1 : Int32).toUInt32 &&& Int32.toUInt32 31)).toInt32) &&& (1431655765 : Int32))) &&& (858993459 : Int32)) + ((((x0 - (((x0.toUInt32 >>> ((1 : Int32).toUInt32 &&& Int32.toUInt32 31)).toInt32) &&& (1431655765 : Int32))).toUInt32 >>> ((2 : Int32).toUInt32 &&& Int32.toUInt32 31)).toInt32) &&& (858993459 : Int32))).toUInt32 >>> ((4 : Int32).toUInt32 &&& Int32.toUInt32 31)).toInt32)) &&& (252645135 : Int32)) + (((((((x0 - (((x0.toUInt32 >>> ((1 : Int32).toUInt32 &&& Int32.toUInt32 31)).toInt32) &&& (1431655765 : Int32))) &&& (858993459 : Int32)) + ((((x0 - (((x0.toUInt32 >>> ((1 : Int32).toUInt32 &&& Int32.toUInt32 31)).toInt32) &&& (1431655765 : Int32))).toUInt32 >>> ((2 : Int32).toUInt32 &&& Int32.toUInt32 31)).toInt32) &&& (858993459 : Int32))) + (((((x0 - (((x0.toUInt32 >>> ((1 : Int32).toUInt32 &&& Int32.toUInt32 31)).toInt32) &&& (1431655765 : Int32))) &&& (858993459 : Int32)) + ((((x0 - (((x0.toUInt32 >>> ((1 : Int32).toUInt32 &&& Int32.toUInt32 31)).toInt32) &&& (1431655765 : Int32))).toUInt32 >>> ((2 : Int32).toUInt32 &&& Int32.toUInt32 31)).toInt32) &&& (858993459 : Int32))).toUInt32 >>> ((4 : Int32).toUInt32 &&& Int32.toUInt32 31)).toInt32)) &&& (252645135 : Int32)).toUInt32 >>> ((8 : Int32).toUInt32 &&& Int32.toUInt32 31)).toInt32)))]) hx hb dJ6_bitCount_0f7a4_40 rfl hl (by decide) rfl (fun ls hl => ?_)
  refine lv_iload_n hx hb dJ6_bitCount_0f7a4_41 rfl (lv_at hl 0 rfl) ?_
  refine lv_iload_n hx hb dJ6_bitCount_0f7a4_42 rfl (lv_at hl 0 rfl) ?_
  refine lv_bipush (v := (16 : Int32)) hx hb dJ6_bitCount_0f7a4_43 (by decide) ?_
  refine lv_iushr (v := ((((((((x0 - (((x0.toUInt32 >>> ((1 : Int32).toUInt32 &&& Int32.toUInt32 31)).toInt32) &&& (1431655765 : Int32))) &&& (858993459 : Int32)) + ((((x0 - (((x0.toUInt32 >>> ((1 : Int32).toUInt32 &&& Int32.toUInt32 31)).toInt32) &&& (1431655765 : Int32))).toUInt32 >>> ((2 : Int32).toUInt32 &&& Int32.toUInt32 31)).toInt32) &&& (858993459 : Int32))) + (((((x0 - (((x0.toUInt32 >>> ((1 : Int32).toUInt32 &&& Int32.toUInt32 31)).toInt32) &&& (1431655765 : Int32))) &&& (858993459 : Int32)) + ((((x0 - (((x0.toUInt32 >>> ((1 : Int32).toUInt32 &&& Int32.toUInt32 31)).toInt32) &&& (1431655765 : Int32))).toUInt32 >>> ((2 : Int32).toUInt32 &&& Int32.toUInt32 31)).toInt32) &&& (858993459 : Int32))).toUInt32 >>> ((4 : Int32).toUInt32 &&& Int32.toUInt32 31)).toInt32)) &&& (252645135 : Int32)) + (((((((x0 - (((x0.toUInt32 >>> ((1 : Int32).toUInt32 &&& Int32.toUInt32 31)).toInt32) &&& (1431655765 : Int32))) &&& (858993459 : Int32)) + ((((x0 - (((x0.toUInt32 >>> ((1 : Int32).toUInt32 &&& Int32.toUInt32 31)).toInt32) &&& (1431655765 : Int32))).toUInt32 >>> ((2 : Int32).toUInt32 &&& Int32.toUInt32 31)).toInt32) &&& (858993459 : Int32))) + (((((x0 - (((x0.toUInt32 >>> ((1 : Int32).toUInt32 &&& Int32.toUInt32 31)).toInt32) &&& (1431655765 : Int32))) &&& (858993459 : Int32)) + ((((x0 - (((x0.toUInt32 >>> ((1 : Int32).toUInt32 &&& Int32.toUInt32 31)).toInt32) &&& (1431655765 : Int32))).toUInt32 >>> ((2 : Int32).toUInt32 &&& Int32.toUInt32 31)).toInt32) &&& (858993459 : Int32))).toUInt32 >>> ((4 : Int32).toUInt32 &&& Int32.toUInt32 31)).toInt32)) &&& (252645135 : Int32)).toUInt32 >>> ((8 : Int32).toUInt32 &&& Int32.toUInt32 31)).toInt32)).toUInt32 >>> ((16 : Int32).toUInt32 &&& Int32.toUInt32 31)).toInt32)) hx hb dJ6_bitCount_0f7a4_45 rfl ?_
  refine lv_iadd hx hb dJ6_bitCount_0f7a4_46 ?_
  refine lv_istore_n (lv' := [(0, .int (((((((x0 - (((x0.toUInt32 >>> ((1 : Int32).toUInt32 &&& Int32.toUInt32 31)).toInt32) &&& (1431655765 : Int32))) &&& (858993459 : Int32)) + ((((x0 - (((x0.toUInt32 >>> ((1 : Int32).toUInt32 &&& Int32.toUInt32 31)).toInt32) &&& (1431655765 : Int32))).toUInt32 >>> ((2 : Int32).toUInt32 &&& Int32.toUInt32 31)).toInt32) &&& (858993459 : Int32))) + (((((x0 - (((x0.toUInt32 >>> ((1 : Int32).toUInt32 &&& Int32.toUInt32 31)).toInt32) &&& (1431655765 : Int32))) &&& (858993459 : Int32)) + ((((x0 - (((x0.toUInt32 >>> ((1 : Int32).toUInt32 &&& Int32.toUInt32 31)).toInt32) &&& (1431655765 : Int32))).toUInt32 >>> ((2 : Int32).toUInt32 &&& Int32.toUInt32 31)).toInt32) &&& (858993459 : Int32))).toUInt32 >>> ((4 : Int32).toUInt32 &&& Int32.toUInt32 31)).toInt32)) &&& (252645135 : Int32)) + (((((((x0 - (((x0.toUInt32 >>> ((1 : Int32).toUInt32 &&& Int32.toUInt32 31)).toInt32) &&& (1431655765 : Int32))) &&& (858993459 : Int32)) + ((((x0 - (((x0.toUInt32 >>> ((1 : Int32).toUInt32 &&& Int32.toUInt32 31)).toInt32) &&& (1431655765 : Int32))).toUInt32 >>> ((2 : Int32).toUInt32 &&& Int32.toUInt32 31)).toInt32) &&& (858993459 : Int32))) + (((((x0 - (((x0.toUInt32 >>> ((1 : Int32).toUInt32 &&& Int32.toUInt32 31)).toInt32) &&& (1431655765 : Int32))) &&& (858993459 : Int32)) + ((((x0 - (((x0.toUInt32 >>> ((1 : Int32).toUInt32 &&& Int32.toUInt32 31)).toInt32) &&& (1431655765 : Int32))).toUInt32 >>> ((2 : Int32).toUInt32 &&& Int32.toUInt32 31)).toInt32) &&& (858993459 : Int32))).toUInt32 >>> ((4 : Int32).toUInt32 &&& Int32.toUInt32 31)).toInt32)) &&& (252645135 : Int32)).toUInt32 >>> ((8 : Int32).toUInt32 &&& Int32.toUInt32 31)).toInt32)) + ((((((((x0 - (((x0.toUInt32 >>> ((1 : Int32).toUInt32 &&& Int32.toUInt32 31)).toInt32) &&& (1431655765 : Int32))) &&& (858993459 : Int32)) + ((((x0 - (((x0.toUInt32 >>> ((1 : Int32).toUInt32 &&& Int32.toUInt32 31)).toInt32) &&& (1431655765 : Int32))).toUInt32 >>> ((2 : Int32).toUInt32 &&& Int32.toUInt32 31)).toInt32) &&& (858993459 : Int32))) + (((((x0 - (((x0.toUInt32 >>> ((1 : Int32).toUInt32 &&& Int32.toUInt32 31)).toInt32) &&& (1431655765 : Int32))) &&& (858993459 : Int32)) + ((((x0 - (((x0.toUInt32 >>> ((1 : Int32).toUInt32 &&& Int32.toUInt32 31)).toInt32) &&& (1431655765 : Int32))).toUInt32 >>> ((2 : Int32).toUInt32 &&& Int32.toUInt32 31)).toInt32) &&& (858993459 : Int32))).toUInt32 >>> ((4 : Int32).toUInt32 &&& Int32.toUInt32 31)).toInt32)) &&& (252645135 : Int32)) + (((((((x0 - (((x0.toUInt32 >>> ((1 : Int32).toUInt32 &&& Int32.toUInt32 31)).toInt32) &&& (1431655765 : Int32))) &&& (858993459 : Int32)) + ((((x0 - (((x0.toUInt32 >>> ((1 : Int32).toUInt32 &&& Int32.toUInt32 31)).toInt32) &&& (1431655765 : Int32))).toUInt32 >>> ((2 : Int32).toUInt32 &&& Int32.toUInt32 31)).toInt32) &&& (858993459 : Int32))) + (((((x0 - (((x0.toUInt32 >>> ((1 : Int32).toUInt32 &&& Int32.toUInt32 31)).toInt32) &&& (1431655765 : Int32))) &&& (858993459 : Int32)) + ((((x0 - (((x0.toUInt32 >>> ((1 : Int32).toUInt32 &&& Int32.toUInt32 31)).toInt32) &&& (1431655765 : Int32))).toUInt32 >>> ((2 : Int32).toUInt32 &&& Int32.toUInt32 31)).toInt32) &&& (858993459 : Int32))).toUInt32 >>> ((4 : Int32).toUInt32 &&& Int32.toUInt32 31)).toInt32)) &&& (252645135 : Int32)).toUInt32 >>> ((8 : Int32).toUInt32 &&& Int32.toUInt32 31)).toInt32)).toUInt32 >>> ((16 : Int32).toUInt32 &&& Int32.toUInt32 31)).toInt32)))]) hx hb dJ6_bitCount_0f7a4_47 rfl hl (by decide) rfl (fun ls hl => ?_)
  refine lv_iload_n hx hb dJ6_bitCount_0f7a4_48 rfl (lv_at hl 0 rfl) ?_
  refine lv_bipush (v := (63 : Int32)) hx hb dJ6_bitCount_0f7a4_49 (by decide) ?_
  refine lv_iand hx hb dJ6_bitCount_0f7a4_51 ?_
  exact W.iret (v := ((((((((x0 - (((x0.toUInt32 >>> ((1 : Int32).toUInt32 &&& Int32.toUInt32 31)).toInt32) &&& (1431655765 : Int32))) &&& (858993459 : Int32)) + ((((x0 - (((x0.toUInt32 >>> ((1 : Int32).toUInt32 &&& Int32.toUInt32 31)).toInt32) &&& (1431655765 : Int32))).toUInt32 >>> ((2 : Int32).toUInt32 &&& Int32.toUInt32 31)).toInt32) &&& (858993459 : Int32))) + (((((x0 - (((x0.toUInt32 >>> ((1 : Int32).toUInt32 &&& Int32.toUInt32 31)).toInt32) &&& (1431655765 : Int32))) &&& (858993459 : Int32)) + ((((x0 - (((x0.toUInt32 >>> ((1 : Int32).toUInt32 &&& Int32.toUInt32 31)).toInt32) &&& (1431655765 : Int32))).toUInt32 >>> ((2 : Int32).toUInt32 &&& Int32.toUInt32 31)).toInt32) &&& (858993459 : Int32))).toUInt32 >>> ((4 : Int32).toUInt32 &&& Int32.toUInt32 31)).toInt32)) &&& (252645135 : Int32)) + (((((((x0 - (((x0.toUInt32 >>> ((1 : Int32).toUInt32 &&& Int32.toUInt32 31)).toInt32) &&& (1431655765 : Int32))) &&& (858993459 : Int32)) + ((((x0 - (((x0.toUInt32 >>> ((1 : Int32).toUInt32 &&& Int32.toUInt32 31)).toInt32) &&& (1431655765 : Int32))).toUInt32 >>> ((2 : Int32).toUInt32 &&& Int32.toUInt32 31)).toInt32) &&& (858993459 : Int32))) + (((((x0 - (((x0.toUInt32 >>> ((1 : Int32).toUInt32 &&& Int32.toUInt32 31)).toInt32) &&& (1431655765 : Int32))) &&& (858993459 : Int32)) + ((((x0 - (((x0.toUInt32 >>> ((1 : Int32).toUInt32 &&& Int32.toUInt32 31)).toInt32) &&& (1431655765 : Int32))).toUInt32 >>> ((2 : Int32).toUInt32 &&& Int32.toUInt32 31)).toInt32) &&& (858993459 : Int32))).toUInt32 >>> ((4 : Int32).toUInt32 &&& Int32.toUInt32 31)).toInt32)) &&& (252645135 : Int32)).toUInt32 >>> ((8 : Int32).toUInt32 &&& Int32.toUInt32 31)).toInt32)) + ((((((((x0 - (((x0.toUInt32 >>> ((1 : Int32).toUInt32 &&& Int32.toUInt32 31)).toInt32) &&& (1431655765 : Int32))) &&& (858993459 : Int32)) + ((((x0 - (((x0.toUInt32 >>> ((1 : Int32).toUInt32 &&& Int32.toUInt32 31)).toInt32) &&& (1431655765 : Int32))).toUInt32 >>> ((2 : Int32).toUInt32 &&& Int32.toUInt32 31)).toInt32) &&& (858993459 : Int32))) + (((((x0 - (((x0.toUInt32 >>> ((1 : Int32).toUInt32 &&& Int32.toUInt32 31)).toInt32) &&& (1431655765 : Int32))) &&& (858993459 : Int32)) + ((((x0 - (((x0.toUInt32 >>> ((1 : Int32).toUInt32 &&& Int32.toUInt32 31)).toInt32) &&& (1431655765 : Int32))).toUInt32 >>> ((2 : Int32).toUInt32 &&& Int32.toUInt32 31)).toInt32) &&& (858993459 : Int32))).toUInt32 >>> ((4 : Int32).toUInt32 &&& Int32.toUInt32 31)).toInt32)) &&& (252645135 : Int32)) + (((((((x0 - (((x0.toUInt32 >>> ((1 : Int32).toUInt32 &&& Int32.toUInt32 31)).toInt32) &&& (1431655765 : Int32))) &&& (858993459 : Int32)) + ((((x0 - (((x0.toUInt32 >>> ((1 : Int32).toUInt32 &&& Int32.toUInt32 31)).toInt32) &&& (1431655765 : Int32))).toUInt32 >>> ((2 : Int32).toUInt32 &&& Int32.toUInt32 31)).toInt32) &&& (858993459 : Int32))) + (((((x0 - (((x0.toUInt32 >>> ((1 : Int32).toUInt32 &&& Int32.toUInt32 31)).toInt32) &&& (1431655765 : Int32))) &&& (858993459 : Int32)) + ((((x0 - (((x0.toUInt32 >>> ((1 : Int32).toUInt32 &&& Int32.toUInt32 31)).toInt32) &&& (1431655765 : Int32))).toUInt32 >>> ((2 : Int32).toUInt32 &&& Int32.toUInt32 31)).toInt32) &&& (858993459 : Int32))).toUInt32 >>> ((4 : Int32).toUInt32 &&& Int32.toUInt32 31)).toInt32)) &&& (252645135 : Int32)).toUInt32 >>> ((8 : Int32).toUInt32 &&& Int32.toUInt32 31)).toInt32)).toUInt32 >>> ((16 : Int32).toUInt32 &&& Int32.toUInt32 31)).toInt32)) &&& (63 : Int32))) hx hb hr (fun t ht hW => ⟨congrArg (fun z => Outcome.returned (some (Value.int z))) hf, ht⟩) (fun _ h => nomatch h) dJ6_bitCount_0f7a4_52
def fX8_isPitch   (x0 : Int32) : Int32 :=
  (if x0 < 0 then (0 : Int32) else (if (12 : Int32) ≤ x0 then (0 : Int32) else (1 : Int32)))
set_option maxRecDepth 100000 in
set_option maxHeartbeats 4000000 in
theorem mX8_isPitch (l : Launch)  (x0 : Int32) (r : Int32) (hf : fX8_isPitch x0 = r) : Met l yX8_isPitch wsX8_isPitch ({ frames := 0, cells := 0, slots := 0, locals := 0 }) (va_Pc [.int x0] (fun _ => True)) (QcRead r) 0 0 (fun _ => False) := by
  refine Met.ofW (cc := cX8_isPitch) (maxL := 1) (ret := (some .boolean)) (by decide) rfl ?_
  intro p e s m args below meth c s₁ BL hml hv
  obtain ⟨rfl, -⟩ := hv
  have hx := BL.exec
  have hb := BL.bytes
  have hr := BL.returns
  have hts := atoms_spec (ws := wsX8_isPitch) BL.pre
  have hown : s.vm.findClass RX8 = some m.cls := findClass_of_methodNamed BL.named
  have hlocks := BL.notSynchronized
  have hl := lv_entry ([.int x0]) (n := 1) (Nat.le_of_ble_eq_true rfl)
  rw [lg_entry_eq]
  generalize (lg_sl ([.int x0]) ++ List.replicate (1 - (lg_sl ([.int x0])).length) Slot.unset).toArray = ls at hl ⊢
  have hl : lv_has ls 1 [(0, .int x0)] := hl
  unfold fX8_isPitch at hf
  refine lv_iload_n hx hb dX8_isPitch_0 rfl (lv_at hl 0 rfl) ?_
  refine lv_if_lt (tgt := 14) hx hb dX8_isPitch_1 (by decide) (fun c1 => ?_) (fun c1 => ?_)
  · have hf := (if_pos c1).symm.trans hf
    refine lv_iconst (v := (0 : Int32)) hx hb dX8_isPitch_14 (by decide) ?_
    exact W.zret (v := (0 : Int32)) hx hb hr rfl (fun t ht hW => ⟨congrArg (fun z => Outcome.returned (some (Value.int z))) hf, ht⟩) (fun _ h => nomatch h) dX8_isPitch_15
  · have hf := (if_neg c1).symm.trans hf
    refine lv_iload_n hx hb dX8_isPitch_4 rfl (lv_at hl 0 rfl) ?_
    refine lv_bipush (v := (12 : Int32)) hx hb dX8_isPitch_5 (by decide) ?_
    refine lv_icmp_ge (tgt := 14) hx hb dX8_isPitch_7 (by decide) (fun c2 => ?_) (fun c2 => ?_)
    · have hf := (if_pos c2).symm.trans hf
      refine lv_iconst (v := (0 : Int32)) hx hb dX8_isPitch_14 (by decide) ?_
      exact W.zret (v := (0 : Int32)) hx hb hr rfl (fun t ht hW => ⟨congrArg (fun z => Outcome.returned (some (Value.int z))) hf, ht⟩) (fun _ h => nomatch h) dX8_isPitch_15
    · have hf := (if_neg c2).symm.trans hf
      refine lv_iconst (v := (1 : Int32)) hx hb dX8_isPitch_10 (by decide) ?_
      refine lv_goto (tgt := 15) hx hb dX8_isPitch_11 (by decide) ?_
      exact W.zret (v := (1 : Int32)) hx hb hr rfl (fun t ht hW => ⟨congrArg (fun z => Outcome.returned (some (Value.int z))) hf, ht⟩) (fun _ h => nomatch h) dX8_isPitch_15
def fX8_isKey   (x0 : Int32) : Int32 :=
  (if x0 < 0 then (0 : Int32) else (if (127 : Int32) < x0 then (0 : Int32) else (1 : Int32)))
set_option maxRecDepth 100000 in
set_option maxHeartbeats 4000000 in
theorem mX8_isKey (l : Launch)  (x0 : Int32) (r : Int32) (hf : fX8_isKey x0 = r) : Met l yX8_isKey wsX8_isKey ({ frames := 0, cells := 0, slots := 0, locals := 0 }) (va_Pc [.int x0] (fun _ => True)) (QcRead r) 0 0 (fun _ => False) := by
  refine Met.ofW (cc := cX8_isKey) (maxL := 1) (ret := (some .boolean)) (by decide) rfl ?_
  intro p e s m args below meth c s₁ BL hml hv
  obtain ⟨rfl, -⟩ := hv
  have hx := BL.exec
  have hb := BL.bytes
  have hr := BL.returns
  have hts := atoms_spec (ws := wsX8_isKey) BL.pre
  have hown : s.vm.findClass RX8 = some m.cls := findClass_of_methodNamed BL.named
  have hlocks := BL.notSynchronized
  have hl := lv_entry ([.int x0]) (n := 1) (Nat.le_of_ble_eq_true rfl)
  rw [lg_entry_eq]
  generalize (lg_sl ([.int x0]) ++ List.replicate (1 - (lg_sl ([.int x0])).length) Slot.unset).toArray = ls at hl ⊢
  have hl : lv_has ls 1 [(0, .int x0)] := hl
  unfold fX8_isKey at hf
  refine lv_iload_n hx hb dX8_isKey_0 rfl (lv_at hl 0 rfl) ?_
  refine lv_if_lt (tgt := 14) hx hb dX8_isKey_1 (by decide) (fun c1 => ?_) (fun c1 => ?_)
  · have hf := (if_pos c1).symm.trans hf
    refine lv_iconst (v := (0 : Int32)) hx hb dX8_isKey_14 (by decide) ?_
    exact W.zret (v := (0 : Int32)) hx hb hr rfl (fun t ht hW => ⟨congrArg (fun z => Outcome.returned (some (Value.int z))) hf, ht⟩) (fun _ h => nomatch h) dX8_isKey_15
  · have hf := (if_neg c1).symm.trans hf
    refine lv_iload_n hx hb dX8_isKey_4 rfl (lv_at hl 0 rfl) ?_
    refine lv_bipush (v := (127 : Int32)) hx hb dX8_isKey_5 (by decide) ?_
    refine lv_icmp_gt (tgt := 14) hx hb dX8_isKey_7 (by decide) (fun c2 => ?_) (fun c2 => ?_)
    · have hf := (if_pos c2).symm.trans hf
      refine lv_iconst (v := (0 : Int32)) hx hb dX8_isKey_14 (by decide) ?_
      exact W.zret (v := (0 : Int32)) hx hb hr rfl (fun t ht hW => ⟨congrArg (fun z => Outcome.returned (some (Value.int z))) hf, ht⟩) (fun _ h => nomatch h) dX8_isKey_15
    · have hf := (if_neg c2).symm.trans hf
      refine lv_iconst (v := (1 : Int32)) hx hb dX8_isKey_10 (by decide) ?_
      refine lv_goto (tgt := 15) hx hb dX8_isKey_11 (by decide) ?_
      exact W.zret (v := (1 : Int32)) hx hb hr rfl (fun t ht hW => ⟨congrArg (fun z => Outcome.returned (some (Value.int z))) hf, ht⟩) (fun _ h => nomatch h) dX8_isKey_15
def fX3_note   (x0 : Int32) (x1 : Int32) : Int32 :=
  (((x0 * (5 : Int32)) + x1) + (2 : Int32))
set_option maxRecDepth 100000 in
set_option maxHeartbeats 4000000 in
theorem mX3_note (l : Launch)  (x0 : Int32) (x1 : Int32) (r : Int32) (hf : fX3_note x0 x1 = r) : Met l yX3_note wsX3_note ({ frames := 0, cells := 0, slots := 0, locals := 0 }) (va_Pc [.int x0, .int x1] (fun _ => True)) (QcRead r) 0 0 (fun _ => False) := by
  refine Met.ofW (cc := cX3_note) (maxL := 2) (ret := (some .int)) (by decide) rfl ?_
  intro p e s m args below meth c s₁ BL hml hv
  obtain ⟨rfl, -⟩ := hv
  have hx := BL.exec
  have hb := BL.bytes
  have hr := BL.returns
  have hts := atoms_spec (ws := wsX3_note) BL.pre
  have hown : s.vm.findClass RX3 = some m.cls := findClass_of_methodNamed BL.named
  have hlocks := BL.notSynchronized
  have hl := lv_entry ([.int x0, .int x1]) (n := 2) (Nat.le_of_ble_eq_true rfl)
  rw [lg_entry_eq]
  generalize (lg_sl ([.int x0, .int x1]) ++ List.replicate (2 - (lg_sl ([.int x0, .int x1])).length) Slot.unset).toArray = ls at hl ⊢
  have hl : lv_has ls 2 [(0, .int x0), (1, .int x1)] := hl
  unfold fX3_note at hf
  refine lv_iload_n hx hb dX3_note_0 rfl (lv_at hl 0 rfl) ?_
  refine lv_iconst (v := (5 : Int32)) hx hb dX3_note_1 (by decide) ?_
  refine lv_imul hx hb dX3_note_2 ?_
  refine lv_iload_n hx hb dX3_note_3 rfl (lv_at hl 1 rfl) ?_
  refine lv_iadd hx hb dX3_note_4 ?_
  refine lv_iconst (v := (2 : Int32)) hx hb dX3_note_5 (by decide) ?_
  refine lv_iadd hx hb dX3_note_6 ?_
  exact W.iret (v := (((x0 * (5 : Int32)) + x1) + (2 : Int32))) hx hb hr (fun t ht hW => ⟨congrArg (fun z => Outcome.returned (some (Value.int z))) hf, ht⟩) (fun _ h => nomatch h) dX3_note_7
def fX3_letter   (x0 : Int32) : Int32 :=
  (x0 / (5 : Int32))
set_option maxRecDepth 100000 in
set_option maxHeartbeats 4000000 in
theorem mX3_letter (l : Launch)  (x0 : Int32) (r : Int32) (hf : fX3_letter x0 = r) : Met l yX3_letter wsX3_letter ({ frames := 0, cells := 0, slots := 0, locals := 0 }) (va_Pc [.int x0] (fun _ => True)) (QcRead r) 0 0 (fun _ => False) := by
  refine Met.ofW (cc := cX3_letter) (maxL := 1) (ret := (some .int)) (by decide) rfl ?_
  intro p e s m args below meth c s₁ BL hml hv
  obtain ⟨rfl, -⟩ := hv
  have hx := BL.exec
  have hb := BL.bytes
  have hr := BL.returns
  have hts := atoms_spec (ws := wsX3_letter) BL.pre
  have hown : s.vm.findClass RX3 = some m.cls := findClass_of_methodNamed BL.named
  have hlocks := BL.notSynchronized
  have hl := lv_entry ([.int x0]) (n := 1) (Nat.le_of_ble_eq_true rfl)
  rw [lg_entry_eq]
  generalize (lg_sl ([.int x0]) ++ List.replicate (1 - (lg_sl ([.int x0])).length) Slot.unset).toArray = ls at hl ⊢
  have hl : lv_has ls 1 [(0, .int x0)] := hl
  unfold fX3_letter at hf
  refine lv_iload_n hx hb dX3_letter_0 rfl (lv_at hl 0 rfl) ?_
  refine lv_iconst (v := (5 : Int32)) hx hb dX3_letter_1 (by decide) ?_
  refine lv_idiv hx hb dX3_letter_2 (by decide) ?_
  exact W.iret (v := (x0 / (5 : Int32))) hx hb hr (fun t ht hW => ⟨congrArg (fun z => Outcome.returned (some (Value.int z))) hf, ht⟩) (fun _ h => nomatch h) dX3_letter_3
def fX3_signs   (x0 : Int32) : Int32 :=
  ((jrem x0 (5 : Int32)) - (2 : Int32))
set_option maxRecDepth 100000 in
set_option maxHeartbeats 4000000 in
theorem mX3_signs (l : Launch)  (x0 : Int32) (r : Int32) (hf : fX3_signs x0 = r) : Met l yX3_signs wsX3_signs ({ frames := 0, cells := 0, slots := 0, locals := 0 }) (va_Pc [.int x0] (fun _ => True)) (QcRead r) 0 0 (fun _ => False) := by
  refine Met.ofW (cc := cX3_signs) (maxL := 1) (ret := (some .int)) (by decide) rfl ?_
  intro p e s m args below meth c s₁ BL hml hv
  obtain ⟨rfl, -⟩ := hv
  have hx := BL.exec
  have hb := BL.bytes
  have hr := BL.returns
  have hts := atoms_spec (ws := wsX3_signs) BL.pre
  have hown : s.vm.findClass RX3 = some m.cls := findClass_of_methodNamed BL.named
  have hlocks := BL.notSynchronized
  have hl := lv_entry ([.int x0]) (n := 1) (Nat.le_of_ble_eq_true rfl)
  rw [lg_entry_eq]
  generalize (lg_sl ([.int x0]) ++ List.replicate (1 - (lg_sl ([.int x0])).length) Slot.unset).toArray = ls at hl ⊢
  have hl : lv_has ls 1 [(0, .int x0)] := hl
  unfold fX3_signs at hf
  refine lv_iload_n hx hb dX3_signs_0 rfl (lv_at hl 0 rfl) ?_
  refine lv_iconst (v := (5 : Int32)) hx hb dX3_signs_1 (by decide) ?_
  refine lv_irem hx hb dX3_signs_2 (by decide) ?_
  refine W.eq (g2 := F0 m 3 ls [.int (jrem x0 (5 : Int32))]) rfl ?_
  refine lv_iconst (v := (2 : Int32)) hx hb dX3_signs_3 (by decide) ?_
  refine lv_isub hx hb dX3_signs_4 ?_
  exact W.iret (v := ((jrem x0 (5 : Int32)) - (2 : Int32))) hx hb hr (fun t ht hW => ⟨congrArg (fun z => Outcome.returned (some (Value.int z))) hf, ht⟩) (fun _ h => nomatch h) dX3_signs_5
def fX4_isIn   (x0 : Int32) (x1 : Int32) : Int32 :=
  (if ((x0 >>> (x1 &&& 31)) &&& (1 : Int32)) = 0 then (0 : Int32) else (1 : Int32))
set_option maxRecDepth 100000 in
set_option maxHeartbeats 4000000 in
theorem mX4_isIn (l : Launch)  (x0 : Int32) (x1 : Int32) (r : Int32) (hf : fX4_isIn x0 x1 = r) : Met l yX4_isIn wsX4_isIn ({ frames := 0, cells := 0, slots := 0, locals := 0 }) (va_Pc [.int x0, .int x1] (fun _ => True)) (QcRead r) 0 0 (fun _ => False) := by
  refine Met.ofW (cc := cX4_isIn) (maxL := 2) (ret := (some .boolean)) (by decide) rfl ?_
  intro p e s m args below meth c s₁ BL hml hv
  obtain ⟨rfl, -⟩ := hv
  have hx := BL.exec
  have hb := BL.bytes
  have hr := BL.returns
  have hts := atoms_spec (ws := wsX4_isIn) BL.pre
  have hown : s.vm.findClass RX4 = some m.cls := findClass_of_methodNamed BL.named
  have hlocks := BL.notSynchronized
  have hl := lv_entry ([.int x0, .int x1]) (n := 2) (Nat.le_of_ble_eq_true rfl)
  rw [lg_entry_eq]
  generalize (lg_sl ([.int x0, .int x1]) ++ List.replicate (2 - (lg_sl ([.int x0, .int x1])).length) Slot.unset).toArray = ls at hl ⊢
  have hl : lv_has ls 2 [(0, .int x0), (1, .int x1)] := hl
  unfold fX4_isIn at hf
  refine lv_iload_n hx hb dX4_isIn_0 rfl (lv_at hl 0 rfl) ?_
  refine lv_iload_n hx hb dX4_isIn_1 rfl (lv_at hl 1 rfl) ?_
  refine lv_ishr hx hb dX4_isIn_2 ?_
  refine lv_iconst (v := (1 : Int32)) hx hb dX4_isIn_3 (by decide) ?_
  refine lv_iand hx hb dX4_isIn_4 ?_
  refine lv_if_eq (tgt := 12) hx hb dX4_isIn_5 (by decide) (fun c1 => ?_) (fun c1 => ?_)
  · have hf := (if_pos c1).symm.trans hf
    refine lv_iconst (v := (0 : Int32)) hx hb dX4_isIn_12 (by decide) ?_
    exact W.zret (v := (0 : Int32)) hx hb hr rfl (fun t ht hW => ⟨congrArg (fun z => Outcome.returned (some (Value.int z))) hf, ht⟩) (fun _ h => nomatch h) dX4_isIn_13
  · have hf := (if_neg c1).symm.trans hf
    refine lv_iconst (v := (1 : Int32)) hx hb dX4_isIn_8 (by decide) ?_
    refine lv_goto (tgt := 13) hx hb dX4_isIn_9 (by decide) ?_
    exact W.zret (v := (1 : Int32)) hx hb hr rfl (fun t ht hW => ⟨congrArg (fun z => Outcome.returned (some (Value.int z))) hf, ht⟩) (fun _ h => nomatch h) dX4_isIn_13
def fX2_bodyOf   (x0 : Int32) : Int32 :=
  (jrem x0 (20 : Int32))
set_option maxRecDepth 100000 in
set_option maxHeartbeats 4000000 in
theorem mX2_bodyOf (l : Launch)  (x0 : Int32) (r : Int32) (hf : fX2_bodyOf x0 = r) : Met l yX2_bodyOf wsX2_bodyOf ({ frames := 0, cells := 0, slots := 0, locals := 0 }) (va_Pc [.int x0] (fun _ => True)) (QcRead r) 0 0 (fun _ => False) := by
  refine Met.ofW (cc := cX2_bodyOf) (maxL := 1) (ret := (some .int)) (by decide) rfl ?_
  intro p e s m args below meth c s₁ BL hml hv
  obtain ⟨rfl, -⟩ := hv
  have hx := BL.exec
  have hb := BL.bytes
  have hr := BL.returns
  have hts := atoms_spec (ws := wsX2_bodyOf) BL.pre
  have hown : s.vm.findClass RX2 = some m.cls := findClass_of_methodNamed BL.named
  have hlocks := BL.notSynchronized
  have hl := lv_entry ([.int x0]) (n := 1) (Nat.le_of_ble_eq_true rfl)
  rw [lg_entry_eq]
  generalize (lg_sl ([.int x0]) ++ List.replicate (1 - (lg_sl ([.int x0])).length) Slot.unset).toArray = ls at hl ⊢
  have hl : lv_has ls 1 [(0, .int x0)] := hl
  unfold fX2_bodyOf at hf
  refine lv_iload_n hx hb dX2_bodyOf_0 rfl (lv_at hl 0 rfl) ?_
  refine lv_bipush (v := (20 : Int32)) hx hb dX2_bodyOf_1 (by decide) ?_
  refine lv_irem hx hb dX2_bodyOf_3 (by decide) ?_
  refine W.eq (g2 := F0 m 4 ls [.int (jrem x0 (20 : Int32))]) rfl ?_
  exact W.iret (v := (jrem x0 (20 : Int32))) hx hb hr (fun t ht hW => ⟨congrArg (fun z => Outcome.returned (some (Value.int z))) hf, ht⟩) (fun _ h => nomatch h) dX2_bodyOf_4
def fX4_nth_4B   (k4 : Int32 → Int32 → Int32 → Int32 → Option Int32)  (v0 : Int32) (v1 : Int32) (v2 : Int32) (v3 : Int32) : Option Int32 :=
  (if (19 : Int32) ≤ v3 then (some (-1 : Int32)) else (if (fX4_isIn v0 v3) = 0 then (k4 v0 v1 v2 (v3 + (1 : Int32))) else (if v2 = v1 then (some v3) else (k4 v0 v1 (v2 + (1 : Int32)) (v3 + (1 : Int32))))))
def fX4_nth_4   : Nat → (Int32 → Int32 → Int32 → Int32 → Option Int32)
  | 0 => fun _ _ _ _ => none
  | n + 1 => fX4_nth_4B   (fX4_nth_4   n)
def fX4_nth   (x0 : Int32) (x1 : Int32) : Option Int32 :=
  (fX4_nth_4   FU x0 x1 (0 : Int32) (0 : Int32))
set_option maxRecDepth 100000 in
set_option maxHeartbeats 4000000 in
theorem mX4_nth (l : Launch)  (x0 : Int32) (x1 : Int32) (r : Int32) (hf : fX4_nth x0 x1 = some r) : Met l yX4_nth wsX4_nth ({ frames := 1, cells := 0, slots := 0, locals := 21 }) (va_Pc [.int x0, .int x1] (fun _ => True)) (QcRead r) 0 0 (fun _ => False) := by
  refine Met.ofW (cc := cX4_nth) (maxL := 4) (ret := (some .int)) (by decide) rfl ?_
  intro p e s m args below meth c s₁ BL hml hv
  obtain ⟨rfl, -⟩ := hv
  have hx := BL.exec
  have hb := BL.bytes
  have hr := BL.returns
  have hts := atoms_spec (ws := wsX4_nth) BL.pre
  have hown : s.vm.findClass RX4 = some m.cls := findClass_of_methodNamed BL.named
  have hlocks := BL.notSynchronized
  have sg4 : ∀ n : Nat, ∀  (v0 : Int32) (v1 : Int32) (v2 : Int32) (v3 : Int32) (ls : Array Slot), fX4_nth_4   n  v0 v1 v2 v3 = some r → lv_has ls 4 [(0, .int v0), (1, .int v1), (2, .int v2), (3, .int v3)] → W p l e (headSpec wsX4_nth ({ frames := 1, cells := 0, slots := 0, locals := 21 })).room s m (([.int x0, .int x1] : List Value).toArray) below meth c s.heap [] 0 0 (MQ below (QcRead r) (([.int x0, .int x1] : List Value).toArray) s 0 0 (fun _ => False)) (F0 m 4 ls []) := by
    intro n
    induction n with
    | zero => intro v0 v1 v2 v3 ls hf hl; exact of_none hf
    | succ n ih4 =>
      intro v0 v1 v2 v3 ls hf hl
      change fX4_nth_4B   (fX4_nth_4   n) v0 v1 v2 v3 = _ at hf
      unfold fX4_nth_4B at hf
      refine lv_iload_n hx hb dX4_nth_4 rfl (lv_at hl 3 rfl) ?_
      refine lv_bipush (v := (19 : Int32)) hx hb dX4_nth_5 (by decide) ?_
      refine lv_icmp_ge (tgt := 34) hx hb dX4_nth_7 (by decide) (fun c1 => ?_) (fun c1 => ?_)
      · have hf := (if_pos c1).symm.trans hf
        refine lv_iconst (v := (-1 : Int32)) hx hb dX4_nth_34 (by decide) ?_
        exact W.iret (v := (-1 : Int32)) hx hb hr (fun t ht hW => ⟨congrArg (fun z => Outcome.returned (some (Value.int z))) (Option.some.inj hf), ht⟩) (fun _ h => nomatch h) dX4_nth_35
      · have hf := (if_neg c1).symm.trans hf
        refine lv_iload_n hx hb dX4_nth_10 rfl (lv_at hl 0 rfl) ?_
        refine lv_iload_n hx hb dX4_nth_11 rfl (lv_at hl 3 rfl) ?_
        refine W.callR (r := (fX4_isIn v0 v3)) (W.runS (As := [.int v0, .int v3]) (rest := []) ⟨hx, hb, hml, hown, hts⟩ (mX4_isIn l v0 v3 (fX4_isIn v0 v3) rfl) (va_cwS 2 hts gX4_nth_X4_isIn rfl rfl rfl (by decide +kernel) ⟨Nat.le_of_ble_eq_true rfl, Nat.le_of_ble_eq_true rfl⟩) ⟨fun _ _ _ _ q => q, fun U hU hW => ⟨rfl, trivial⟩⟩ rfl rfl hl.1 rfl (lv_room (Nat.le_of_ble_eq_true rfl)) dX4_nth_12 ⟨Nat.zero_le _, Nat.zero_le _⟩) ?_
        refine W.eq (g2 := F0 m 15 ls [.int (fX4_isIn v0 v3)]) rfl ?_
        refine lv_if_eq (tgt := 28) hx hb dX4_nth_15 (by decide) (fun c2 => ?_) (fun c2 => ?_)
        · have hf := (if_pos c2).symm.trans hf
          refine lv_iinc (v := (v3 + (1 : Int32))) (lv' := [(3, .int (v3 + (1 : Int32))), (0, .int v0), (1, .int v1), (2, .int v2)]) hx hb dX4_nth_28 hl (k := 3) rfl rfl (by decide) rfl (fun ls hl => ?_)
          refine lv_goto (tgt := 4) hx hb dX4_nth_31 (by decide) ?_
          exact ih4 v0 v1 v2 (v3 + (1 : Int32)) ls hf (lv_sub hl [1, 2, 3, 0] rfl)
        · have hf := (if_neg c2).symm.trans hf
          refine lv_iload_n hx hb dX4_nth_18 rfl (lv_at hl 2 rfl) ?_
          refine lv_iload_n hx hb dX4_nth_19 rfl (lv_at hl 1 rfl) ?_
          refine lv_icmp_ne (tgt := 25) hx hb dX4_nth_20 (by decide) (fun c3 => ?_) (fun c3 => ?_)
          · have hf := (if_neg c3).symm.trans hf
            refine lv_iinc (v := (v2 + (1 : Int32))) (lv' := [(2, .int (v2 + (1 : Int32))), (0, .int v0), (1, .int v1), (3, .int v3)]) hx hb dX4_nth_25 hl (k := 2) rfl rfl (by decide) rfl (fun ls hl => ?_)
            refine lv_iinc (v := (v3 + (1 : Int32))) (lv' := [(3, .int (v3 + (1 : Int32))), (2, .int (v2 + (1 : Int32))), (0, .int v0), (1, .int v1)]) hx hb dX4_nth_28 hl (k := 3) rfl rfl (by decide) rfl (fun ls hl => ?_)
            refine lv_goto (tgt := 4) hx hb dX4_nth_31 (by decide) ?_
            exact ih4 v0 v1 (v2 + (1 : Int32)) (v3 + (1 : Int32)) ls hf (lv_sub hl [2, 3, 1, 0] rfl)
          · have hf := (if_pos c3).symm.trans hf
            refine lv_iload_n hx hb dX4_nth_23 rfl (lv_at hl 3 rfl) ?_
            exact W.iret (v := v3) hx hb hr (fun t ht hW => ⟨congrArg (fun z => Outcome.returned (some (Value.int z))) (Option.some.inj hf), ht⟩) (fun _ h => nomatch h) dX4_nth_24
  have hl := lv_entry ([.int x0, .int x1]) (n := 4) (Nat.le_of_ble_eq_true rfl)
  rw [lg_entry_eq]
  generalize (lg_sl ([.int x0, .int x1]) ++ List.replicate (4 - (lg_sl ([.int x0, .int x1])).length) Slot.unset).toArray = ls at hl ⊢
  have hl : lv_has ls 4 [(0, .int x0), (1, .int x1)] := hl
  unfold fX4_nth at hf
  refine lv_iconst (v := (0 : Int32)) hx hb dX4_nth_0 (by decide) ?_
  refine lv_istore_n (lv' := [(2, .int (0 : Int32)), (0, .int x0), (1, .int x1)]) hx hb dX4_nth_1 rfl hl (by decide) rfl (fun ls hl => ?_)
  refine lv_iconst (v := (0 : Int32)) hx hb dX4_nth_2 (by decide) ?_
  refine lv_istore_n (lv' := [(3, .int (0 : Int32)), (2, .int (0 : Int32)), (0, .int x0), (1, .int x1)]) hx hb dX4_nth_3 rfl hl (by decide) rfl (fun ls hl => ?_)
  exact sg4  FU x0 x1 (0 : Int32) (0 : Int32) ls hf (lv_sub hl [2, 3, 1, 0] rfl)
def fX3_letterPitch   (x0 : Int32) : Option Int32 :=
  ((fX8_entry (sN 1) (sF 1) x0).bind fun r1 => (some r1))
set_option maxRecDepth 100000 in
set_option maxHeartbeats 4000000 in
theorem mX3_letterPitch (l : Launch) (en : Nat → Nat) (x0 : Int32) (r : Int32) (hf : fX3_letterPitch x0 = some r) : Met l yX3_letterPitch wsX3_letterPitch ({ frames := 1, cells := 0, slots := 0, locals := 21 }) (va_Pc [.int x0] (fun U => cE en NA U U.heap)) (QcRead r) 0 0 (fun _ => False) := by
  refine Met.ofW (cc := cX3_letterPitch) (maxL := 1) (ret := (some .int)) (by decide) rfl ?_
  intro p e s m args below meth c s₁ BL hml hv
  obtain ⟨rfl, hE⟩ := hv
  have hS : va_S NA s.heap s.heap [] := va_S.rf
  have hx := BL.exec
  have hb := BL.bytes
  have hr := BL.returns
  have hts := atoms_spec (ws := wsX3_letterPitch) BL.pre
  have hown : s.vm.findClass RX3 = some m.cls := findClass_of_methodNamed BL.named
  have hlocks := BL.notSynchronized
  have hl := lv_entry ([.int x0]) (n := 1) (Nat.le_of_ble_eq_true rfl)
  rw [lg_entry_eq]
  generalize (lg_sl ([.int x0]) ++ List.replicate (1 - (lg_sl ([.int x0])).length) Slot.unset).toArray = ls at hl ⊢
  have hl : lv_has ls 1 [(0, .int x0)] := hl
  unfold fX3_letterPitch at hf
  refine va_gets hx hb (show va_Z "LeadSheets$Notes" "LETTER_PITCHES" "[I" (.ref (en 1)) _ s s.heap from (hE.1 1 (by decide)).1) hS hown (hts (.fieldLink RX3 27 "LeadSheets$Notes" "LETTER_PITCHES" "[I") (by decide +kernel)) (fun _ h9 => h9) dX3_letterPitch_0 ?_
  refine lv_iload_n hx hb dX3_letterPitch_3 rfl (lv_at hl 0 rfl) ?_
  obtain ⟨r1, hc2, hf⟩ := of_bind_some hf
  refine W.callR (r := r1) (va_Run.run (va_runSN (host := RX8) (As := [.ref (en 1), .int x0]) (rest := []) ⟨hx, hb, hml, hown, hts⟩ (mX8_entry_s l en 1 (by decide) x0 r1 hc2) ⟨va_cnB 2 hts gX3_letterPitch_X8_entry_n31 rfl rfl rfl (hE.2.2.2.2.1 (RX3, 31, yX8_entry, RX8) (by decide +kernel)) (hts (.initialized RX8) (by decide +kernel)) (by decide +kernel) ⟨Nat.le_of_ble_eq_true rfl, Nat.le_of_ble_eq_true rfl⟩, hts (.static yX8_entry) (by decide +kernel), trivial⟩ ⟨blindS, fun U hU hW => ⟨rfl, cE_read hE hS hW hU⟩⟩ rfl rfl hl.1 rfl (lv_room (Nat.le_of_ble_eq_true rfl)) dX3_letterPitch_4 ⟨Nat.zero_le _, Nat.zero_le _⟩)) ?_
  refine W.eq (g2 := F0 m 7 ls [.int r1]) rfl ?_
  exact W.iret (v := r1) hx hb hr (fun t ht hW => ⟨congrArg (fun z => Outcome.returned (some (Value.int z))) (Option.some.inj hf), ht⟩) (fun _ h => nomatch h) dX3_letterPitch_7
def fX3_pitch   (x0 : Int32) : Option Int32 :=
  ((fX3_letterPitch (fX3_letter x0)).bind fun r1 => (some (fJ9_floorMod_7cf53 (r1 + (fX3_signs x0)) (12 : Int32))))
set_option maxRecDepth 100000 in
set_option maxHeartbeats 4000000 in
theorem mX3_pitch (l : Launch) (en : Nat → Nat) (x0 : Int32) (r : Int32) (hf : fX3_pitch x0 = some r) : Met l yX3_pitch wsX3_pitch ({ frames := 2, cells := 0, slots := 0, locals := 41 }) (va_Pc [.int x0] (fun U => cE en NA U U.heap)) (QcRead r) 0 0 (fun _ => False) := by
  refine Met.ofW (cc := cX3_pitch) (maxL := 1) (ret := (some .int)) (by decide) rfl ?_
  intro p e s m args below meth c s₁ BL hml hv
  obtain ⟨rfl, hE⟩ := hv
  have hS : va_S NA s.heap s.heap [] := va_S.rf
  have hx := BL.exec
  have hb := BL.bytes
  have hr := BL.returns
  have hts := atoms_spec (ws := wsX3_pitch) BL.pre
  have hown : s.vm.findClass RX3 = some m.cls := findClass_of_methodNamed BL.named
  have hlocks := BL.notSynchronized
  have hl := lv_entry ([.int x0]) (n := 1) (Nat.le_of_ble_eq_true rfl)
  rw [lg_entry_eq]
  generalize (lg_sl ([.int x0]) ++ List.replicate (1 - (lg_sl ([.int x0])).length) Slot.unset).toArray = ls at hl ⊢
  have hl : lv_has ls 1 [(0, .int x0)] := hl
  unfold fX3_pitch at hf
  refine lv_iload_n hx hb dX3_pitch_0 rfl (lv_at hl 0 rfl) ?_
  refine W.callR (r := (fX3_letter x0)) (W.runS (As := [.int x0]) (rest := []) ⟨hx, hb, hml, hown, hts⟩ (mX3_letter l x0 (fX3_letter x0) rfl) (va_cwS 1 hts gX3_pitch_X3_letter rfl rfl rfl (by decide +kernel) ⟨Nat.le_of_ble_eq_true rfl, Nat.le_of_ble_eq_true rfl⟩) ⟨fun _ _ _ _ q => q, fun U hU hW => ⟨rfl, trivial⟩⟩ rfl rfl hl.1 rfl (lv_room (Nat.le_of_ble_eq_true rfl)) dX3_pitch_1 ⟨Nat.zero_le _, Nat.zero_le _⟩) ?_
  refine W.eq (g2 := F0 m 4 ls [.int (fX3_letter x0)]) rfl ?_
  obtain ⟨r1, hc2, hf⟩ := of_bind_some hf
  refine W.callR (r := r1) (W.runS (As := [.int (fX3_letter x0)]) (rest := []) ⟨hx, hb, hml, hown, hts⟩ (mX3_letterPitch l en (fX3_letter x0) r1 hc2) (va_cwS 1 hts gX3_pitch_X3_letterPitch rfl rfl rfl (by decide +kernel) ⟨Nat.le_of_ble_eq_true rfl, Nat.le_of_ble_eq_true rfl⟩) ⟨blindS, fun U hU hW => ⟨rfl, cE_read hE hS hW hU⟩⟩ rfl rfl hl.1 rfl (lv_room (Nat.le_of_ble_eq_true rfl)) dX3_pitch_4 ⟨Nat.zero_le _, Nat.zero_le _⟩) ?_
  refine W.eq (g2 := F0 m 7 ls [.int r1]) rfl ?_
  refine lv_iload_n hx hb dX3_pitch_7 rfl (lv_at hl 0 rfl) ?_
  refine W.callR (r := (fX3_signs x0)) (W.runS (As := [.int x0]) (rest := [.int r1]) ⟨hx, hb, hml, hown, hts⟩ (mX3_signs l x0 (fX3_signs x0) rfl) (va_cwS 1 hts gX3_pitch_X3_signs rfl rfl rfl (by decide +kernel) ⟨Nat.le_of_ble_eq_true rfl, Nat.le_of_ble_eq_true rfl⟩) ⟨fun _ _ _ _ q => q, fun U hU hW => ⟨rfl, trivial⟩⟩ rfl rfl hl.1 rfl (lv_room (Nat.le_of_ble_eq_true rfl)) dX3_pitch_8 ⟨Nat.zero_le _, Nat.zero_le _⟩) ?_
  refine W.eq (g2 := F0 m 11 ls [.int (fX3_signs x0), .int r1]) rfl ?_
  refine lv_iadd hx hb dX3_pitch_11 ?_
  refine lv_bipush (v := (12 : Int32)) hx hb dX3_pitch_12 (by decide) ?_
  refine W.callR (r := (fJ9_floorMod_7cf53 (r1 + (fX3_signs x0)) (12 : Int32))) (W.runS (As := [.int (r1 + (fX3_signs x0)), .int (12 : Int32)]) (rest := []) ⟨hx, hb, hml, hown, hts⟩ (mJ9_floorMod_7cf53 l (r1 + (fX3_signs x0)) (12 : Int32) (by decide) (fJ9_floorMod_7cf53 (r1 + (fX3_signs x0)) (12 : Int32)) rfl) (va_cwS 2 hts gX3_pitch_J9_floorMod_7cf53 rfl rfl rfl (by decide +kernel) ⟨Nat.le_of_ble_eq_true rfl, Nat.le_of_ble_eq_true rfl⟩) ⟨fun _ _ _ _ q => q, fun U hU hW => ⟨rfl, trivial⟩⟩ rfl rfl hl.1 rfl (lv_room (Nat.le_of_ble_eq_true rfl)) dX3_pitch_14 ⟨Nat.zero_le _, Nat.zero_le _⟩) ?_
  refine W.eq (g2 := F0 m 17 ls [.int (fJ9_floorMod_7cf53 (r1 + (fX3_signs x0)) (12 : Int32))]) rfl ?_
  exact W.iret (v := (fJ9_floorMod_7cf53 (r1 + (fX3_signs x0)) (12 : Int32))) hx hb hr (fun t ht hW => ⟨congrArg (fun z => Outcome.returned (some (Value.int z))) (Option.some.inj hf), ht⟩) (fun _ h => nomatch h) dX3_pitch_17
def fX3_withSigns_11B   (k11 : Int32 → Int32 → Int32 → Option Int32)  (v1 : Int32) (v2 : Int32) (v3 : Int32) : Option Int32 :=
  (if (7 : Int32) ≤ v3 then (some (-1 : Int32)) else ((fX3_letterPitch v3).bind fun r2 => (if r2 = v2 then (some (fX3_note v3 v1)) else (k11 v1 v2 (v3 + (1 : Int32))))))
def fX3_withSigns_11   : Nat → (Int32 → Int32 → Int32 → Option Int32)
  | 0 => fun _ _ _ => none
  | n + 1 => fX3_withSigns_11B   (fX3_withSigns_11   n)
def fX3_withSigns   (x0 : Int32) (x1 : Int32) : Option Int32 :=
  (fX3_withSigns_11   FU x1 (fJ9_floorMod_7cf53 (x0 - x1) (12 : Int32)) (0 : Int32))
set_option maxRecDepth 100000 in
set_option maxHeartbeats 4000000 in
theorem mX3_withSigns (l : Launch) (en : Nat → Nat) (x0 : Int32) (x1 : Int32) (r : Int32) (hf : fX3_withSigns x0 x1 = some r) : Met l yX3_withSigns wsX3_withSigns ({ frames := 2, cells := 0, slots := 0, locals := 41 }) (va_Pc [.int x0, .int x1] (fun U => cE en NA U U.heap)) (QcRead r) 0 0 (fun _ => False) := by
  refine Met.ofW (cc := cX3_withSigns) (maxL := 4) (ret := (some .int)) (by decide) rfl ?_
  intro p e s m args below meth c s₁ BL hml hv
  obtain ⟨rfl, hE⟩ := hv
  have hS : va_S NA s.heap s.heap [] := va_S.rf
  have hx := BL.exec
  have hb := BL.bytes
  have hr := BL.returns
  have hts := atoms_spec (ws := wsX3_withSigns) BL.pre
  have hown : s.vm.findClass RX3 = some m.cls := findClass_of_methodNamed BL.named
  have hlocks := BL.notSynchronized
  have sg11 : ∀ n : Nat, ∀  (v1 : Int32) (v2 : Int32) (v3 : Int32) (ls : Array Slot), fX3_withSigns_11   n  v1 v2 v3 = some r → lv_has ls 4 [(1, .int v1), (2, .int v2), (3, .int v3)] → W p l e (headSpec wsX3_withSigns ({ frames := 2, cells := 0, slots := 0, locals := 41 })).room s m (([.int x0, .int x1] : List Value).toArray) below meth c s.heap [] 0 0 (MQ below (QcRead r) (([.int x0, .int x1] : List Value).toArray) s 0 0 (fun _ => False)) (F0 m 11 ls []) := by
    intro n
    induction n with
    | zero => intro v1 v2 v3 ls hf hl; exact of_none hf
    | succ n ih11 =>
      intro v1 v2 v3 ls hf hl
      change fX3_withSigns_11B   (fX3_withSigns_11   n) v1 v2 v3 = _ at hf
      unfold fX3_withSigns_11B at hf
      refine lv_iload_n hx hb dX3_withSigns_11 rfl (lv_at hl 2 rfl) ?_
      refine lv_bipush (v := (7 : Int32)) hx hb dX3_withSigns_12 (by decide) ?_
      refine lv_icmp_ge (tgt := 37) hx hb dX3_withSigns_14 (by decide) (fun c1 => ?_) (fun c1 => ?_)
      · have hf := (if_pos c1).symm.trans hf
        refine lv_iconst (v := (-1 : Int32)) hx hb dX3_withSigns_37 (by decide) ?_
        exact W.iret (v := (-1 : Int32)) hx hb hr (fun t ht hW => ⟨congrArg (fun z => Outcome.returned (some (Value.int z))) (Option.some.inj hf), ht⟩) (fun _ h => nomatch h) dX3_withSigns_38
      · have hf := (if_neg c1).symm.trans hf
        refine lv_iload_n hx hb dX3_withSigns_17 rfl (lv_at hl 2 rfl) ?_
        obtain ⟨r2, hc3, hf⟩ := of_bind_some hf
        refine W.callR (r := r2) (W.runS (As := [.int v3]) (rest := []) ⟨hx, hb, hml, hown, hts⟩ (mX3_letterPitch l en v3 r2 hc3) (va_cwS 1 hts gX3_withSigns_X3_letterPitch rfl rfl rfl (by decide +kernel) ⟨Nat.le_of_ble_eq_true rfl, Nat.le_of_ble_eq_true rfl⟩) ⟨blindS, fun U hU hW => ⟨rfl, cE_read hE hS hW hU⟩⟩ rfl rfl hl.1 rfl (lv_room (Nat.le_of_ble_eq_true rfl)) dX3_withSigns_18 ⟨Nat.zero_le _, Nat.zero_le _⟩) ?_
        refine W.eq (g2 := F0 m 21 ls [.int r2]) rfl ?_
        refine lv_iload_n hx hb dX3_withSigns_21 rfl (lv_at hl 1 rfl) ?_
        refine lv_icmp_ne (tgt := 31) hx hb dX3_withSigns_22 (by decide) (fun c4 => ?_) (fun c4 => ?_)
        · have hf := (if_neg c4).symm.trans hf
          refine lv_iinc (v := (v3 + (1 : Int32))) (lv' := [(3, .int (v3 + (1 : Int32))), (1, .int v1), (2, .int v2)]) hx hb dX3_withSigns_31 hl (k := 2) rfl rfl (by decide) rfl (fun ls hl => ?_)
          refine lv_goto (tgt := 11) hx hb dX3_withSigns_34 (by decide) ?_
          exact ih11 v1 v2 (v3 + (1 : Int32)) ls hf (lv_sub hl [1, 2, 0] rfl)
        · have hf := (if_pos c4).symm.trans hf
          refine lv_iload_n hx hb dX3_withSigns_25 rfl (lv_at hl 2 rfl) ?_
          refine lv_iload_n hx hb dX3_withSigns_26 rfl (lv_at hl 0 rfl) ?_
          refine W.callR (r := (fX3_note v3 v1)) (W.runS (As := [.int v3, .int v1]) (rest := []) ⟨hx, hb, hml, hown, hts⟩ (mX3_note l v3 v1 (fX3_note v3 v1) rfl) (va_cwS 2 hts gX3_withSigns_X3_note rfl rfl rfl (by decide +kernel) ⟨Nat.le_of_ble_eq_true rfl, Nat.le_of_ble_eq_true rfl⟩) ⟨fun _ _ _ _ q => q, fun U hU hW => ⟨rfl, trivial⟩⟩ rfl rfl hl.1 rfl (lv_room (Nat.le_of_ble_eq_true rfl)) dX3_withSigns_27 ⟨Nat.zero_le _, Nat.zero_le _⟩) ?_
          refine W.eq (g2 := F0 m 30 ls [.int (fX3_note v3 v1)]) rfl ?_
          exact W.iret (v := (fX3_note v3 v1)) hx hb hr (fun t ht hW => ⟨congrArg (fun z => Outcome.returned (some (Value.int z))) (Option.some.inj hf), ht⟩) (fun _ h => nomatch h) dX3_withSigns_30
  have hl := lv_entry ([.int x0, .int x1]) (n := 4) (Nat.le_of_ble_eq_true rfl)
  rw [lg_entry_eq]
  generalize (lg_sl ([.int x0, .int x1]) ++ List.replicate (4 - (lg_sl ([.int x0, .int x1])).length) Slot.unset).toArray = ls at hl ⊢
  have hl : lv_has ls 4 [(0, .int x0), (1, .int x1)] := hl
  unfold fX3_withSigns at hf
  refine lv_iload_n hx hb dX3_withSigns_0 rfl (lv_at hl 0 rfl) ?_
  refine lv_iload_n hx hb dX3_withSigns_1 rfl (lv_at hl 1 rfl) ?_
  refine lv_isub hx hb dX3_withSigns_2 ?_
  refine lv_bipush (v := (12 : Int32)) hx hb dX3_withSigns_3 (by decide) ?_
  refine W.callR (r := (fJ9_floorMod_7cf53 (x0 - x1) (12 : Int32))) (W.runS (As := [.int (x0 - x1), .int (12 : Int32)]) (rest := []) ⟨hx, hb, hml, hown, hts⟩ (mJ9_floorMod_7cf53 l (x0 - x1) (12 : Int32) (by decide) (fJ9_floorMod_7cf53 (x0 - x1) (12 : Int32)) rfl) (va_cwS 2 hts gX3_withSigns_J9_floorMod_7cf53 rfl rfl rfl (by decide +kernel) ⟨Nat.le_of_ble_eq_true rfl, Nat.le_of_ble_eq_true rfl⟩) ⟨fun _ _ _ _ q => q, fun U hU hW => ⟨rfl, trivial⟩⟩ rfl rfl hl.1 rfl (lv_room (Nat.le_of_ble_eq_true rfl)) dX3_withSigns_5 ⟨Nat.zero_le _, Nat.zero_le _⟩) ?_
  refine W.eq (g2 := F0 m 8 ls [.int (fJ9_floorMod_7cf53 (x0 - x1) (12 : Int32))]) rfl ?_
  refine lv_istore_n (lv' := [(2, .int (fJ9_floorMod_7cf53 (x0 - x1) (12 : Int32))), (0, .int x0), (1, .int x1)]) hx hb dX3_withSigns_8 rfl hl (by decide) rfl (fun ls hl => ?_)
  refine lv_iconst (v := (0 : Int32)) hx hb dX3_withSigns_9 (by decide) ?_
  refine lv_istore_n (lv' := [(3, .int (0 : Int32)), (2, .int (fJ9_floorMod_7cf53 (x0 - x1) (12 : Int32))), (0, .int x0), (1, .int x1)]) hx hb dX3_withSigns_10 rfl hl (by decide) rfl (fun ls hl => ?_)
  exact sg11  FU x1 (fJ9_floorMod_7cf53 (x0 - x1) (12 : Int32)) (0 : Int32) ls hf (lv_sub hl [3, 1, 0] rfl)
def fX4_halfTones   (x0 : Int32) : Option Int32 :=
  ((fX8_entry (sN 3) (sF 3) x0).bind fun r1 => (some r1))
set_option maxRecDepth 100000 in
set_option maxHeartbeats 4000000 in
theorem mX4_halfTones (l : Launch) (en : Nat → Nat) (x0 : Int32) (r : Int32) (hf : fX4_halfTones x0 = some r) : Met l yX4_halfTones wsX4_halfTones ({ frames := 1, cells := 0, slots := 0, locals := 21 }) (va_Pc [.int x0] (fun U => cE en NA U U.heap)) (QcRead r) 0 0 (fun _ => False) := by
  refine Met.ofW (cc := cX4_halfTones) (maxL := 1) (ret := (some .int)) (by decide) rfl ?_
  intro p e s m args below meth c s₁ BL hml hv
  obtain ⟨rfl, hE⟩ := hv
  have hS : va_S NA s.heap s.heap [] := va_S.rf
  have hx := BL.exec
  have hb := BL.bytes
  have hr := BL.returns
  have hts := atoms_spec (ws := wsX4_halfTones) BL.pre
  have hown : s.vm.findClass RX4 = some m.cls := findClass_of_methodNamed BL.named
  have hlocks := BL.notSynchronized
  have hl := lv_entry ([.int x0]) (n := 1) (Nat.le_of_ble_eq_true rfl)
  rw [lg_entry_eq]
  generalize (lg_sl ([.int x0]) ++ List.replicate (1 - (lg_sl ([.int x0])).length) Slot.unset).toArray = ls at hl ⊢
  have hl : lv_has ls 1 [(0, .int x0)] := hl
  unfold fX4_halfTones at hf
  refine va_gets hx hb (show va_Z "LeadSheets$Steps" "HALF_TONES" "[I" (.ref (en 3)) _ s s.heap from (hE.1 3 (by decide)).1) hS hown (hts (.fieldLink RX4 15 "LeadSheets$Steps" "HALF_TONES" "[I") (by decide +kernel)) (fun _ h9 => h9) dX4_halfTones_0 ?_
  refine lv_iload_n hx hb dX4_halfTones_3 rfl (lv_at hl 0 rfl) ?_
  obtain ⟨r1, hc2, hf⟩ := of_bind_some hf
  refine W.callR (r := r1) (va_Run.run (va_runSN (host := RX8) (As := [.ref (en 3), .int x0]) (rest := []) ⟨hx, hb, hml, hown, hts⟩ (mX8_entry_s l en 3 (by decide) x0 r1 hc2) ⟨va_cnB 2 hts gX4_halfTones_X8_entry_n19 rfl rfl rfl (hE.2.2.2.2.1 (RX4, 19, yX8_entry, RX8) (by decide +kernel)) (hts (.initialized RX8) (by decide +kernel)) (by decide +kernel) ⟨Nat.le_of_ble_eq_true rfl, Nat.le_of_ble_eq_true rfl⟩, hts (.static yX8_entry) (by decide +kernel), trivial⟩ ⟨blindS, fun U hU hW => ⟨rfl, cE_read hE hS hW hU⟩⟩ rfl rfl hl.1 rfl (lv_room (Nat.le_of_ble_eq_true rfl)) dX4_halfTones_4 ⟨Nat.zero_le _, Nat.zero_le _⟩)) ?_
  refine W.eq (g2 := F0 m 7 ls [.int r1]) rfl ?_
  exact W.iret (v := r1) hx hb hr (fun t ht hW => ⟨congrArg (fun z => Outcome.returned (some (Value.int z))) (Option.some.inj hf), ht⟩) (fun _ h => nomatch h) dX4_halfTones_7
def fX4_degree   (x0 : Int32) : Option Int32 :=
  ((fX8_entry (sN 2) (sF 2) x0).bind fun r1 => (some r1))
set_option maxRecDepth 100000 in
set_option maxHeartbeats 4000000 in
theorem mX4_degree (l : Launch) (en : Nat → Nat) (x0 : Int32) (r : Int32) (hf : fX4_degree x0 = some r) : Met l yX4_degree wsX4_degree ({ frames := 1, cells := 0, slots := 0, locals := 21 }) (va_Pc [.int x0] (fun U => cE en NA U U.heap)) (QcRead r) 0 0 (fun _ => False) := by
  refine Met.ofW (cc := cX4_degree) (maxL := 1) (ret := (some .int)) (by decide) rfl ?_
  intro p e s m args below meth c s₁ BL hml hv
  obtain ⟨rfl, hE⟩ := hv
  have hS : va_S NA s.heap s.heap [] := va_S.rf
  have hx := BL.exec
  have hb := BL.bytes
  have hr := BL.returns
  have hts := atoms_spec (ws := wsX4_degree) BL.pre
  have hown : s.vm.findClass RX4 = some m.cls := findClass_of_methodNamed BL.named
  have hlocks := BL.notSynchronized
  have hl := lv_entry ([.int x0]) (n := 1) (Nat.le_of_ble_eq_true rfl)
  rw [lg_entry_eq]
  generalize (lg_sl ([.int x0]) ++ List.replicate (1 - (lg_sl ([.int x0])).length) Slot.unset).toArray = ls at hl ⊢
  have hl : lv_has ls 1 [(0, .int x0)] := hl
  unfold fX4_degree at hf
  refine va_gets hx hb (show va_Z "LeadSheets$Steps" "DEGREES" "[I" (.ref (en 2)) _ s s.heap from (hE.1 2 (by decide)).1) hS hown (hts (.fieldLink RX4 23 "LeadSheets$Steps" "DEGREES" "[I") (by decide +kernel)) (fun _ h9 => h9) dX4_degree_0 ?_
  refine lv_iload_n hx hb dX4_degree_3 rfl (lv_at hl 0 rfl) ?_
  obtain ⟨r1, hc2, hf⟩ := of_bind_some hf
  refine W.callR (r := r1) (va_Run.run (va_runSN (host := RX8) (As := [.ref (en 2), .int x0]) (rest := []) ⟨hx, hb, hml, hown, hts⟩ (mX8_entry_s l en 2 (by decide) x0 r1 hc2) ⟨va_cnB 2 hts gX4_degree_X8_entry_n19 rfl rfl rfl (hE.2.2.2.2.1 (RX4, 19, yX8_entry, RX8) (by decide +kernel)) (hts (.initialized RX8) (by decide +kernel)) (by decide +kernel) ⟨Nat.le_of_ble_eq_true rfl, Nat.le_of_ble_eq_true rfl⟩, hts (.static yX8_entry) (by decide +kernel), trivial⟩ ⟨blindS, fun U hU hW => ⟨rfl, cE_read hE hS hW hU⟩⟩ rfl rfl hl.1 rfl (lv_room (Nat.le_of_ble_eq_true rfl)) dX4_degree_4 ⟨Nat.zero_le _, Nat.zero_le _⟩)) ?_
  refine W.eq (g2 := F0 m 7 ls [.int r1]) rfl ?_
  exact W.iret (v := r1) hx hb hr (fun t ht hW => ⟨congrArg (fun z => Outcome.returned (some (Value.int z))) (Option.some.inj hf), ht⟩) (fun _ h => nomatch h) dX4_degree_7
def fX4_letterAbove   (x0 : Int32) (x1 : Int32) : Option Int32 :=
  ((fX4_degree x1).bind fun r1 => (some (jrem ((x0 + r1) - (1 : Int32)) (7 : Int32))))
set_option maxRecDepth 100000 in
set_option maxHeartbeats 4000000 in
theorem mX4_letterAbove (l : Launch) (en : Nat → Nat) (x0 : Int32) (x1 : Int32) (r : Int32) (hf : fX4_letterAbove x0 x1 = some r) : Met l yX4_letterAbove wsX4_letterAbove ({ frames := 2, cells := 0, slots := 0, locals := 41 }) (va_Pc [.int x0, .int x1] (fun U => cE en NA U U.heap)) (QcRead r) 0 0 (fun _ => False) := by
  refine Met.ofW (cc := cX4_letterAbove) (maxL := 2) (ret := (some .int)) (by decide) rfl ?_
  intro p e s m args below meth c s₁ BL hml hv
  obtain ⟨rfl, hE⟩ := hv
  have hS : va_S NA s.heap s.heap [] := va_S.rf
  have hx := BL.exec
  have hb := BL.bytes
  have hr := BL.returns
  have hts := atoms_spec (ws := wsX4_letterAbove) BL.pre
  have hown : s.vm.findClass RX4 = some m.cls := findClass_of_methodNamed BL.named
  have hlocks := BL.notSynchronized
  have hl := lv_entry ([.int x0, .int x1]) (n := 2) (Nat.le_of_ble_eq_true rfl)
  rw [lg_entry_eq]
  generalize (lg_sl ([.int x0, .int x1]) ++ List.replicate (2 - (lg_sl ([.int x0, .int x1])).length) Slot.unset).toArray = ls at hl ⊢
  have hl : lv_has ls 2 [(0, .int x0), (1, .int x1)] := hl
  unfold fX4_letterAbove at hf
  refine lv_iload_n hx hb dX4_letterAbove_0 rfl (lv_at hl 0 rfl) ?_
  refine lv_iload_n hx hb dX4_letterAbove_1 rfl (lv_at hl 1 rfl) ?_
  obtain ⟨r1, hc2, hf⟩ := of_bind_some hf
  refine W.callR (r := r1) (W.runS (As := [.int x1]) (rest := [.int x0]) ⟨hx, hb, hml, hown, hts⟩ (mX4_degree l en x1 r1 hc2) (va_cwS 1 hts gX4_letterAbove_X4_degree rfl rfl rfl (by decide +kernel) ⟨Nat.le_of_ble_eq_true rfl, Nat.le_of_ble_eq_true rfl⟩) ⟨blindS, fun U hU hW => ⟨rfl, cE_read hE hS hW hU⟩⟩ rfl rfl hl.1 rfl (lv_room (Nat.le_of_ble_eq_true rfl)) dX4_letterAbove_2 ⟨Nat.zero_le _, Nat.zero_le _⟩) ?_
  refine W.eq (g2 := F0 m 5 ls [.int r1, .int x0]) rfl ?_
  refine lv_iadd hx hb dX4_letterAbove_5 ?_
  refine lv_iconst (v := (1 : Int32)) hx hb dX4_letterAbove_6 (by decide) ?_
  refine lv_isub hx hb dX4_letterAbove_7 ?_
  refine lv_bipush (v := (7 : Int32)) hx hb dX4_letterAbove_8 (by decide) ?_
  refine lv_irem hx hb dX4_letterAbove_10 (by decide) ?_
  refine W.eq (g2 := F0 m 11 ls [.int (jrem ((x0 + r1) - (1 : Int32)) (7 : Int32))]) rfl ?_
  exact W.iret (v := (jrem ((x0 + r1) - (1 : Int32)) (7 : Int32))) hx hb hr (fun t ht hW => ⟨congrArg (fun z => Outcome.returned (some (Value.int z))) (Option.some.inj hf), ht⟩) (fun _ h => nomatch h) dX4_letterAbove_11
def fX4_letter   (x0 : Int32) (x1 : Int32) : Option Int32 :=
  ((fX4_letterAbove (fX3_letter x0) x1).bind fun r1 => (some r1))
set_option maxRecDepth 100000 in
set_option maxHeartbeats 4000000 in
theorem mX4_letter (l : Launch) (en : Nat → Nat) (x0 : Int32) (x1 : Int32) (r : Int32) (hf : fX4_letter x0 x1 = some r) : Met l yX4_letter wsX4_letter ({ frames := 3, cells := 0, slots := 0, locals := 62 }) (va_Pc [.int x0, .int x1] (fun U => cE en NA U U.heap)) (QcRead r) 0 0 (fun _ => False) := by
  refine Met.ofW (cc := cX4_letter) (maxL := 2) (ret := (some .int)) (by decide) rfl ?_
  intro p e s m args below meth c s₁ BL hml hv
  obtain ⟨rfl, hE⟩ := hv
  have hS : va_S NA s.heap s.heap [] := va_S.rf
  have hx := BL.exec
  have hb := BL.bytes
  have hr := BL.returns
  have hts := atoms_spec (ws := wsX4_letter) BL.pre
  have hown : s.vm.findClass RX4 = some m.cls := findClass_of_methodNamed BL.named
  have hlocks := BL.notSynchronized
  have hl := lv_entry ([.int x0, .int x1]) (n := 2) (Nat.le_of_ble_eq_true rfl)
  rw [lg_entry_eq]
  generalize (lg_sl ([.int x0, .int x1]) ++ List.replicate (2 - (lg_sl ([.int x0, .int x1])).length) Slot.unset).toArray = ls at hl ⊢
  have hl : lv_has ls 2 [(0, .int x0), (1, .int x1)] := hl
  unfold fX4_letter at hf
  refine lv_iload_n hx hb dX4_letter_0 rfl (lv_at hl 0 rfl) ?_
  refine W.callR (r := (fX3_letter x0)) (W.runS (As := [.int x0]) (rest := []) ⟨hx, hb, hml, hown, hts⟩ (mX3_letter l x0 (fX3_letter x0) rfl) (va_cwS 1 hts gX4_letter_X3_letter rfl rfl rfl (by decide +kernel) ⟨Nat.le_of_ble_eq_true rfl, Nat.le_of_ble_eq_true rfl⟩) ⟨fun _ _ _ _ q => q, fun U hU hW => ⟨rfl, trivial⟩⟩ rfl rfl hl.1 rfl (lv_room (Nat.le_of_ble_eq_true rfl)) dX4_letter_1 ⟨Nat.zero_le _, Nat.zero_le _⟩) ?_
  refine W.eq (g2 := F0 m 4 ls [.int (fX3_letter x0)]) rfl ?_
  refine lv_iload_n hx hb dX4_letter_4 rfl (lv_at hl 1 rfl) ?_
  obtain ⟨r1, hc2, hf⟩ := of_bind_some hf
  refine W.callR (r := r1) (W.runS (As := [.int (fX3_letter x0), .int x1]) (rest := []) ⟨hx, hb, hml, hown, hts⟩ (mX4_letterAbove l en (fX3_letter x0) x1 r1 hc2) (va_cwS 2 hts gX4_letter_X4_letterAbove rfl rfl rfl (by decide +kernel) ⟨Nat.le_of_ble_eq_true rfl, Nat.le_of_ble_eq_true rfl⟩) ⟨blindS, fun U hU hW => ⟨rfl, cE_read hE hS hW hU⟩⟩ rfl rfl hl.1 rfl (lv_room (Nat.le_of_ble_eq_true rfl)) dX4_letter_5 ⟨Nat.zero_le _, Nat.zero_le _⟩) ?_
  refine W.eq (g2 := F0 m 8 ls [.int r1]) rfl ?_
  exact W.iret (v := r1) hx hb hr (fun t ht hW => ⟨congrArg (fun z => Outcome.returned (some (Value.int z))) (Option.some.inj hf), ht⟩) (fun _ h => nomatch h) dX4_letter_8
def fX4_pitch   (x0 : Int32) (x1 : Int32) : Option Int32 :=
  ((fX3_pitch x0).bind fun r1 => ((fX4_halfTones x1).bind fun r3 => (some (jrem (r1 + r3) (12 : Int32)))))
set_option maxRecDepth 100000 in
set_option maxHeartbeats 4000000 in
theorem mX4_pitch (l : Launch) (en : Nat → Nat) (x0 : Int32) (x1 : Int32) (r : Int32) (hf : fX4_pitch x0 x1 = some r) : Met l yX4_pitch wsX4_pitch ({ frames := 3, cells := 0, slots := 0, locals := 61 }) (va_Pc [.int x0, .int x1] (fun U => cE en NA U U.heap)) (QcRead r) 0 0 (fun _ => False) := by
  refine Met.ofW (cc := cX4_pitch) (maxL := 2) (ret := (some .int)) (by decide) rfl ?_
  intro p e s m args below meth c s₁ BL hml hv
  obtain ⟨rfl, hE⟩ := hv
  have hS : va_S NA s.heap s.heap [] := va_S.rf
  have hx := BL.exec
  have hb := BL.bytes
  have hr := BL.returns
  have hts := atoms_spec (ws := wsX4_pitch) BL.pre
  have hown : s.vm.findClass RX4 = some m.cls := findClass_of_methodNamed BL.named
  have hlocks := BL.notSynchronized
  have hl := lv_entry ([.int x0, .int x1]) (n := 2) (Nat.le_of_ble_eq_true rfl)
  rw [lg_entry_eq]
  generalize (lg_sl ([.int x0, .int x1]) ++ List.replicate (2 - (lg_sl ([.int x0, .int x1])).length) Slot.unset).toArray = ls at hl ⊢
  have hl : lv_has ls 2 [(0, .int x0), (1, .int x1)] := hl
  unfold fX4_pitch at hf
  refine lv_iload_n hx hb dX4_pitch_0 rfl (lv_at hl 0 rfl) ?_
  obtain ⟨r1, hc2, hf⟩ := of_bind_some hf
  refine W.callR (r := r1) (W.runS (As := [.int x0]) (rest := []) ⟨hx, hb, hml, hown, hts⟩ (mX3_pitch l en x0 r1 hc2) (va_cwS 1 hts gX4_pitch_X3_pitch rfl rfl rfl (by decide +kernel) ⟨Nat.le_of_ble_eq_true rfl, Nat.le_of_ble_eq_true rfl⟩) ⟨blindS, fun U hU hW => ⟨rfl, cE_read hE hS hW hU⟩⟩ rfl rfl hl.1 rfl (lv_room (Nat.le_of_ble_eq_true rfl)) dX4_pitch_1 ⟨Nat.zero_le _, Nat.zero_le _⟩) ?_
  refine W.eq (g2 := F0 m 4 ls [.int r1]) rfl ?_
  refine lv_iload_n hx hb dX4_pitch_4 rfl (lv_at hl 1 rfl) ?_
  obtain ⟨r3, hc4, hf⟩ := of_bind_some hf
  refine W.callR (r := r3) (W.runS (As := [.int x1]) (rest := [.int r1]) ⟨hx, hb, hml, hown, hts⟩ (mX4_halfTones l en x1 r3 hc4) (va_cwS 1 hts gX4_pitch_X4_halfTones rfl rfl rfl (by decide +kernel) ⟨Nat.le_of_ble_eq_true rfl, Nat.le_of_ble_eq_true rfl⟩) ⟨blindS, fun U hU hW => ⟨rfl, cE_read hE hS hW hU⟩⟩ rfl rfl hl.1 rfl (lv_room (Nat.le_of_ble_eq_true rfl)) dX4_pitch_5 ⟨Nat.zero_le _, Nat.zero_le _⟩) ?_
  refine W.eq (g2 := F0 m 8 ls [.int r3, .int r1]) rfl ?_
  refine lv_iadd hx hb dX4_pitch_8 ?_
  refine lv_bipush (v := (12 : Int32)) hx hb dX4_pitch_9 (by decide) ?_
  refine lv_irem hx hb dX4_pitch_11 (by decide) ?_
  refine W.eq (g2 := F0 m 12 ls [.int (jrem (r1 + r3) (12 : Int32))]) rfl ?_
  exact W.iret (v := (jrem (r1 + r3) (12 : Int32))) hx hb hr (fun t ht hW => ⟨congrArg (fun z => Outcome.returned (some (Value.int z))) (Option.some.inj hf), ht⟩) (fun _ h => nomatch h) dX4_pitch_12
def fX4_signsAbove   (x0 : Int32) (x1 : Int32) (x2 : Int32) : Option Int32 :=
  ((fX4_letterAbove x0 x2).bind fun r1 => ((fX3_letterPitch r1).bind fun r3 => ((fX4_halfTones x2).bind fun r5 => (some ((fJ9_floorMod_7cf53 (((x1 + r5) - r3) + (6 : Int32)) (12 : Int32)) - (6 : Int32))))))
set_option maxRecDepth 100000 in
set_option maxHeartbeats 4000000 in
theorem mX4_signsAbove (l : Launch) (en : Nat → Nat) (x0 : Int32) (x1 : Int32) (x2 : Int32) (r : Int32) (hf : fX4_signsAbove x0 x1 x2 = some r) : Met l yX4_signsAbove wsX4_signsAbove ({ frames := 3, cells := 0, slots := 0, locals := 62 }) (va_Pc [.int x0, .int x1, .int x2] (fun U => cE en NA U U.heap)) (QcRead r) 0 0 (fun _ => False) := by
  refine Met.ofW (cc := cX4_signsAbove) (maxL := 4) (ret := (some .int)) (by decide) rfl ?_
  intro p e s m args below meth c s₁ BL hml hv
  obtain ⟨rfl, hE⟩ := hv
  have hS : va_S NA s.heap s.heap [] := va_S.rf
  have hx := BL.exec
  have hb := BL.bytes
  have hr := BL.returns
  have hts := atoms_spec (ws := wsX4_signsAbove) BL.pre
  have hown : s.vm.findClass RX4 = some m.cls := findClass_of_methodNamed BL.named
  have hlocks := BL.notSynchronized
  have hl := lv_entry ([.int x0, .int x1, .int x2]) (n := 4) (Nat.le_of_ble_eq_true rfl)
  rw [lg_entry_eq]
  generalize (lg_sl ([.int x0, .int x1, .int x2]) ++ List.replicate (4 - (lg_sl ([.int x0, .int x1, .int x2])).length) Slot.unset).toArray = ls at hl ⊢
  have hl : lv_has ls 4 [(0, .int x0), (1, .int x1), (2, .int x2)] := hl
  unfold fX4_signsAbove at hf
  refine lv_iload_n hx hb dX4_signsAbove_0 rfl (lv_at hl 0 rfl) ?_
  refine lv_iload_n hx hb dX4_signsAbove_1 rfl (lv_at hl 2 rfl) ?_
  obtain ⟨r1, hc2, hf⟩ := of_bind_some hf
  refine W.callR (r := r1) (W.runS (As := [.int x0, .int x2]) (rest := []) ⟨hx, hb, hml, hown, hts⟩ (mX4_letterAbove l en x0 x2 r1 hc2) (va_cwS 2 hts gX4_signsAbove_X4_letterAbove rfl rfl rfl (by decide +kernel) ⟨Nat.le_of_ble_eq_true rfl, Nat.le_of_ble_eq_true rfl⟩) ⟨blindS, fun U hU hW => ⟨rfl, cE_read hE hS hW hU⟩⟩ rfl rfl hl.1 rfl (lv_room (Nat.le_of_ble_eq_true rfl)) dX4_signsAbove_2 ⟨Nat.zero_le _, Nat.zero_le _⟩) ?_
  refine W.eq (g2 := F0 m 5 ls [.int r1]) rfl ?_
  obtain ⟨r3, hc4, hf⟩ := of_bind_some hf
  refine W.callR (r := r3) (W.runS (As := [.int r1]) (rest := []) ⟨hx, hb, hml, hown, hts⟩ (mX3_letterPitch l en r1 r3 hc4) (va_cwS 1 hts gX4_signsAbove_X3_letterPitch rfl rfl rfl (by decide +kernel) ⟨Nat.le_of_ble_eq_true rfl, Nat.le_of_ble_eq_true rfl⟩) ⟨blindS, fun U hU hW => ⟨rfl, cE_read hE hS hW hU⟩⟩ rfl rfl hl.1 rfl (lv_room (Nat.le_of_ble_eq_true rfl)) dX4_signsAbove_5 ⟨Nat.zero_le _, Nat.zero_le _⟩) ?_
  refine W.eq (g2 := F0 m 8 ls [.int r3]) rfl ?_
  refine lv_istore_n (lv' := [(3, .int r3), (0, .int x0), (1, .int x1), (2, .int x2)]) hx hb dX4_signsAbove_8 rfl hl (by decide) rfl (fun ls hl => ?_)
  refine lv_iload_n hx hb dX4_signsAbove_9 rfl (lv_at hl 2 rfl) ?_
  refine lv_iload_n hx hb dX4_signsAbove_10 rfl (lv_at hl 3 rfl) ?_
  obtain ⟨r5, hc6, hf⟩ := of_bind_some hf
  refine W.callR (r := r5) (W.runS (As := [.int x2]) (rest := [.int x1]) ⟨hx, hb, hml, hown, hts⟩ (mX4_halfTones l en x2 r5 hc6) (va_cwS 1 hts gX4_signsAbove_X4_halfTones rfl rfl rfl (by decide +kernel) ⟨Nat.le_of_ble_eq_true rfl, Nat.le_of_ble_eq_true rfl⟩) ⟨blindS, fun U hU hW => ⟨rfl, cE_read hE hS hW hU⟩⟩ rfl rfl hl.1 rfl (lv_room (Nat.le_of_ble_eq_true rfl)) dX4_signsAbove_11 ⟨Nat.zero_le _, Nat.zero_le _⟩) ?_
  refine W.eq (g2 := F0 m 14 ls [.int r5, .int x1]) rfl ?_
  refine lv_iadd hx hb dX4_signsAbove_14 ?_
  refine lv_iload_n hx hb dX4_signsAbove_15 rfl (lv_at hl 0 rfl) ?_
  refine lv_isub hx hb dX4_signsAbove_16 ?_
  refine lv_bipush (v := (6 : Int32)) hx hb dX4_signsAbove_17 (by decide) ?_
  refine lv_iadd hx hb dX4_signsAbove_19 ?_
  refine lv_bipush (v := (12 : Int32)) hx hb dX4_signsAbove_20 (by decide) ?_
  refine W.callR (r := (fJ9_floorMod_7cf53 (((x1 + r5) - r3) + (6 : Int32)) (12 : Int32))) (W.runS (As := [.int (((x1 + r5) - r3) + (6 : Int32)), .int (12 : Int32)]) (rest := []) ⟨hx, hb, hml, hown, hts⟩ (mJ9_floorMod_7cf53 l (((x1 + r5) - r3) + (6 : Int32)) (12 : Int32) (by decide) (fJ9_floorMod_7cf53 (((x1 + r5) - r3) + (6 : Int32)) (12 : Int32)) rfl) (va_cwS 2 hts gX4_signsAbove_J9_floorMod_7cf53 rfl rfl rfl (by decide +kernel) ⟨Nat.le_of_ble_eq_true rfl, Nat.le_of_ble_eq_true rfl⟩) ⟨fun _ _ _ _ q => q, fun U hU hW => ⟨rfl, trivial⟩⟩ rfl rfl hl.1 rfl (lv_room (Nat.le_of_ble_eq_true rfl)) dX4_signsAbove_22 ⟨Nat.zero_le _, Nat.zero_le _⟩) ?_
  refine W.eq (g2 := F0 m 25 ls [.int (fJ9_floorMod_7cf53 (((x1 + r5) - r3) + (6 : Int32)) (12 : Int32))]) rfl ?_
  refine lv_bipush (v := (6 : Int32)) hx hb dX4_signsAbove_25 (by decide) ?_
  refine lv_isub hx hb dX4_signsAbove_27 ?_
  exact W.iret (v := ((fJ9_floorMod_7cf53 (((x1 + r5) - r3) + (6 : Int32)) (12 : Int32)) - (6 : Int32))) hx hb hr (fun t ht hW => ⟨congrArg (fun z => Outcome.returned (some (Value.int z))) (Option.some.inj hf), ht⟩) (fun _ h => nomatch h) dX4_signsAbove_28
def fX4_signs   (x0 : Int32) (x1 : Int32) : Option Int32 :=
  ((fX3_pitch x0).bind fun r1 => ((fX4_signsAbove (fX3_letter x0) r1 x1).bind fun r3 => (some r3)))
set_option maxRecDepth 100000 in
set_option maxHeartbeats 4000000 in
theorem mX4_signs (l : Launch) (en : Nat → Nat) (x0 : Int32) (x1 : Int32) (r : Int32) (hf : fX4_signs x0 x1 = some r) : Met l yX4_signs wsX4_signs ({ frames := 4, cells := 0, slots := 0, locals := 85 }) (va_Pc [.int x0, .int x1] (fun U => cE en NA U U.heap)) (QcRead r) 0 0 (fun _ => False) := by
  refine Met.ofW (cc := cX4_signs) (maxL := 2) (ret := (some .int)) (by decide) rfl ?_
  intro p e s m args below meth c s₁ BL hml hv
  obtain ⟨rfl, hE⟩ := hv
  have hS : va_S NA s.heap s.heap [] := va_S.rf
  have hx := BL.exec
  have hb := BL.bytes
  have hr := BL.returns
  have hts := atoms_spec (ws := wsX4_signs) BL.pre
  have hown : s.vm.findClass RX4 = some m.cls := findClass_of_methodNamed BL.named
  have hlocks := BL.notSynchronized
  have hl := lv_entry ([.int x0, .int x1]) (n := 2) (Nat.le_of_ble_eq_true rfl)
  rw [lg_entry_eq]
  generalize (lg_sl ([.int x0, .int x1]) ++ List.replicate (2 - (lg_sl ([.int x0, .int x1])).length) Slot.unset).toArray = ls at hl ⊢
  have hl : lv_has ls 2 [(0, .int x0), (1, .int x1)] := hl
  unfold fX4_signs at hf
  refine lv_iload_n hx hb dX4_signs_0 rfl (lv_at hl 0 rfl) ?_
  refine W.callR (r := (fX3_letter x0)) (W.runS (As := [.int x0]) (rest := []) ⟨hx, hb, hml, hown, hts⟩ (mX3_letter l x0 (fX3_letter x0) rfl) (va_cwS 1 hts gX4_signs_X3_letter rfl rfl rfl (by decide +kernel) ⟨Nat.le_of_ble_eq_true rfl, Nat.le_of_ble_eq_true rfl⟩) ⟨fun _ _ _ _ q => q, fun U hU hW => ⟨rfl, trivial⟩⟩ rfl rfl hl.1 rfl (lv_room (Nat.le_of_ble_eq_true rfl)) dX4_signs_1 ⟨Nat.zero_le _, Nat.zero_le _⟩) ?_
  refine W.eq (g2 := F0 m 4 ls [.int (fX3_letter x0)]) rfl ?_
  refine lv_iload_n hx hb dX4_signs_4 rfl (lv_at hl 0 rfl) ?_
  obtain ⟨r1, hc2, hf⟩ := of_bind_some hf
  refine W.callR (r := r1) (W.runS (As := [.int x0]) (rest := [.int (fX3_letter x0)]) ⟨hx, hb, hml, hown, hts⟩ (mX3_pitch l en x0 r1 hc2) (va_cwS 1 hts gX4_signs_X3_pitch rfl rfl rfl (by decide +kernel) ⟨Nat.le_of_ble_eq_true rfl, Nat.le_of_ble_eq_true rfl⟩) ⟨blindS, fun U hU hW => ⟨rfl, cE_read hE hS hW hU⟩⟩ rfl rfl hl.1 rfl (lv_room (Nat.le_of_ble_eq_true rfl)) dX4_signs_5 ⟨Nat.zero_le _, Nat.zero_le _⟩) ?_
  refine W.eq (g2 := F0 m 8 ls [.int r1, .int (fX3_letter x0)]) rfl ?_
  refine lv_iload_n hx hb dX4_signs_8 rfl (lv_at hl 1 rfl) ?_
  obtain ⟨r3, hc4, hf⟩ := of_bind_some hf
  refine W.callR (r := r3) (W.runS (As := [.int (fX3_letter x0), .int r1, .int x1]) (rest := []) ⟨hx, hb, hml, hown, hts⟩ (mX4_signsAbove l en (fX3_letter x0) r1 x1 r3 hc4) (va_cwS 3 hts gX4_signs_X4_signsAbove rfl rfl rfl (by decide +kernel) ⟨Nat.le_of_ble_eq_true rfl, Nat.le_of_ble_eq_true rfl⟩) ⟨blindS, fun U hU hW => ⟨rfl, cE_read hE hS hW hU⟩⟩ rfl rfl hl.1 rfl (lv_room (Nat.le_of_ble_eq_true rfl)) dX4_signs_9 ⟨Nat.zero_le _, Nat.zero_le _⟩) ?_
  refine W.eq (g2 := F0 m 12 ls [.int r3]) rfl ?_
  exact W.iret (v := r3) hx hb hr (fun t ht hW => ⟨congrArg (fun z => Outcome.returned (some (Value.int z))) (Option.some.inj hf), ht⟩) (fun _ h => nomatch h) dX4_signs_12
def fX4_set_4B   (k4 : Int32 → Int32 → Int32 → Int32 → Option Int32)  (v0 : Int32) (v1 : Int32) (v2 : Int32) (v3 : Int32) : Option Int32 :=
  (if (19 : Int32) ≤ v3 then (some v2) else (if (fX4_isIn v1 v3) = 0 then (k4 v0 v1 v2 (v3 + (1 : Int32))) else ((fX4_halfTones v3).bind fun r3 => (k4 v0 v1 (v2 ||| ((1 : Int32) <<< ((jrem (v0 + r3) (12 : Int32)) &&& 31))) (v3 + (1 : Int32))))))
def fX4_set_4   : Nat → (Int32 → Int32 → Int32 → Int32 → Option Int32)
  | 0 => fun _ _ _ _ => none
  | n + 1 => fX4_set_4B   (fX4_set_4   n)
def fX4_set   (x0 : Int32) (x1 : Int32) : Option Int32 :=
  (fX4_set_4   FU x0 x1 (0 : Int32) (0 : Int32))
set_option maxRecDepth 100000 in
set_option maxHeartbeats 4000000 in
theorem mX4_set (l : Launch) (en : Nat → Nat) (x0 : Int32) (x1 : Int32) (r : Int32) (hf : fX4_set x0 x1 = some r) : Met l yX4_set wsX4_set ({ frames := 2, cells := 0, slots := 0, locals := 41 }) (va_Pc [.int x0, .int x1] (fun U => cE en NA U U.heap)) (QcRead r) 0 0 (fun _ => False) := by
  refine Met.ofW (cc := cX4_set) (maxL := 4) (ret := (some .int)) (by decide) rfl ?_
  intro p e s m args below meth c s₁ BL hml hv
  obtain ⟨rfl, hE⟩ := hv
  have hS : va_S NA s.heap s.heap [] := va_S.rf
  have hx := BL.exec
  have hb := BL.bytes
  have hr := BL.returns
  have hts := atoms_spec (ws := wsX4_set) BL.pre
  have hown : s.vm.findClass RX4 = some m.cls := findClass_of_methodNamed BL.named
  have hlocks := BL.notSynchronized
  have sg4 : ∀ n : Nat, ∀  (v0 : Int32) (v1 : Int32) (v2 : Int32) (v3 : Int32) (ls : Array Slot), fX4_set_4   n  v0 v1 v2 v3 = some r → lv_has ls 4 [(0, .int v0), (1, .int v1), (2, .int v2), (3, .int v3)] → W p l e (headSpec wsX4_set ({ frames := 2, cells := 0, slots := 0, locals := 41 })).room s m (([.int x0, .int x1] : List Value).toArray) below meth c s.heap [] 0 0 (MQ below (QcRead r) (([.int x0, .int x1] : List Value).toArray) s 0 0 (fun _ => False)) (F0 m 4 ls []) := by
    intro n
    induction n with
    | zero => intro v0 v1 v2 v3 ls hf hl; exact of_none hf
    | succ n ih4 =>
      intro v0 v1 v2 v3 ls hf hl
      change fX4_set_4B   (fX4_set_4   n) v0 v1 v2 v3 = _ at hf
      unfold fX4_set_4B at hf
      refine lv_iload_n hx hb dX4_set_4 rfl (lv_at hl 3 rfl) ?_
      refine lv_bipush (v := (19 : Int32)) hx hb dX4_set_5 (by decide) ?_
      refine lv_icmp_ge (tgt := 38) hx hb dX4_set_7 (by decide) (fun c1 => ?_) (fun c1 => ?_)
      · have hf := (if_pos c1).symm.trans hf
        refine lv_iload_n hx hb dX4_set_38 rfl (lv_at hl 2 rfl) ?_
        exact W.iret (v := v2) hx hb hr (fun t ht hW => ⟨congrArg (fun z => Outcome.returned (some (Value.int z))) (Option.some.inj hf), ht⟩) (fun _ h => nomatch h) dX4_set_39
      · have hf := (if_neg c1).symm.trans hf
        refine lv_iload_n hx hb dX4_set_10 rfl (lv_at hl 1 rfl) ?_
        refine lv_iload_n hx hb dX4_set_11 rfl (lv_at hl 3 rfl) ?_
        refine W.callR (r := (fX4_isIn v1 v3)) (W.runS (As := [.int v1, .int v3]) (rest := []) ⟨hx, hb, hml, hown, hts⟩ (mX4_isIn l v1 v3 (fX4_isIn v1 v3) rfl) (va_cwS 2 hts gX4_set_X4_isIn rfl rfl rfl (by decide +kernel) ⟨Nat.le_of_ble_eq_true rfl, Nat.le_of_ble_eq_true rfl⟩) ⟨fun _ _ _ _ q => q, fun U hU hW => ⟨rfl, trivial⟩⟩ rfl rfl hl.1 rfl (lv_room (Nat.le_of_ble_eq_true rfl)) dX4_set_12 ⟨Nat.zero_le _, Nat.zero_le _⟩) ?_
        refine W.eq (g2 := F0 m 15 ls [.int (fX4_isIn v1 v3)]) rfl ?_
        refine lv_if_eq (tgt := 32) hx hb dX4_set_15 (by decide) (fun c2 => ?_) (fun c2 => ?_)
        · have hf := (if_pos c2).symm.trans hf
          refine lv_iinc (v := (v3 + (1 : Int32))) (lv' := [(3, .int (v3 + (1 : Int32))), (0, .int v0), (1, .int v1), (2, .int v2)]) hx hb dX4_set_32 hl (k := 3) rfl rfl (by decide) rfl (fun ls hl => ?_)
          refine lv_goto (tgt := 4) hx hb dX4_set_35 (by decide) ?_
          exact ih4 v0 v1 v2 (v3 + (1 : Int32)) ls hf (lv_sub hl [1, 2, 3, 0] rfl)
        · have hf := (if_neg c2).symm.trans hf
          refine lv_iload_n hx hb dX4_set_18 rfl (lv_at hl 2 rfl) ?_
          refine lv_iconst (v := (1 : Int32)) hx hb dX4_set_19 (by decide) ?_
          refine lv_iload_n hx hb dX4_set_20 rfl (lv_at hl 0 rfl) ?_
          refine lv_iload_n hx hb dX4_set_21 rfl (lv_at hl 3 rfl) ?_
          obtain ⟨r3, hc4, hf⟩ := of_bind_some hf
          refine W.callR (r := r3) (W.runS (As := [.int v3]) (rest := [.int v0, .int (1 : Int32), .int v2]) ⟨hx, hb, hml, hown, hts⟩ (mX4_halfTones l en v3 r3 hc4) (va_cwS 1 hts gX4_set_X4_halfTones rfl rfl rfl (by decide +kernel) ⟨Nat.le_of_ble_eq_true rfl, Nat.le_of_ble_eq_true rfl⟩) ⟨blindS, fun U hU hW => ⟨rfl, cE_read hE hS hW hU⟩⟩ rfl rfl hl.1 rfl (lv_room (Nat.le_of_ble_eq_true rfl)) dX4_set_22 ⟨Nat.zero_le _, Nat.zero_le _⟩) ?_
          refine W.eq (g2 := F0 m 25 ls [.int r3, .int v0, .int (1 : Int32), .int v2]) rfl ?_
          refine lv_iadd hx hb dX4_set_25 ?_
          refine lv_bipush (v := (12 : Int32)) hx hb dX4_set_26 (by decide) ?_
          refine lv_irem hx hb dX4_set_28 (by decide) ?_
          refine W.eq (g2 := F0 m 29 ls [.int (jrem (v0 + r3) (12 : Int32)), .int (1 : Int32), .int v2]) rfl ?_
          refine lv_ishl hx hb dX4_set_29 ?_
          refine lv_ior hx hb dX4_set_30 ?_
          refine lv_istore_n (lv' := [(2, .int (v2 ||| ((1 : Int32) <<< ((jrem (v0 + r3) (12 : Int32)) &&& 31)))), (0, .int v0), (1, .int v1), (3, .int v3)]) hx hb dX4_set_31 rfl hl (by decide) rfl (fun ls hl => ?_)
          refine lv_iinc (v := (v3 + (1 : Int32))) (lv' := [(3, .int (v3 + (1 : Int32))), (2, .int (v2 ||| ((1 : Int32) <<< ((jrem (v0 + r3) (12 : Int32)) &&& 31)))), (0, .int v0), (1, .int v1)]) hx hb dX4_set_32 hl (k := 3) rfl rfl (by decide) rfl (fun ls hl => ?_)
          refine lv_goto (tgt := 4) hx hb dX4_set_35 (by decide) ?_
          exact ih4 v0 v1 (v2 ||| ((1 : Int32) <<< ((jrem (v0 + r3) (12 : Int32)) &&& 31))) (v3 + (1 : Int32)) ls hf (lv_sub hl [2, 3, 1, 0] rfl)
  have hl := lv_entry ([.int x0, .int x1]) (n := 4) (Nat.le_of_ble_eq_true rfl)
  rw [lg_entry_eq]
  generalize (lg_sl ([.int x0, .int x1]) ++ List.replicate (4 - (lg_sl ([.int x0, .int x1])).length) Slot.unset).toArray = ls at hl ⊢
  have hl : lv_has ls 4 [(0, .int x0), (1, .int x1)] := hl
  unfold fX4_set at hf
  refine lv_iconst (v := (0 : Int32)) hx hb dX4_set_0 (by decide) ?_
  refine lv_istore_n (lv' := [(2, .int (0 : Int32)), (0, .int x0), (1, .int x1)]) hx hb dX4_set_1 rfl hl (by decide) rfl (fun ls hl => ?_)
  refine lv_iconst (v := (0 : Int32)) hx hb dX4_set_2 (by decide) ?_
  refine lv_istore_n (lv' := [(3, .int (0 : Int32)), (2, .int (0 : Int32)), (0, .int x0), (1, .int x1)]) hx hb dX4_set_3 rfl hl (by decide) rfl (fun ls hl => ?_)
  exact sg4  FU x0 x1 (0 : Int32) (0 : Int32) ls hf (lv_sub hl [2, 3, 1, 0] rfl)
def fX4_weight_23B   (k23 : Int32 → Int32 → Int32 → Int32 → Int32 → Option Int32)  (v1 : Int32) (v3 : Int32) (v4 : Int32) (v5 : Int32) (v6 : Int32) : Option Int32 :=
  (if (19 : Int32) ≤ v6 then (some v5) else (if (fX4_isIn v1 v6) = 0 then (k23 v1 v3 v4 v5 (v6 + (1 : Int32))) else ((fX4_signsAbove v3 v4 v6).bind fun r5 => (k23 v1 v3 v4 (v5 + (jabs r5)) (v6 + (1 : Int32))))))
def fX4_weight_23   : Nat → (Int32 → Int32 → Int32 → Int32 → Int32 → Option Int32)
  | 0 => fun _ _ _ _ _ => none
  | n + 1 => fX4_weight_23B   (fX4_weight_23   n)
def fX4_weight   (x0 : Int32) (x1 : Int32) (x2 : Int32) : Option Int32 :=
  ((fX3_pitch x0).bind fun r1 => (fX4_weight_23   FU x1 (fX3_letter x0) r1 (jabs (fX3_signs x2)) (0 : Int32)))
set_option maxRecDepth 100000 in
set_option maxHeartbeats 4000000 in
theorem mX4_weight (l : Launch) (en : Nat → Nat) (x0 : Int32) (x1 : Int32) (x2 : Int32) (r : Int32) (hf : fX4_weight x0 x1 x2 = some r) : Met l yX4_weight wsX4_weight ({ frames := 4, cells := 0, slots := 0, locals := 85 }) (va_Pc [.int x0, .int x1, .int x2] (fun U => cE en NA U U.heap)) (QcRead r) 0 0 (fun _ => False) := by
  refine Met.ofW (cc := cX4_weight) (maxL := 7) (ret := (some .int)) (by decide) rfl ?_
  intro p e s m args below meth c s₁ BL hml hv
  obtain ⟨rfl, hE⟩ := hv
  have hS : va_S NA s.heap s.heap [] := va_S.rf
  have hx := BL.exec
  have hb := BL.bytes
  have hr := BL.returns
  have hts := atoms_spec (ws := wsX4_weight) BL.pre
  have hown : s.vm.findClass RX4 = some m.cls := findClass_of_methodNamed BL.named
  have hlocks := BL.notSynchronized
  have sg23 : ∀ n : Nat, ∀  (v1 : Int32) (v3 : Int32) (v4 : Int32) (v5 : Int32) (v6 : Int32) (ls : Array Slot), fX4_weight_23   n  v1 v3 v4 v5 v6 = some r → lv_has ls 7 [(1, .int v1), (3, .int v3), (4, .int v4), (5, .int v5), (6, .int v6)] → W p l e (headSpec wsX4_weight ({ frames := 4, cells := 0, slots := 0, locals := 85 })).room s m (([.int x0, .int x1, .int x2] : List Value).toArray) below meth c s.heap [] 0 0 (MQ below (QcRead r) (([.int x0, .int x1, .int x2] : List Value).toArray) s 0 0 (fun _ => False)) (F0 m 23 ls []) := by
    intro n
    induction n with
    | zero => intro v1 v3 v4 v5 v6 ls hf hl; exact of_none hf
    | succ n ih23 =>
      intro v1 v3 v4 v5 v6 ls hf hl
      change fX4_weight_23B   (fX4_weight_23   n) v1 v3 v4 v5 v6 = _ at hf
      unfold fX4_weight_23B at hf
      refine lv_iload hx hb dX4_weight_23 (lv_at hl 4 rfl) ?_
      refine lv_bipush (v := (19 : Int32)) hx hb dX4_weight_25 (by decide) ?_
      refine lv_icmp_ge (tgt := 61) hx hb dX4_weight_27 (by decide) (fun c3 => ?_) (fun c3 => ?_)
      · have hf := (if_pos c3).symm.trans hf
        refine lv_iload hx hb dX4_weight_61 (lv_at hl 3 rfl) ?_
        exact W.iret (v := v5) hx hb hr (fun t ht hW => ⟨congrArg (fun z => Outcome.returned (some (Value.int z))) (Option.some.inj hf), ht⟩) (fun _ h => nomatch h) dX4_weight_63
      · have hf := (if_neg c3).symm.trans hf
        refine lv_iload_n hx hb dX4_weight_30 rfl (lv_at hl 0 rfl) ?_
        refine lv_iload hx hb dX4_weight_31 (lv_at hl 4 rfl) ?_
        refine W.callR (r := (fX4_isIn v1 v6)) (W.runS (As := [.int v1, .int v6]) (rest := []) ⟨hx, hb, hml, hown, hts⟩ (mX4_isIn l v1 v6 (fX4_isIn v1 v6) rfl) (va_cwS 2 hts gX4_weight_X4_isIn rfl rfl rfl (by decide +kernel) ⟨Nat.le_of_ble_eq_true rfl, Nat.le_of_ble_eq_true rfl⟩) ⟨fun _ _ _ _ q => q, fun U hU hW => ⟨rfl, trivial⟩⟩ rfl rfl hl.1 rfl (lv_room (Nat.le_of_ble_eq_true rfl)) dX4_weight_33 ⟨Nat.zero_le _, Nat.zero_le _⟩) ?_
        refine W.eq (g2 := F0 m 36 ls [.int (fX4_isIn v1 v6)]) rfl ?_
        refine lv_if_eq (tgt := 55) hx hb dX4_weight_36 (by decide) (fun c4 => ?_) (fun c4 => ?_)
        · have hf := (if_pos c4).symm.trans hf
          refine lv_iinc (v := (v6 + (1 : Int32))) (lv' := [(6, .int (v6 + (1 : Int32))), (1, .int v1), (3, .int v3), (4, .int v4), (5, .int v5)]) hx hb dX4_weight_55 hl (k := 4) rfl rfl (by decide) rfl (fun ls hl => ?_)
          refine lv_goto (tgt := 23) hx hb dX4_weight_58 (by decide) ?_
          exact ih23 v1 v3 v4 v5 (v6 + (1 : Int32)) ls hf (lv_sub hl [1, 2, 3, 4, 0] rfl)
        · have hf := (if_neg c4).symm.trans hf
          refine lv_iload hx hb dX4_weight_39 (lv_at hl 3 rfl) ?_
          refine lv_iload_n hx hb dX4_weight_41 rfl (lv_at hl 1 rfl) ?_
          refine lv_iload hx hb dX4_weight_42 (lv_at hl 2 rfl) ?_
          refine lv_iload hx hb dX4_weight_44 (lv_at hl 4 rfl) ?_
          obtain ⟨r5, hc6, hf⟩ := of_bind_some hf
          refine W.callR (r := r5) (W.runS (As := [.int v3, .int v4, .int v6]) (rest := [.int v5]) ⟨hx, hb, hml, hown, hts⟩ (mX4_signsAbove l en v3 v4 v6 r5 hc6) (va_cwS 3 hts gX4_weight_X4_signsAbove rfl rfl rfl (by decide +kernel) ⟨Nat.le_of_ble_eq_true rfl, Nat.le_of_ble_eq_true rfl⟩) ⟨blindS, fun U hU hW => ⟨rfl, cE_read hE hS hW hU⟩⟩ rfl rfl hl.1 rfl (lv_room (Nat.le_of_ble_eq_true rfl)) dX4_weight_46 ⟨Nat.zero_le _, Nat.zero_le _⟩) ?_
          refine W.eq (g2 := F0 m 49 ls [.int r5, .int v5]) rfl ?_
          refine va_mabs hx hb (hml.trans hl.1.symm) hown (hts (.methodLink RX4 60 Lib.Math.abs.name) (by decide +kernel)) (hts (.static Lib.Math.abs.name) (by decide +kernel)) (hts (.initialized "java/lang/Math") (by decide +kernel)) (hts (.code Lib.Math.abs.name Lib.Math.abs.code 1 (some .int)) (by decide +kernel)) (Nat.le_of_ble_eq_true rfl) (Nat.le_of_ble_eq_true rfl) (Nat.zero_le _) (Nat.zero_le _) dX4_weight_49 ?_
          refine W.eq (g2 := F0 m 52 ls [.int (jabs r5), .int v5]) rfl ?_
          refine lv_iadd hx hb dX4_weight_52 ?_
          refine lv_istore (lv' := [(5, .int (v5 + (jabs r5))), (1, .int v1), (3, .int v3), (4, .int v4), (6, .int v6)]) hx hb dX4_weight_53 hl (by decide) rfl (fun ls hl => ?_)
          refine lv_iinc (v := (v6 + (1 : Int32))) (lv' := [(6, .int (v6 + (1 : Int32))), (5, .int (v5 + (jabs r5))), (1, .int v1), (3, .int v3), (4, .int v4)]) hx hb dX4_weight_55 hl (k := 4) rfl rfl (by decide) rfl (fun ls hl => ?_)
          refine lv_goto (tgt := 23) hx hb dX4_weight_58 (by decide) ?_
          exact ih23 v1 v3 v4 (v5 + (jabs r5)) (v6 + (1 : Int32)) ls hf (lv_sub hl [2, 3, 4, 1, 0] rfl)
  have hl := lv_entry ([.int x0, .int x1, .int x2]) (n := 7) (Nat.le_of_ble_eq_true rfl)
  rw [lg_entry_eq]
  generalize (lg_sl ([.int x0, .int x1, .int x2]) ++ List.replicate (7 - (lg_sl ([.int x0, .int x1, .int x2])).length) Slot.unset).toArray = ls at hl ⊢
  have hl : lv_has ls 7 [(0, .int x0), (1, .int x1), (2, .int x2)] := hl
  unfold fX4_weight at hf
  refine lv_iload_n hx hb dX4_weight_0 rfl (lv_at hl 0 rfl) ?_
  refine W.callR (r := (fX3_letter x0)) (W.runS (As := [.int x0]) (rest := []) ⟨hx, hb, hml, hown, hts⟩ (mX3_letter l x0 (fX3_letter x0) rfl) (va_cwS 1 hts gX4_weight_X3_letter rfl rfl rfl (by decide +kernel) ⟨Nat.le_of_ble_eq_true rfl, Nat.le_of_ble_eq_true rfl⟩) ⟨fun _ _ _ _ q => q, fun U hU hW => ⟨rfl, trivial⟩⟩ rfl rfl hl.1 rfl (lv_room (Nat.le_of_ble_eq_true rfl)) dX4_weight_1 ⟨Nat.zero_le _, Nat.zero_le _⟩) ?_
  refine W.eq (g2 := F0 m 4 ls [.int (fX3_letter x0)]) rfl ?_
  refine lv_istore_n (lv' := [(3, .int (fX3_letter x0)), (0, .int x0), (1, .int x1), (2, .int x2)]) hx hb dX4_weight_4 rfl hl (by decide) rfl (fun ls hl => ?_)
  refine lv_iload_n hx hb dX4_weight_5 rfl (lv_at hl 1 rfl) ?_
  obtain ⟨r1, hc2, hf⟩ := of_bind_some hf
  refine W.callR (r := r1) (W.runS (As := [.int x0]) (rest := []) ⟨hx, hb, hml, hown, hts⟩ (mX3_pitch l en x0 r1 hc2) (va_cwS 1 hts gX4_weight_X3_pitch rfl rfl rfl (by decide +kernel) ⟨Nat.le_of_ble_eq_true rfl, Nat.le_of_ble_eq_true rfl⟩) ⟨blindS, fun U hU hW => ⟨rfl, cE_read hE hS hW hU⟩⟩ rfl rfl hl.1 rfl (lv_room (Nat.le_of_ble_eq_true rfl)) dX4_weight_6 ⟨Nat.zero_le _, Nat.zero_le _⟩) ?_
  refine W.eq (g2 := F0 m 9 ls [.int r1]) rfl ?_
  refine lv_istore (lv' := [(4, .int r1), (3, .int (fX3_letter x0)), (0, .int x0), (1, .int x1), (2, .int x2)]) hx hb dX4_weight_9 hl (by decide) rfl (fun ls hl => ?_)
  refine lv_iload_n hx hb dX4_weight_11 rfl (lv_at hl 4 rfl) ?_
  refine W.callR (r := (fX3_signs x2)) (W.runS (As := [.int x2]) (rest := []) ⟨hx, hb, hml, hown, hts⟩ (mX3_signs l x2 (fX3_signs x2) rfl) (va_cwS 1 hts gX4_weight_X3_signs rfl rfl rfl (by decide +kernel) ⟨Nat.le_of_ble_eq_true rfl, Nat.le_of_ble_eq_true rfl⟩) ⟨fun _ _ _ _ q => q, fun U hU hW => ⟨rfl, trivial⟩⟩ rfl rfl hl.1 rfl (lv_room (Nat.le_of_ble_eq_true rfl)) dX4_weight_12 ⟨Nat.zero_le _, Nat.zero_le _⟩) ?_
  refine W.eq (g2 := F0 m 15 ls [.int (fX3_signs x2)]) rfl ?_
  refine va_mabs hx hb (hml.trans hl.1.symm) hown (hts (.methodLink RX4 60 Lib.Math.abs.name) (by decide +kernel)) (hts (.static Lib.Math.abs.name) (by decide +kernel)) (hts (.initialized "java/lang/Math") (by decide +kernel)) (hts (.code Lib.Math.abs.name Lib.Math.abs.code 1 (some .int)) (by decide +kernel)) (Nat.le_of_ble_eq_true rfl) (Nat.le_of_ble_eq_true rfl) (Nat.zero_le _) (Nat.zero_le _) dX4_weight_15 ?_
  refine W.eq (g2 := F0 m 18 ls [.int (jabs (fX3_signs x2))]) rfl ?_
  refine lv_istore (lv' := [(5, .int (jabs (fX3_signs x2))), (4, .int r1), (3, .int (fX3_letter x0)), (0, .int x0), (1, .int x1), (2, .int x2)]) hx hb dX4_weight_18 hl (by decide) rfl (fun ls hl => ?_)
  refine lv_iconst (v := (0 : Int32)) hx hb dX4_weight_20 (by decide) ?_
  refine lv_istore (lv' := [(6, .int (0 : Int32)), (5, .int (jabs (fX3_signs x2))), (4, .int r1), (3, .int (fX3_letter x0)), (0, .int x0), (1, .int x1), (2, .int x2)]) hx hb dX4_weight_21 hl (by decide) rfl (fun ls hl => ?_)
  exact sg23  FU x1 (fX3_letter x0) r1 (jabs (fX3_signs x2)) (0 : Int32) ls hf (lv_sub hl [5, 3, 2, 1, 0] rfl)
def fX3_spelt_51  (k7 : Int32 → Int32 → Int32 → Int32 → Int32 → Option Int32)  (v0 : Int32) (v1 : Int32) (v4 : Int32) (v5 : Int32) (v6 : Int32) : Option Int32 :=
  (k7 v0 v1 v5 v6 (v4 + (1 : Int32)))
def fX3_spelt_7B   (k7 : Int32 → Int32 → Int32 → Int32 → Int32 → Option Int32)  (v0 : Int32) (v1 : Int32) (v2 : Int32) (v3 : Int32) (v4 : Int32) : Option Int32 :=
  (if (1 : Int32) < v4 then (some v2) else ((fX3_withSigns v0 v4).bind fun r2 => (if r2 = (-1 : Int32) then (k7 v0 v1 v2 v3 (v4 + (1 : Int32))) else ((fX4_weight r2 v1 r2).bind fun r5 => (if v2 = (-1 : Int32) then (fX3_spelt_51  k7 v0 v1 v4 r2 r5) else (if v3 ≤ r5 then (k7 v0 v1 v2 v3 (v4 + (1 : Int32))) else (fX3_spelt_51  k7 v0 v1 v4 r2 r5)))))))
def fX3_spelt_7   : Nat → (Int32 → Int32 → Int32 → Int32 → Int32 → Option Int32)
  | 0 => fun _ _ _ _ _ => none
  | n + 1 => fX3_spelt_7B   (fX3_spelt_7   n)
def fX3_spelt   (x0 : Int32) (x1 : Int32) : Option Int32 :=
  (fX3_spelt_7   FU x0 x1 (-1 : Int32) (0 : Int32) (-1 : Int32))
set_option maxRecDepth 100000 in
set_option maxHeartbeats 4000000 in
theorem mX3_spelt (l : Launch) (en : Nat → Nat) (x0 : Int32) (x1 : Int32) (r : Int32) (hf : fX3_spelt x0 x1 = some r) : Met l yX3_spelt wsX3_spelt ({ frames := 5, cells := 0, slots := 0, locals := 111 }) (va_Pc [.int x0, .int x1] (fun U => cE en NA U U.heap)) (QcRead r) 0 0 (fun _ => False) := by
  refine Met.ofW (cc := cX3_spelt) (maxL := 7) (ret := (some .int)) (by decide) rfl ?_
  intro p e s m args below meth c s₁ BL hml hv
  obtain ⟨rfl, hE⟩ := hv
  have hS : va_S NA s.heap s.heap [] := va_S.rf
  have hx := BL.exec
  have hb := BL.bytes
  have hr := BL.returns
  have hts := atoms_spec (ws := wsX3_spelt) BL.pre
  have hown : s.vm.findClass RX3 = some m.cls := findClass_of_methodNamed BL.named
  have hlocks := BL.notSynchronized
  have sg51 : ∀ (k7 : Int32 → Int32 → Int32 → Int32 → Int32 → Option Int32), (∀  (v0 : Int32) (v1 : Int32) (v2 : Int32) (v3 : Int32) (v4 : Int32) (ls : Array Slot), k7  v0 v1 v2 v3 v4 = some r → lv_has ls 7 [(0, .int v0), (1, .int v1), (2, .int v2), (3, .int v3), (4, .int v4)] → W p l e (headSpec wsX3_spelt ({ frames := 5, cells := 0, slots := 0, locals := 111 })).room s m (([.int x0, .int x1] : List Value).toArray) below meth c s.heap [] 0 0 (MQ below (QcRead r) (([.int x0, .int x1] : List Value).toArray) s 0 0 (fun _ => False)) (F0 m 7 ls [])) → ∀  (v0 : Int32) (v1 : Int32) (v4 : Int32) (v5 : Int32) (v6 : Int32) (ls : Array Slot), fX3_spelt_51  k7  v0 v1 v4 v5 v6 = some r → lv_has ls 7 [(0, .int v0), (1, .int v1), (4, .int v4), (5, .int v5), (6, .int v6)] → W p l e (headSpec wsX3_spelt ({ frames := 5, cells := 0, slots := 0, locals := 111 })).room s m (([.int x0, .int x1] : List Value).toArray) below meth c s.heap [] 0 0 (MQ below (QcRead r) (([.int x0, .int x1] : List Value).toArray) s 0 0 (fun _ => False)) (F0 m 51 ls []) := by
    intro k7 ih7
    intro v0 v1 v4 v5 v6 ls hf hl
    unfold fX3_spelt_51 at hf
    refine lv_iload hx hb dX3_spelt_51 (lv_at hl 3 rfl) ?_
    refine lv_istore_n (lv' := [(2, .int v5), (0, .int v0), (1, .int v1), (4, .int v4), (5, .int v5), (6, .int v6)]) hx hb dX3_spelt_53 rfl hl (by decide) rfl (fun ls hl => ?_)
    refine lv_iload hx hb dX3_spelt_54 (lv_at hl 5 rfl) ?_
    refine lv_istore_n (lv' := [(3, .int v6), (2, .int v5), (0, .int v0), (1, .int v1), (4, .int v4), (5, .int v5), (6, .int v6)]) hx hb dX3_spelt_56 rfl hl (by decide) rfl (fun ls hl => ?_)
    refine lv_iinc (v := (v4 + (1 : Int32))) (lv' := [(4, .int (v4 + (1 : Int32))), (3, .int v6), (2, .int v5), (0, .int v0), (1, .int v1), (5, .int v5), (6, .int v6)]) hx hb dX3_spelt_57 hl (k := 4) rfl rfl (by decide) rfl (fun ls hl => ?_)
    refine lv_goto (tgt := 7) hx hb dX3_spelt_60 (by decide) ?_
    exact ih7 v0 v1 v5 v6 (v4 + (1 : Int32)) ls hf (lv_sub hl [3, 4, 2, 1, 0] rfl)
  have sg7 : ∀ n : Nat, ∀  (v0 : Int32) (v1 : Int32) (v2 : Int32) (v3 : Int32) (v4 : Int32) (ls : Array Slot), fX3_spelt_7   n  v0 v1 v2 v3 v4 = some r → lv_has ls 7 [(0, .int v0), (1, .int v1), (2, .int v2), (3, .int v3), (4, .int v4)] → W p l e (headSpec wsX3_spelt ({ frames := 5, cells := 0, slots := 0, locals := 111 })).room s m (([.int x0, .int x1] : List Value).toArray) below meth c s.heap [] 0 0 (MQ below (QcRead r) (([.int x0, .int x1] : List Value).toArray) s 0 0 (fun _ => False)) (F0 m 7 ls []) := by
    intro n
    induction n with
    | zero => intro v0 v1 v2 v3 v4 ls hf hl; exact of_none hf
    | succ n ih7 =>
      intro v0 v1 v2 v3 v4 ls hf hl
      change fX3_spelt_7B   (fX3_spelt_7   n) v0 v1 v2 v3 v4 = _ at hf
      unfold fX3_spelt_7B at hf
      refine lv_iload hx hb dX3_spelt_7 (lv_at hl 4 rfl) ?_
      refine lv_iconst (v := (1 : Int32)) hx hb dX3_spelt_9 (by decide) ?_
      refine lv_icmp_gt (tgt := 63) hx hb dX3_spelt_10 (by decide) (fun c1 => ?_) (fun c1 => ?_)
      · have hf := (if_pos c1).symm.trans hf
        refine lv_iload_n hx hb dX3_spelt_63 rfl (lv_at hl 2 rfl) ?_
        exact W.iret (v := v2) hx hb hr (fun t ht hW => ⟨congrArg (fun z => Outcome.returned (some (Value.int z))) (Option.some.inj hf), ht⟩) (fun _ h => nomatch h) dX3_spelt_64
      · have hf := (if_neg c1).symm.trans hf
        refine lv_iload_n hx hb dX3_spelt_13 rfl (lv_at hl 0 rfl) ?_
        refine lv_iload hx hb dX3_spelt_14 (lv_at hl 4 rfl) ?_
        obtain ⟨r2, hc3, hf⟩ := of_bind_some hf
        refine W.callR (r := r2) (W.runS (As := [.int v0, .int v4]) (rest := []) ⟨hx, hb, hml, hown, hts⟩ (mX3_withSigns l en v0 v4 r2 hc3) (va_cwS 2 hts gX3_spelt_X3_withSigns rfl rfl rfl (by decide +kernel) ⟨Nat.le_of_ble_eq_true rfl, Nat.le_of_ble_eq_true rfl⟩) ⟨blindS, fun U hU hW => ⟨rfl, cE_read hE hS hW hU⟩⟩ rfl rfl hl.1 rfl (lv_room (Nat.le_of_ble_eq_true rfl)) dX3_spelt_16 ⟨Nat.zero_le _, Nat.zero_le _⟩) ?_
        refine W.eq (g2 := F0 m 19 ls [.int r2]) rfl ?_
        refine lv_istore (lv' := [(5, .int r2), (0, .int v0), (1, .int v1), (2, .int v2), (3, .int v3), (4, .int v4)]) hx hb dX3_spelt_19 hl (by decide) rfl (fun ls hl => ?_)
        refine lv_iload hx hb dX3_spelt_21 (lv_at hl 0 rfl) ?_
        refine lv_iconst (v := (-1 : Int32)) hx hb dX3_spelt_23 (by decide) ?_
        refine lv_icmp_ne (tgt := 30) hx hb dX3_spelt_24 (by decide) (fun c4 => ?_) (fun c4 => ?_)
        · have hf := (if_neg c4).symm.trans hf
          refine lv_iload hx hb dX3_spelt_30 (lv_at hl 0 rfl) ?_
          refine lv_iload_n hx hb dX3_spelt_32 rfl (lv_at hl 2 rfl) ?_
          refine lv_iload hx hb dX3_spelt_33 (lv_at hl 0 rfl) ?_
          obtain ⟨r5, hc6, hf⟩ := of_bind_some hf
          refine W.callR (r := r5) (W.runS (As := [.int r2, .int v1, .int r2]) (rest := []) ⟨hx, hb, hml, hown, hts⟩ (mX4_weight l en r2 v1 r2 r5 hc6) (va_cwS 3 hts gX3_spelt_X4_weight rfl rfl rfl (by decide +kernel) ⟨Nat.le_of_ble_eq_true rfl, Nat.le_of_ble_eq_true rfl⟩) ⟨blindS, fun U hU hW => ⟨rfl, cE_read hE hS hW hU⟩⟩ rfl rfl hl.1 rfl (lv_room (Nat.le_of_ble_eq_true rfl)) dX3_spelt_35 ⟨Nat.zero_le _, Nat.zero_le _⟩) ?_
          refine W.eq (g2 := F0 m 38 ls [.int r5]) rfl ?_
          refine lv_istore (lv' := [(6, .int r5), (5, .int r2), (0, .int v0), (1, .int v1), (2, .int v2), (3, .int v3), (4, .int v4)]) hx hb dX3_spelt_38 hl (by decide) rfl (fun ls hl => ?_)
          refine lv_iload_n hx hb dX3_spelt_40 rfl (lv_at hl 4 rfl) ?_
          refine lv_iconst (v := (-1 : Int32)) hx hb dX3_spelt_41 (by decide) ?_
          refine lv_icmp_eq (tgt := 51) hx hb dX3_spelt_42 (by decide) (fun c7 => ?_) (fun c7 => ?_)
          · have hf := (if_pos c7).symm.trans hf
            exact sg51 _ ih7 v0 v1 v4 r2 r5 ls hf (lv_sub hl [2, 3, 6, 1, 0] rfl)
          · have hf := (if_neg c7).symm.trans hf
            refine lv_iload hx hb dX3_spelt_45 (lv_at hl 0 rfl) ?_
            refine lv_iload_n hx hb dX3_spelt_47 rfl (lv_at hl 5 rfl) ?_
            refine lv_icmp_ge (tgt := 57) hx hb dX3_spelt_48 (by decide) (fun c8 => ?_) (fun c8 => ?_)
            · have hf := (if_pos c8).symm.trans hf
              refine lv_iinc (v := (v4 + (1 : Int32))) (lv' := [(4, .int (v4 + (1 : Int32))), (6, .int r5), (5, .int r2), (0, .int v0), (1, .int v1), (2, .int v2), (3, .int v3)]) hx hb dX3_spelt_57 hl (k := 6) rfl rfl (by decide) rfl (fun ls hl => ?_)
              refine lv_goto (tgt := 7) hx hb dX3_spelt_60 (by decide) ?_
              exact ih7 v0 v1 v2 v3 (v4 + (1 : Int32)) ls hf (lv_sub hl [3, 4, 5, 6, 0] rfl)
            · have hf := (if_neg c8).symm.trans hf
              exact sg51 _ ih7 v0 v1 v4 r2 r5 ls hf (lv_sub hl [2, 3, 6, 1, 0] rfl)
        · have hf := (if_pos c4).symm.trans hf
          refine lv_goto (tgt := 57) hx hb dX3_spelt_27 (by decide) ?_
          refine lv_iinc (v := (v4 + (1 : Int32))) (lv' := [(4, .int (v4 + (1 : Int32))), (5, .int r2), (0, .int v0), (1, .int v1), (2, .int v2), (3, .int v3)]) hx hb dX3_spelt_57 hl (k := 5) rfl rfl (by decide) rfl (fun ls hl => ?_)
          refine lv_goto (tgt := 7) hx hb dX3_spelt_60 (by decide) ?_
          exact ih7 v0 v1 v2 v3 (v4 + (1 : Int32)) ls hf (lv_sub hl [2, 3, 4, 5, 0] rfl)
  have hl := lv_entry ([.int x0, .int x1]) (n := 7) (Nat.le_of_ble_eq_true rfl)
  rw [lg_entry_eq]
  generalize (lg_sl ([.int x0, .int x1]) ++ List.replicate (7 - (lg_sl ([.int x0, .int x1])).length) Slot.unset).toArray = ls at hl ⊢
  have hl : lv_has ls 7 [(0, .int x0), (1, .int x1)] := hl
  unfold fX3_spelt at hf
  refine lv_iconst (v := (-1 : Int32)) hx hb dX3_spelt_0 (by decide) ?_
  refine lv_istore_n (lv' := [(2, .int (-1 : Int32)), (0, .int x0), (1, .int x1)]) hx hb dX3_spelt_1 rfl hl (by decide) rfl (fun ls hl => ?_)
  refine lv_iconst (v := (0 : Int32)) hx hb dX3_spelt_2 (by decide) ?_
  refine lv_istore_n (lv' := [(3, .int (0 : Int32)), (2, .int (-1 : Int32)), (0, .int x0), (1, .int x1)]) hx hb dX3_spelt_3 rfl hl (by decide) rfl (fun ls hl => ?_)
  refine lv_iconst (v := (-1 : Int32)) hx hb dX3_spelt_4 (by decide) ?_
  refine lv_istore (lv' := [(4, .int (-1 : Int32)), (3, .int (0 : Int32)), (2, .int (-1 : Int32)), (0, .int x0), (1, .int x1)]) hx hb dX3_spelt_5 hl (by decide) rfl (fun ls hl => ?_)
  exact sg7  FU x0 x1 (-1 : Int32) (0 : Int32) (-1 : Int32) ls hf (lv_sub hl [3, 4, 2, 1, 0] rfl)
def fX0_steps   (x0 : Int32) : Option Int32 :=
  ((fX8_entry (sN 0) (sF 0) x0).bind fun r1 => (some r1))
set_option maxRecDepth 100000 in
set_option maxHeartbeats 4000000 in
theorem mX0_steps (l : Launch) (en : Nat → Nat) (x0 : Int32) (r : Int32) (hf : fX0_steps x0 = some r) : Met l yX0_steps wsX0_steps ({ frames := 1, cells := 0, slots := 0, locals := 21 }) (va_Pc [.int x0] (fun U => cE en NA U U.heap)) (QcRead r) 0 0 (fun _ => False) := by
  refine Met.ofW (cc := cX0_steps) (maxL := 1) (ret := (some .int)) (by decide) rfl ?_
  intro p e s m args below meth c s₁ BL hml hv
  obtain ⟨rfl, hE⟩ := hv
  have hS : va_S NA s.heap s.heap [] := va_S.rf
  have hx := BL.exec
  have hb := BL.bytes
  have hr := BL.returns
  have hts := atoms_spec (ws := wsX0_steps) BL.pre
  have hown : s.vm.findClass RX0 = some m.cls := findClass_of_methodNamed BL.named
  have hlocks := BL.notSynchronized
  have hl := lv_entry ([.int x0]) (n := 1) (Nat.le_of_ble_eq_true rfl)
  rw [lg_entry_eq]
  generalize (lg_sl ([.int x0]) ++ List.replicate (1 - (lg_sl ([.int x0])).length) Slot.unset).toArray = ls at hl ⊢
  have hl : lv_has ls 1 [(0, .int x0)] := hl
  unfold fX0_steps at hf
  refine va_gets hx hb (show va_Z "LeadSheets$Bodies" "STEPS" "[I" (.ref (en 0)) _ s s.heap from (hE.1 0 (by decide)).1) hS hown (hts (.fieldLink RX0 9 "LeadSheets$Bodies" "STEPS" "[I") (by decide +kernel)) (fun _ h9 => h9) dX0_steps_0 ?_
  refine lv_iload_n hx hb dX0_steps_3 rfl (lv_at hl 0 rfl) ?_
  obtain ⟨r1, hc2, hf⟩ := of_bind_some hf
  refine W.callR (r := r1) (va_Run.run (va_runSN (host := RX8) (As := [.ref (en 0), .int x0]) (rest := []) ⟨hx, hb, hml, hown, hts⟩ (mX8_entry_s l en 0 (by decide) x0 r1 hc2) ⟨va_cnB 2 hts gX0_steps_X8_entry_n15 rfl rfl rfl (hE.2.2.2.2.1 (RX0, 15, yX8_entry, RX8) (by decide +kernel)) (hts (.initialized RX8) (by decide +kernel)) (by decide +kernel) ⟨Nat.le_of_ble_eq_true rfl, Nat.le_of_ble_eq_true rfl⟩, hts (.static yX8_entry) (by decide +kernel), trivial⟩ ⟨blindS, fun U hU hW => ⟨rfl, cE_read hE hS hW hU⟩⟩ rfl rfl hl.1 rfl (lv_room (Nat.le_of_ble_eq_true rfl)) dX0_steps_4 ⟨Nat.zero_le _, Nat.zero_le _⟩)) ?_
  refine W.eq (g2 := F0 m 7 ls [.int r1]) rfl ?_
  exact W.iret (v := r1) hx hb hr (fun t ht hW => ⟨congrArg (fun z => Outcome.returned (some (Value.int z))) (Option.some.inj hf), ht⟩) (fun _ h => nomatch h) dX0_steps_7
def fX0_withSteps_2B   (k2 : Int32 → Int32 → Option Int32)  (v0 : Int32) (v1 : Int32) : Option Int32 :=
  (if (20 : Int32) ≤ v1 then (some (20 : Int32)) else ((fX8_entry (sN 0) (sF 0) v1).bind fun r2 => (if r2 = v0 then (some v1) else (k2 v0 (v1 + (1 : Int32))))))
def fX0_withSteps_2   : Nat → (Int32 → Int32 → Option Int32)
  | 0 => fun _ _ => none
  | n + 1 => fX0_withSteps_2B   (fX0_withSteps_2   n)
def fX0_withSteps   (x0 : Int32) : Option Int32 :=
  (fX0_withSteps_2   FU x0 (0 : Int32))
set_option maxRecDepth 100000 in
set_option maxHeartbeats 4000000 in
theorem mX0_withSteps (l : Launch) (en : Nat → Nat) (x0 : Int32) (r : Int32) (hf : fX0_withSteps x0 = some r) : Met l yX0_withSteps wsX0_withSteps ({ frames := 1, cells := 0, slots := 0, locals := 21 }) (va_Pc [.int x0] (fun U => cE en NA U U.heap)) (QcRead r) 0 0 (fun _ => False) := by
  refine Met.ofW (cc := cX0_withSteps) (maxL := 2) (ret := (some .int)) (by decide) rfl ?_
  intro p e s m args below meth c s₁ BL hml hv
  obtain ⟨rfl, hE⟩ := hv
  have hS : va_S NA s.heap s.heap [] := va_S.rf
  have hx := BL.exec
  have hb := BL.bytes
  have hr := BL.returns
  have hts := atoms_spec (ws := wsX0_withSteps) BL.pre
  have hown : s.vm.findClass RX0 = some m.cls := findClass_of_methodNamed BL.named
  have hlocks := BL.notSynchronized
  have sg2 : ∀ n : Nat, ∀  (v0 : Int32) (v1 : Int32) (ls : Array Slot), fX0_withSteps_2   n  v0 v1 = some r → lv_has ls 2 [(0, .int v0), (1, .int v1)] → W p l e (headSpec wsX0_withSteps ({ frames := 1, cells := 0, slots := 0, locals := 21 })).room s m (([.int x0] : List Value).toArray) below meth c s.heap [] 0 0 (MQ below (QcRead r) (([.int x0] : List Value).toArray) s 0 0 (fun _ => False)) (F0 m 2 ls []) := by
    intro n
    induction n with
    | zero => intro v0 v1 ls hf hl; exact of_none hf
    | succ n ih2 =>
      intro v0 v1 ls hf hl
      change fX0_withSteps_2B   (fX0_withSteps_2   n) v0 v1 = _ at hf
      unfold fX0_withSteps_2B at hf
      refine lv_iload_n hx hb dX0_withSteps_2 rfl (lv_at hl 1 rfl) ?_
      refine lv_bipush (v := (20 : Int32)) hx hb dX0_withSteps_3 (by decide) ?_
      refine lv_icmp_ge (tgt := 27) hx hb dX0_withSteps_5 (by decide) (fun c1 => ?_) (fun c1 => ?_)
      · have hf := (if_pos c1).symm.trans hf
        refine lv_bipush (v := (20 : Int32)) hx hb dX0_withSteps_27 (by decide) ?_
        exact W.iret (v := (20 : Int32)) hx hb hr (fun t ht hW => ⟨congrArg (fun z => Outcome.returned (some (Value.int z))) (Option.some.inj hf), ht⟩) (fun _ h => nomatch h) dX0_withSteps_29
      · have hf := (if_neg c1).symm.trans hf
        refine va_gets hx hb (show va_Z "LeadSheets$Bodies" "STEPS" "[I" (.ref (en 0)) _ s s.heap from (hE.1 0 (by decide)).1) hS hown (hts (.fieldLink RX0 9 "LeadSheets$Bodies" "STEPS" "[I") (by decide +kernel)) (fun _ h9 => h9) dX0_withSteps_8 ?_
        refine lv_iload_n hx hb dX0_withSteps_11 rfl (lv_at hl 1 rfl) ?_
        obtain ⟨r2, hc3, hf⟩ := of_bind_some hf
        refine W.callR (r := r2) (va_Run.run (va_runSN (host := RX8) (As := [.ref (en 0), .int v1]) (rest := []) ⟨hx, hb, hml, hown, hts⟩ (mX8_entry_s l en 0 (by decide) v1 r2 hc3) ⟨va_cnB 2 hts gX0_withSteps_X8_entry_n15 rfl rfl rfl (hE.2.2.2.2.1 (RX0, 15, yX8_entry, RX8) (by decide +kernel)) (hts (.initialized RX8) (by decide +kernel)) (by decide +kernel) ⟨Nat.le_of_ble_eq_true rfl, Nat.le_of_ble_eq_true rfl⟩, hts (.static yX8_entry) (by decide +kernel), trivial⟩ ⟨blindS, fun U hU hW => ⟨rfl, cE_read hE hS hW hU⟩⟩ rfl rfl hl.1 rfl (lv_room (Nat.le_of_ble_eq_true rfl)) dX0_withSteps_12 ⟨Nat.zero_le _, Nat.zero_le _⟩)) ?_
        refine W.eq (g2 := F0 m 15 ls [.int r2]) rfl ?_
        refine lv_iload_n hx hb dX0_withSteps_15 rfl (lv_at hl 0 rfl) ?_
        refine lv_icmp_ne (tgt := 21) hx hb dX0_withSteps_16 (by decide) (fun c4 => ?_) (fun c4 => ?_)
        · have hf := (if_neg c4).symm.trans hf
          refine lv_iinc (v := (v1 + (1 : Int32))) (lv' := [(1, .int (v1 + (1 : Int32))), (0, .int v0)]) hx hb dX0_withSteps_21 hl (k := 1) rfl rfl (by decide) rfl (fun ls hl => ?_)
          refine lv_goto (tgt := 2) hx hb dX0_withSteps_24 (by decide) ?_
          exact ih2 v0 (v1 + (1 : Int32)) ls hf (lv_sub hl [1, 0] rfl)
        · have hf := (if_pos c4).symm.trans hf
          refine lv_iload_n hx hb dX0_withSteps_19 rfl (lv_at hl 1 rfl) ?_
          exact W.iret (v := v1) hx hb hr (fun t ht hW => ⟨congrArg (fun z => Outcome.returned (some (Value.int z))) (Option.some.inj hf), ht⟩) (fun _ h => nomatch h) dX0_withSteps_20
  have hl := lv_entry ([.int x0]) (n := 2) (Nat.le_of_ble_eq_true rfl)
  rw [lg_entry_eq]
  generalize (lg_sl ([.int x0]) ++ List.replicate (2 - (lg_sl ([.int x0])).length) Slot.unset).toArray = ls at hl ⊢
  have hl : lv_has ls 2 [(0, .int x0)] := hl
  unfold fX0_withSteps at hf
  refine lv_iconst (v := (0 : Int32)) hx hb dX0_withSteps_0 (by decide) ?_
  refine lv_istore_n (lv' := [(1, .int (0 : Int32)), (0, .int x0)]) hx hb dX0_withSteps_1 rfl hl (by decide) rfl (fun ls hl => ?_)
  exact sg2  FU x0 (0 : Int32) ls hf (lv_sub hl [1, 0] rfl)
def fX2_rootOf   (x0 : Int32) (x1 : Int32) : Option Int32 :=
  ((fX0_steps (fX2_bodyOf x1)).bind fun r1 => ((fX3_spelt (jrem (x0 + (x1 / (20 : Int32))) (12 : Int32)) r1).bind fun r3 => (some r3)))
set_option maxRecDepth 100000 in
set_option maxHeartbeats 4000000 in
theorem mX2_rootOf (l : Launch) (en : Nat → Nat) (x0 : Int32) (x1 : Int32) (r : Int32) (hf : fX2_rootOf x0 x1 = some r) : Met l yX2_rootOf wsX2_rootOf ({ frames := 6, cells := 0, slots := 0, locals := 137 }) (va_Pc [.int x0, .int x1] (fun U => cE en NA U U.heap)) (QcRead r) 0 0 (fun _ => False) := by
  refine Met.ofW (cc := cX2_rootOf) (maxL := 2) (ret := (some .int)) (by decide) rfl ?_
  intro p e s m args below meth c s₁ BL hml hv
  obtain ⟨rfl, hE⟩ := hv
  have hS : va_S NA s.heap s.heap [] := va_S.rf
  have hx := BL.exec
  have hb := BL.bytes
  have hr := BL.returns
  have hts := atoms_spec (ws := wsX2_rootOf) BL.pre
  have hown : s.vm.findClass RX2 = some m.cls := findClass_of_methodNamed BL.named
  have hlocks := BL.notSynchronized
  have hl := lv_entry ([.int x0, .int x1]) (n := 2) (Nat.le_of_ble_eq_true rfl)
  rw [lg_entry_eq]
  generalize (lg_sl ([.int x0, .int x1]) ++ List.replicate (2 - (lg_sl ([.int x0, .int x1])).length) Slot.unset).toArray = ls at hl ⊢
  have hl : lv_has ls 2 [(0, .int x0), (1, .int x1)] := hl
  unfold fX2_rootOf at hf
  refine lv_iload_n hx hb dX2_rootOf_0 rfl (lv_at hl 0 rfl) ?_
  refine lv_iload_n hx hb dX2_rootOf_1 rfl (lv_at hl 1 rfl) ?_
  refine lv_bipush (v := (20 : Int32)) hx hb dX2_rootOf_2 (by decide) ?_
  refine lv_idiv hx hb dX2_rootOf_4 (by decide) ?_
  refine lv_iadd hx hb dX2_rootOf_5 ?_
  refine lv_bipush (v := (12 : Int32)) hx hb dX2_rootOf_6 (by decide) ?_
  refine lv_irem hx hb dX2_rootOf_8 (by decide) ?_
  refine W.eq (g2 := F0 m 9 ls [.int (jrem (x0 + (x1 / (20 : Int32))) (12 : Int32))]) rfl ?_
  refine lv_iload_n hx hb dX2_rootOf_9 rfl (lv_at hl 1 rfl) ?_
  refine W.callR (r := (fX2_bodyOf x1)) (W.runS (As := [.int x1]) (rest := [.int (jrem (x0 + (x1 / (20 : Int32))) (12 : Int32))]) ⟨hx, hb, hml, hown, hts⟩ (mX2_bodyOf l x1 (fX2_bodyOf x1) rfl) (va_cwS 1 hts gX2_rootOf_X2_bodyOf rfl rfl rfl (by decide +kernel) ⟨Nat.le_of_ble_eq_true rfl, Nat.le_of_ble_eq_true rfl⟩) ⟨fun _ _ _ _ q => q, fun U hU hW => ⟨rfl, trivial⟩⟩ rfl rfl hl.1 rfl (lv_room (Nat.le_of_ble_eq_true rfl)) dX2_rootOf_10 ⟨Nat.zero_le _, Nat.zero_le _⟩) ?_
  refine W.eq (g2 := F0 m 13 ls [.int (fX2_bodyOf x1), .int (jrem (x0 + (x1 / (20 : Int32))) (12 : Int32))]) rfl ?_
  obtain ⟨r1, hc2, hf⟩ := of_bind_some hf
  refine W.callR (r := r1) (W.runS (As := [.int (fX2_bodyOf x1)]) (rest := [.int (jrem (x0 + (x1 / (20 : Int32))) (12 : Int32))]) ⟨hx, hb, hml, hown, hts⟩ (mX0_steps l en (fX2_bodyOf x1) r1 hc2) (va_cwS 1 hts gX2_rootOf_X0_steps rfl rfl rfl (by decide +kernel) ⟨Nat.le_of_ble_eq_true rfl, Nat.le_of_ble_eq_true rfl⟩) ⟨blindS, fun U hU hW => ⟨rfl, cE_read hE hS hW hU⟩⟩ rfl rfl hl.1 rfl (lv_room (Nat.le_of_ble_eq_true rfl)) dX2_rootOf_13 ⟨Nat.zero_le _, Nat.zero_le _⟩) ?_
  refine W.eq (g2 := F0 m 16 ls [.int r1, .int (jrem (x0 + (x1 / (20 : Int32))) (12 : Int32))]) rfl ?_
  obtain ⟨r3, hc4, hf⟩ := of_bind_some hf
  refine W.callR (r := r3) (W.runS (As := [.int (jrem (x0 + (x1 / (20 : Int32))) (12 : Int32)), .int r1]) (rest := []) ⟨hx, hb, hml, hown, hts⟩ (mX3_spelt l en (jrem (x0 + (x1 / (20 : Int32))) (12 : Int32)) r1 r3 hc4) (va_cwS 2 hts gX2_rootOf_X3_spelt rfl rfl rfl (by decide +kernel) ⟨Nat.le_of_ble_eq_true rfl, Nat.le_of_ble_eq_true rfl⟩) ⟨blindS, fun U hU hW => ⟨rfl, cE_read hE hS hW hU⟩⟩ rfl rfl hl.1 rfl (lv_room (Nat.le_of_ble_eq_true rfl)) dX2_rootOf_16 ⟨Nat.zero_le _, Nat.zero_le _⟩) ?_
  refine W.eq (g2 := F0 m 19 ls [.int r3]) rfl ?_
  exact W.iret (v := r3) hx hb hr (fun t ht hW => ⟨congrArg (fun z => Outcome.returned (some (Value.int z))) (Option.some.inj hf), ht⟩) (fun _ h => nomatch h) dX2_rootOf_19
def fX2_bassNote   (x0 : Int32) : Option Int32 :=
  ((fX0_steps (0 : Int32)).bind fun r1 => ((fX3_spelt x0 r1).bind fun r3 => (some r3)))
set_option maxRecDepth 100000 in
set_option maxHeartbeats 4000000 in
theorem mX2_bassNote (l : Launch) (en : Nat → Nat) (x0 : Int32) (r : Int32) (hf : fX2_bassNote x0 = some r) : Met l yX2_bassNote wsX2_bassNote ({ frames := 6, cells := 0, slots := 0, locals := 137 }) (va_Pc [.int x0] (fun U => cE en NA U U.heap)) (QcRead r) 0 0 (fun _ => False) := by
  refine Met.ofW (cc := cX2_bassNote) (maxL := 1) (ret := (some .int)) (by decide) rfl ?_
  intro p e s m args below meth c s₁ BL hml hv
  obtain ⟨rfl, hE⟩ := hv
  have hS : va_S NA s.heap s.heap [] := va_S.rf
  have hx := BL.exec
  have hb := BL.bytes
  have hr := BL.returns
  have hts := atoms_spec (ws := wsX2_bassNote) BL.pre
  have hown : s.vm.findClass RX2 = some m.cls := findClass_of_methodNamed BL.named
  have hlocks := BL.notSynchronized
  have hl := lv_entry ([.int x0]) (n := 1) (Nat.le_of_ble_eq_true rfl)
  rw [lg_entry_eq]
  generalize (lg_sl ([.int x0]) ++ List.replicate (1 - (lg_sl ([.int x0])).length) Slot.unset).toArray = ls at hl ⊢
  have hl : lv_has ls 1 [(0, .int x0)] := hl
  unfold fX2_bassNote at hf
  refine lv_iload_n hx hb dX2_bassNote_0 rfl (lv_at hl 0 rfl) ?_
  refine lv_iconst (v := (0 : Int32)) hx hb dX2_bassNote_1 (by decide) ?_
  obtain ⟨r1, hc2, hf⟩ := of_bind_some hf
  refine W.callR (r := r1) (W.runS (As := [.int (0 : Int32)]) (rest := [.int x0]) ⟨hx, hb, hml, hown, hts⟩ (mX0_steps l en (0 : Int32) r1 hc2) (va_cwS 1 hts gX2_bassNote_X0_steps rfl rfl rfl (by decide +kernel) ⟨Nat.le_of_ble_eq_true rfl, Nat.le_of_ble_eq_true rfl⟩) ⟨blindS, fun U hU hW => ⟨rfl, cE_read hE hS hW hU⟩⟩ rfl rfl hl.1 rfl (lv_room (Nat.le_of_ble_eq_true rfl)) dX2_bassNote_2 ⟨Nat.zero_le _, Nat.zero_le _⟩) ?_
  refine W.eq (g2 := F0 m 5 ls [.int r1, .int x0]) rfl ?_
  obtain ⟨r3, hc4, hf⟩ := of_bind_some hf
  refine W.callR (r := r3) (W.runS (As := [.int x0, .int r1]) (rest := []) ⟨hx, hb, hml, hown, hts⟩ (mX3_spelt l en x0 r1 r3 hc4) (va_cwS 2 hts gX2_bassNote_X3_spelt rfl rfl rfl (by decide +kernel) ⟨Nat.le_of_ble_eq_true rfl, Nat.le_of_ble_eq_true rfl⟩) ⟨blindS, fun U hU hW => ⟨rfl, cE_read hE hS hW hU⟩⟩ rfl rfl hl.1 rfl (lv_room (Nat.le_of_ble_eq_true rfl)) dX2_bassNote_5 ⟨Nat.zero_le _, Nat.zero_le _⟩) ?_
  refine W.eq (g2 := F0 m 8 ls [.int r3]) rfl ?_
  exact W.iret (v := r3) hx hb hr (fun t ht hW => ⟨congrArg (fun z => Outcome.returned (some (Value.int z))) (Option.some.inj hf), ht⟩) (fun _ h => nomatch h) dX2_bassNote_8
def fX8_bassPart   (x0 : Int32) (x1 : Int32) : Option Int32 :=
  (if x1 = (2 : Int32) then (some (fX3_letter x0)) else (if x1 = (3 : Int32) then (some (fX3_signs x0)) else (if x1 = (4 : Int32) then ((fX3_pitch x0).bind fun r4 => (some r4)) else (some (-1 : Int32)))))
set_option maxRecDepth 100000 in
set_option maxHeartbeats 4000000 in
theorem mX8_bassPart (l : Launch) (en : Nat → Nat) (x0 : Int32) (x1 : Int32) (r : Int32) (hf : fX8_bassPart x0 x1 = some r) : Met l yX8_bassPart wsX8_bassPart ({ frames := 3, cells := 0, slots := 0, locals := 61 }) (va_Pc [.int x0, .int x1] (fun U => cE en NA U U.heap)) (QcRead r) 0 0 (fun _ => False) := by
  refine Met.ofW (cc := cX8_bassPart) (maxL := 2) (ret := (some .int)) (by decide) rfl ?_
  intro p e s m args below meth c s₁ BL hml hv
  obtain ⟨rfl, hE⟩ := hv
  have hS : va_S NA s.heap s.heap [] := va_S.rf
  have hx := BL.exec
  have hb := BL.bytes
  have hr := BL.returns
  have hts := atoms_spec (ws := wsX8_bassPart) BL.pre
  have hown : s.vm.findClass RX8 = some m.cls := findClass_of_methodNamed BL.named
  have hlocks := BL.notSynchronized
  have hl := lv_entry ([.int x0, .int x1]) (n := 2) (Nat.le_of_ble_eq_true rfl)
  rw [lg_entry_eq]
  generalize (lg_sl ([.int x0, .int x1]) ++ List.replicate (2 - (lg_sl ([.int x0, .int x1])).length) Slot.unset).toArray = ls at hl ⊢
  have hl : lv_has ls 2 [(0, .int x0), (1, .int x1)] := hl
  unfold fX8_bassPart at hf
  refine lv_iload_n hx hb dX8_bassPart_0 rfl (lv_at hl 1 rfl) ?_
  by_cases c1 : x1 = (2 : Int32)
  · have hf := (if_pos c1).symm.trans hf
    refine lv_tableIn (tgt := 28) hx hb dX8_bassPart_1 (by rw [c1]; decide) (by rw [c1]; decide) (by rw [c1]; rfl) (by decide) ?_
    refine lv_iload_n hx hb dX8_bassPart_28 rfl (lv_at hl 0 rfl) ?_
    refine W.callR (r := (fX3_letter x0)) (W.runS (As := [.int x0]) (rest := []) ⟨hx, hb, hml, hown, hts⟩ (mX3_letter l x0 (fX3_letter x0) rfl) (va_cwS 1 hts gX8_bassPart_X3_letter rfl rfl rfl (by decide +kernel) ⟨Nat.le_of_ble_eq_true rfl, Nat.le_of_ble_eq_true rfl⟩) ⟨fun _ _ _ _ q => q, fun U hU hW => ⟨rfl, trivial⟩⟩ rfl rfl hl.1 rfl (lv_room (Nat.le_of_ble_eq_true rfl)) dX8_bassPart_29 ⟨Nat.zero_le _, Nat.zero_le _⟩) ?_
    refine W.eq (g2 := F0 m 32 ls [.int (fX3_letter x0)]) rfl ?_
    exact W.iret (v := (fX3_letter x0)) hx hb hr (fun t ht hW => ⟨congrArg (fun z => Outcome.returned (some (Value.int z))) (Option.some.inj hf), ht⟩) (fun _ h => nomatch h) dX8_bassPart_32
  have hf := (if_neg c1).symm.trans hf
  by_cases c2 : x1 = (3 : Int32)
  · have hf := (if_pos c2).symm.trans hf
    refine lv_tableIn (tgt := 33) hx hb dX8_bassPart_1 (by rw [c2]; decide) (by rw [c2]; decide) (by rw [c2]; rfl) (by decide) ?_
    refine lv_iload_n hx hb dX8_bassPart_33 rfl (lv_at hl 0 rfl) ?_
    refine W.callR (r := (fX3_signs x0)) (W.runS (As := [.int x0]) (rest := []) ⟨hx, hb, hml, hown, hts⟩ (mX3_signs l x0 (fX3_signs x0) rfl) (va_cwS 1 hts gX8_bassPart_X3_signs rfl rfl rfl (by decide +kernel) ⟨Nat.le_of_ble_eq_true rfl, Nat.le_of_ble_eq_true rfl⟩) ⟨fun _ _ _ _ q => q, fun U hU hW => ⟨rfl, trivial⟩⟩ rfl rfl hl.1 rfl (lv_room (Nat.le_of_ble_eq_true rfl)) dX8_bassPart_34 ⟨Nat.zero_le _, Nat.zero_le _⟩) ?_
    refine W.eq (g2 := F0 m 37 ls [.int (fX3_signs x0)]) rfl ?_
    exact W.iret (v := (fX3_signs x0)) hx hb hr (fun t ht hW => ⟨congrArg (fun z => Outcome.returned (some (Value.int z))) (Option.some.inj hf), ht⟩) (fun _ h => nomatch h) dX8_bassPart_37
  have hf := (if_neg c2).symm.trans hf
  by_cases c3 : x1 = (4 : Int32)
  · have hf := (if_pos c3).symm.trans hf
    refine lv_tableIn (tgt := 38) hx hb dX8_bassPart_1 (by rw [c3]; decide) (by rw [c3]; decide) (by rw [c3]; rfl) (by decide) ?_
    refine lv_iload_n hx hb dX8_bassPart_38 rfl (lv_at hl 0 rfl) ?_
    obtain ⟨r4, hc5, hf⟩ := of_bind_some hf
    refine W.callR (r := r4) (W.runS (As := [.int x0]) (rest := []) ⟨hx, hb, hml, hown, hts⟩ (mX3_pitch l en x0 r4 hc5) (va_cwS 1 hts gX8_bassPart_X3_pitch rfl rfl rfl (by decide +kernel) ⟨Nat.le_of_ble_eq_true rfl, Nat.le_of_ble_eq_true rfl⟩) ⟨blindS, fun U hU hW => ⟨rfl, cE_read hE hS hW hU⟩⟩ rfl rfl hl.1 rfl (lv_room (Nat.le_of_ble_eq_true rfl)) dX8_bassPart_39 ⟨Nat.zero_le _, Nat.zero_le _⟩) ?_
    refine W.eq (g2 := F0 m 42 ls [.int r4]) rfl ?_
    exact W.iret (v := r4) hx hb hr (fun t ht hW => ⟨congrArg (fun z => Outcome.returned (some (Value.int z))) (Option.some.inj hf), ht⟩) (fun _ h => nomatch h) dX8_bassPart_42
  have hf := (if_neg c3).symm.trans hf
  refine lv_tableOut (tgt := 43) hx hb dX8_bassPart_1 (by have := sw_ne (n := 2) (by decide) c1; have := sw_ne (n := 3) (by decide) c2; have := sw_ne (n := 4) (by decide) c3; omega) (by decide) ?_
  refine lv_iconst (v := (-1 : Int32)) hx hb dX8_bassPart_43 (by decide) ?_
  exact W.iret (v := (-1 : Int32)) hx hb hr (fun t ht hW => ⟨congrArg (fun z => Outcome.returned (some (Value.int z))) (Option.some.inj hf), ht⟩) (fun _ h => nomatch h) dX8_bassPart_44
def fX8_stepPart   (x0 : Int32) (x1 : Int32) (x2 : Int32) : Option Int32 :=
  (if x2 = (0 : Int32) then ((fX4_halfTones x1).bind fun r2 => (some r2)) else (if x2 = (1 : Int32) then ((fX4_degree x1).bind fun r5 => (some r5)) else (if x2 = (2 : Int32) then ((fX4_letter x0 x1).bind fun r8 => (some r8)) else (if x2 = (3 : Int32) then ((fX4_signs x0 x1).bind fun r11 => (some r11)) else (if x2 = (4 : Int32) then ((fX4_pitch x0 x1).bind fun r14 => (some r14)) else (some (-1 : Int32)))))))
set_option maxRecDepth 100000 in
set_option maxHeartbeats 4000000 in
theorem mX8_stepPart (l : Launch) (en : Nat → Nat) (x0 : Int32) (x1 : Int32) (x2 : Int32) (r : Int32) (hf : fX8_stepPart x0 x1 x2 = some r) : Met l yX8_stepPart wsX8_stepPart ({ frames := 5, cells := 0, slots := 0, locals := 106 }) (va_Pc [.int x0, .int x1, .int x2] (fun U => cE en NA U U.heap)) (QcRead r) 0 0 (fun _ => False) := by
  refine Met.ofW (cc := cX8_stepPart) (maxL := 3) (ret := (some .int)) (by decide) rfl ?_
  intro p e s m args below meth c s₁ BL hml hv
  obtain ⟨rfl, hE⟩ := hv
  have hS : va_S NA s.heap s.heap [] := va_S.rf
  have hx := BL.exec
  have hb := BL.bytes
  have hr := BL.returns
  have hts := atoms_spec (ws := wsX8_stepPart) BL.pre
  have hown : s.vm.findClass RX8 = some m.cls := findClass_of_methodNamed BL.named
  have hlocks := BL.notSynchronized
  have hl := lv_entry ([.int x0, .int x1, .int x2]) (n := 3) (Nat.le_of_ble_eq_true rfl)
  rw [lg_entry_eq]
  generalize (lg_sl ([.int x0, .int x1, .int x2]) ++ List.replicate (3 - (lg_sl ([.int x0, .int x1, .int x2])).length) Slot.unset).toArray = ls at hl ⊢
  have hl : lv_has ls 3 [(0, .int x0), (1, .int x1), (2, .int x2)] := hl
  unfold fX8_stepPart at hf
  refine lv_iload_n hx hb dX8_stepPart_0 rfl (lv_at hl 2 rfl) ?_
  by_cases c1 : x2 = (0 : Int32)
  · have hf := (if_pos c1).symm.trans hf
    refine lv_tableIn (tgt := 36) hx hb dX8_stepPart_1 (by rw [c1]; decide) (by rw [c1]; decide) (by rw [c1]; rfl) (by decide) ?_
    refine lv_iload_n hx hb dX8_stepPart_36 rfl (lv_at hl 1 rfl) ?_
    obtain ⟨r2, hc3, hf⟩ := of_bind_some hf
    refine W.callR (r := r2) (W.runS (As := [.int x1]) (rest := []) ⟨hx, hb, hml, hown, hts⟩ (mX4_halfTones l en x1 r2 hc3) (va_cwS 1 hts gX8_stepPart_X4_halfTones rfl rfl rfl (by decide +kernel) ⟨Nat.le_of_ble_eq_true rfl, Nat.le_of_ble_eq_true rfl⟩) ⟨blindS, fun U hU hW => ⟨rfl, cE_read hE hS hW hU⟩⟩ rfl rfl hl.1 rfl (lv_room (Nat.le_of_ble_eq_true rfl)) dX8_stepPart_37 ⟨Nat.zero_le _, Nat.zero_le _⟩) ?_
    refine W.eq (g2 := F0 m 40 ls [.int r2]) rfl ?_
    exact W.iret (v := r2) hx hb hr (fun t ht hW => ⟨congrArg (fun z => Outcome.returned (some (Value.int z))) (Option.some.inj hf), ht⟩) (fun _ h => nomatch h) dX8_stepPart_40
  have hf := (if_neg c1).symm.trans hf
  by_cases c4 : x2 = (1 : Int32)
  · have hf := (if_pos c4).symm.trans hf
    refine lv_tableIn (tgt := 41) hx hb dX8_stepPart_1 (by rw [c4]; decide) (by rw [c4]; decide) (by rw [c4]; rfl) (by decide) ?_
    refine lv_iload_n hx hb dX8_stepPart_41 rfl (lv_at hl 1 rfl) ?_
    obtain ⟨r5, hc6, hf⟩ := of_bind_some hf
    refine W.callR (r := r5) (W.runS (As := [.int x1]) (rest := []) ⟨hx, hb, hml, hown, hts⟩ (mX4_degree l en x1 r5 hc6) (va_cwS 1 hts gX8_stepPart_X4_degree rfl rfl rfl (by decide +kernel) ⟨Nat.le_of_ble_eq_true rfl, Nat.le_of_ble_eq_true rfl⟩) ⟨blindS, fun U hU hW => ⟨rfl, cE_read hE hS hW hU⟩⟩ rfl rfl hl.1 rfl (lv_room (Nat.le_of_ble_eq_true rfl)) dX8_stepPart_42 ⟨Nat.zero_le _, Nat.zero_le _⟩) ?_
    refine W.eq (g2 := F0 m 45 ls [.int r5]) rfl ?_
    exact W.iret (v := r5) hx hb hr (fun t ht hW => ⟨congrArg (fun z => Outcome.returned (some (Value.int z))) (Option.some.inj hf), ht⟩) (fun _ h => nomatch h) dX8_stepPart_45
  have hf := (if_neg c4).symm.trans hf
  by_cases c7 : x2 = (2 : Int32)
  · have hf := (if_pos c7).symm.trans hf
    refine lv_tableIn (tgt := 46) hx hb dX8_stepPart_1 (by rw [c7]; decide) (by rw [c7]; decide) (by rw [c7]; rfl) (by decide) ?_
    refine lv_iload_n hx hb dX8_stepPart_46 rfl (lv_at hl 0 rfl) ?_
    refine lv_iload_n hx hb dX8_stepPart_47 rfl (lv_at hl 1 rfl) ?_
    obtain ⟨r8, hc9, hf⟩ := of_bind_some hf
    refine W.callR (r := r8) (W.runS (As := [.int x0, .int x1]) (rest := []) ⟨hx, hb, hml, hown, hts⟩ (mX4_letter l en x0 x1 r8 hc9) (va_cwS 2 hts gX8_stepPart_X4_letter rfl rfl rfl (by decide +kernel) ⟨Nat.le_of_ble_eq_true rfl, Nat.le_of_ble_eq_true rfl⟩) ⟨blindS, fun U hU hW => ⟨rfl, cE_read hE hS hW hU⟩⟩ rfl rfl hl.1 rfl (lv_room (Nat.le_of_ble_eq_true rfl)) dX8_stepPart_48 ⟨Nat.zero_le _, Nat.zero_le _⟩) ?_
    refine W.eq (g2 := F0 m 51 ls [.int r8]) rfl ?_
    exact W.iret (v := r8) hx hb hr (fun t ht hW => ⟨congrArg (fun z => Outcome.returned (some (Value.int z))) (Option.some.inj hf), ht⟩) (fun _ h => nomatch h) dX8_stepPart_51
  have hf := (if_neg c7).symm.trans hf
  by_cases c10 : x2 = (3 : Int32)
  · have hf := (if_pos c10).symm.trans hf
    refine lv_tableIn (tgt := 52) hx hb dX8_stepPart_1 (by rw [c10]; decide) (by rw [c10]; decide) (by rw [c10]; rfl) (by decide) ?_
    refine lv_iload_n hx hb dX8_stepPart_52 rfl (lv_at hl 0 rfl) ?_
    refine lv_iload_n hx hb dX8_stepPart_53 rfl (lv_at hl 1 rfl) ?_
    obtain ⟨r11, hc12, hf⟩ := of_bind_some hf
    refine W.callR (r := r11) (W.runS (As := [.int x0, .int x1]) (rest := []) ⟨hx, hb, hml, hown, hts⟩ (mX4_signs l en x0 x1 r11 hc12) (va_cwS 2 hts gX8_stepPart_X4_signs rfl rfl rfl (by decide +kernel) ⟨Nat.le_of_ble_eq_true rfl, Nat.le_of_ble_eq_true rfl⟩) ⟨blindS, fun U hU hW => ⟨rfl, cE_read hE hS hW hU⟩⟩ rfl rfl hl.1 rfl (lv_room (Nat.le_of_ble_eq_true rfl)) dX8_stepPart_54 ⟨Nat.zero_le _, Nat.zero_le _⟩) ?_
    refine W.eq (g2 := F0 m 57 ls [.int r11]) rfl ?_
    exact W.iret (v := r11) hx hb hr (fun t ht hW => ⟨congrArg (fun z => Outcome.returned (some (Value.int z))) (Option.some.inj hf), ht⟩) (fun _ h => nomatch h) dX8_stepPart_57
  have hf := (if_neg c10).symm.trans hf
  by_cases c13 : x2 = (4 : Int32)
  · have hf := (if_pos c13).symm.trans hf
    refine lv_tableIn (tgt := 58) hx hb dX8_stepPart_1 (by rw [c13]; decide) (by rw [c13]; decide) (by rw [c13]; rfl) (by decide) ?_
    refine lv_iload_n hx hb dX8_stepPart_58 rfl (lv_at hl 0 rfl) ?_
    refine lv_iload_n hx hb dX8_stepPart_59 rfl (lv_at hl 1 rfl) ?_
    obtain ⟨r14, hc15, hf⟩ := of_bind_some hf
    refine W.callR (r := r14) (W.runS (As := [.int x0, .int x1]) (rest := []) ⟨hx, hb, hml, hown, hts⟩ (mX4_pitch l en x0 x1 r14 hc15) (va_cwS 2 hts gX8_stepPart_X4_pitch rfl rfl rfl (by decide +kernel) ⟨Nat.le_of_ble_eq_true rfl, Nat.le_of_ble_eq_true rfl⟩) ⟨blindS, fun U hU hW => ⟨rfl, cE_read hE hS hW hU⟩⟩ rfl rfl hl.1 rfl (lv_room (Nat.le_of_ble_eq_true rfl)) dX8_stepPart_60 ⟨Nat.zero_le _, Nat.zero_le _⟩) ?_
    refine W.eq (g2 := F0 m 63 ls [.int r14]) rfl ?_
    exact W.iret (v := r14) hx hb hr (fun t ht hW => ⟨congrArg (fun z => Outcome.returned (some (Value.int z))) (Option.some.inj hf), ht⟩) (fun _ h => nomatch h) dX8_stepPart_63
  have hf := (if_neg c13).symm.trans hf
  refine lv_tableOut (tgt := 64) hx hb dX8_stepPart_1 (by have := sw_ne (n := 0) (by decide) c1; have := sw_ne (n := 1) (by decide) c4; have := sw_ne (n := 2) (by decide) c7; have := sw_ne (n := 3) (by decide) c10; have := sw_ne (n := 4) (by decide) c13; omega) (by decide) ?_
  refine lv_iconst (v := (-1 : Int32)) hx hb dX8_stepPart_64 (by decide) ?_
  exact W.iret (v := (-1 : Int32)) hx hb hr (fun t ht hW => ⟨congrArg (fun z => Outcome.returned (some (Value.int z))) (Option.some.inj hf), ht⟩) (fun _ h => nomatch h) dX8_stepPart_65
