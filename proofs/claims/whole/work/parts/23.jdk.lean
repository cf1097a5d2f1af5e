/-! the JDK over texts -/
set_option maxRecDepth 100000 in
theorem mJ0_coder (l : Launch) (en : Nat → Nat) (i : Nat) (hi : i < 10) : Met l yJ0_coder_7d493 wsJ0_coder_7d493 ({ frames := 0, cells := 0, slots := 0, locals := 0 }) (va_Pc [.ref (en (100 + i))] (fun U => cE en NA U U.heap)) (QcRead 0) 0 0 (fun _ => False) := by
  first | refine Met.ofW (cc := cJ0_coder_7d493) (maxL := 1) (ret := (some .byte)) (by decide) rfl ?_ | refine va_MetF (cc := cJ0_coder_7d493) (maxL := 1) (ret := (some .byte)) (by decide +kernel) rfl ?_
  intro p e s m args below meth c s₁ BL hml hv
  obtain ⟨rfl, hE⟩ := hv
  have hx := BL.exec
  have hb := BL.bytes
  have hr := BL.returns
  have hts := atoms_spec (ws := wsJ0_coder_7d493) BL.pre
  have hown : s.vm.findClass RJ0 = some m.cls := findClass_of_methodNamed BL.named
  have hlocks := BL.notSynchronized
  have hS : va_S NA s.heap s.heap [] := va_S.rf
  have hl := lv_entry ([.ref (en (100 + i))]) (n := 1) (Nat.le_of_ble_eq_true rfl)
  rw [lg_entry_eq]
  generalize (lg_sl ([.ref (en (100 + i))]) ++ List.replicate (1 - (lg_sl ([.ref (en (100 + i))])).length) Slot.unset).toArray = ls at hl ⊢
  have hl : lv_has ls 1 [(0, .ref (en (100 + i)))] := hl
  refine va_gets hx hb hE.2.2.1 hS hown (hts (.fieldLink RJ0 38 "java/lang/String" "COMPACT_STRINGS" "Z") (by decide +kernel)) (fun _ h9 => h9) dJ0_coder_7d493_0 ?_
  refine lv_if_eq (tgt := 13) hx hb dJ0_coder_7d493_3 (by decide) (fun c1 => absurd c1 (by decide)) (fun c1 => ?_)
  refine lv_aload_n hx hb dJ0_coder_7d493_6 rfl (lv_at hl 0 rfl) ?_
  refine vk_getf hx hb (hE.2.1 i hi).1.2.1 hS hown (hts (.fieldLink RJ0 15 "java/lang/String" "coder" "B") (by decide +kernel)) (fun _ h9 => h9) dJ0_coder_7d493_7 ?_
  refine lv_goto (tgt := 14) hx hb dJ0_coder_7d493_10 (by decide) ?_
  exact W.zret (v := (0 : Int32)) hx hb hr rfl (fun t ht hW => ⟨rfl, ht⟩) (fun _ h => nomatch h) dJ0_coder_7d493_14
set_option maxRecDepth 100000 in
theorem mJ0_isLatin1 (l : Launch) (en : Nat → Nat) (i : Nat) (hi : i < 10) : Met l yJ0_isLatin1_aae02 wsJ0_isLatin1_aae02 ({ frames := 0, cells := 0, slots := 0, locals := 0 }) (va_Pc [.ref (en (100 + i))] (fun U => cE en NA U U.heap)) (QcRead 1) 0 0 (fun _ => False) := by
  first | refine Met.ofW (cc := cJ0_isLatin1_aae02) (maxL := 1) (ret := (some .boolean)) (by decide) rfl ?_ | refine va_MetF (cc := cJ0_isLatin1_aae02) (maxL := 1) (ret := (some .boolean)) (by decide +kernel) rfl ?_
  intro p e s m args below meth c s₁ BL hml hv
  obtain ⟨rfl, hE⟩ := hv
  have hx := BL.exec
  have hb := BL.bytes
  have hr := BL.returns
  have hts := atoms_spec (ws := wsJ0_isLatin1_aae02) BL.pre
  have hown : s.vm.findClass RJ0 = some m.cls := findClass_of_methodNamed BL.named
  have hlocks := BL.notSynchronized
  have hS : va_S NA s.heap s.heap [] := va_S.rf
  have hl := lv_entry ([.ref (en (100 + i))]) (n := 1) (Nat.le_of_ble_eq_true rfl)
  rw [lg_entry_eq]
  generalize (lg_sl ([.ref (en (100 + i))]) ++ List.replicate (1 - (lg_sl ([.ref (en (100 + i))])).length) Slot.unset).toArray = ls at hl ⊢
  have hl : lv_has ls 1 [(0, .ref (en (100 + i)))] := hl
  refine va_gets hx hb hE.2.2.1 hS hown (hts (.fieldLink RJ0 38 "java/lang/String" "COMPACT_STRINGS" "Z") (by decide +kernel)) (fun _ h9 => h9) dJ0_isLatin1_aae02_0 ?_
  refine lv_if_eq (tgt := 17) hx hb dJ0_isLatin1_aae02_3 (by decide) (fun c1 => absurd c1 (by decide)) (fun c1 => ?_)
  refine lv_aload_n hx hb dJ0_isLatin1_aae02_6 rfl (lv_at hl 0 rfl) ?_
  refine vk_getf hx hb (hE.2.1 i hi).1.2.1 hS hown (hts (.fieldLink RJ0 15 "java/lang/String" "coder" "B") (by decide +kernel)) (fun _ h9 => h9) dJ0_isLatin1_aae02_7 ?_
  refine lv_if_ne (tgt := 17) hx hb dJ0_isLatin1_aae02_10 (by decide) (fun c2 => absurd rfl c2) (fun c2 => ?_)
  refine lv_iconst (v := (1 : Int32)) hx hb dJ0_isLatin1_aae02_13 (by decide) ?_
  refine lv_goto (tgt := 18) hx hb dJ0_isLatin1_aae02_14 (by decide) ?_
  exact W.zret (v := (1 : Int32)) hx hb hr rfl (fun t ht hW => ⟨rfl, ht⟩) (fun _ h => nomatch h) dJ0_isLatin1_aae02_18
theorem shr0 (x : Int32) : x >>> ((0 : Int32) &&& 31) = x := sb_shr0 x
set_option maxRecDepth 100000 in
theorem mJ0_length (l : Launch) (en : Nat → Nat) (i : Nat) (hi : i < 10) : Met l yJ0_length_8abf5 wsJ0_length_8abf5 ({ frames := 1, cells := 0, slots := 0, locals := 20 }) (va_Pc [.ref (en (100 + i))] (fun U => cE en NA U U.heap)) (QcRead (Int32.ofNat (jN i))) 0 0 (fun _ => False) := by
  first | refine Met.ofW (cc := cJ0_length_8abf5) (maxL := 1) (ret := (some .int)) (by decide) rfl ?_ | refine va_MetF (cc := cJ0_length_8abf5) (maxL := 1) (ret := (some .int)) (by decide +kernel) rfl ?_
  intro p e s m args below meth c s₁ BL hml hv
  obtain ⟨rfl, hE⟩ := hv
  have hx := BL.exec
  have hb := BL.bytes
  have hr := BL.returns
  have hts := atoms_spec (ws := wsJ0_length_8abf5) BL.pre
  have hown : s.vm.findClass RJ0 = some m.cls := findClass_of_methodNamed BL.named
  have hlocks := BL.notSynchronized
  have hS : va_S NA s.heap s.heap [] := va_S.rf
  have hl := lv_entry ([.ref (en (100 + i))]) (n := 1) (Nat.le_of_ble_eq_true rfl)
  rw [lg_entry_eq]
  generalize (lg_sl ([.ref (en (100 + i))]) ++ List.replicate (1 - (lg_sl ([.ref (en (100 + i))])).length) Slot.unset).toArray = ls at hl ⊢
  have hl : lv_has ls 1 [(0, .ref (en (100 + i)))] := hl
  refine lv_aload_n hx hb dJ0_length_8abf5_0 rfl (lv_at hl 0 rfl) ?_
  refine vk_getf hx hb (hE.2.1 i hi).1.2.2.1 hS hown (hts (.fieldLink RJ0 9 "java/lang/String" "value" "[B") (by decide +kernel)) (fun _ h9 => h9) dJ0_length_8abf5_1 ?_
  refine va_tlen hx hb (hE.2.1 i hi).1.2.2.2 hS (v := Int32.ofNat (jN i)) rfl dJ0_length_8abf5_4 ?_
  refine lv_aload_n hx hb dJ0_length_8abf5_5 rfl (lv_at hl 0 rfl) ?_
  refine W.callR (r := 0) (W.runV (As := []) (rest := [.int (Int32.ofNat (jN i))]) ⟨hx, hb, hml, hown, hts⟩ (mJ0_coder l en i hi) (cwV 0 hts gJ0_length_8abf5_J0_coder_7d493 rfl rfl rfl (by decide +kernel) ⟨Nat.le_of_ble_eq_true rfl, Nat.le_of_ble_eq_true rfl⟩) ⟨blindS, cE_recv hE hS i hi, fun U hU hW => ⟨rfl, cE_read hE hS hW hU⟩⟩ rfl rfl hl.1 rfl (lv_room (Nat.le_of_ble_eq_true rfl)) dJ0_length_8abf5_6 ⟨Nat.zero_le _, Nat.zero_le _⟩) ?_
  refine W.eq (g2 := F0 m 9 ls [.int 0, .int (Int32.ofNat (jN i))]) rfl ?_
  refine lv_ishr hx hb dJ0_length_8abf5_9 ?_
  exact W.iret (v := (Int32.ofNat (jN i)) >>> ((0 : Int32) &&& 31)) hx hb hr (fun t ht hW => ⟨by rw [shr0], ht⟩) (fun _ h => nomatch h) dJ0_length_8abf5_10
set_option maxRecDepth 100000 in
theorem mJ3_checkIndex_n (l : Launch) (x0 x1 : Int32) (h1 : ¬ x0 < 0) (h2 : x0 < x1) : Met l yJ3_checkIndex_8e157 wsJ3_checkIndex_8e157 ({ frames := 0, cells := 0, slots := 0, locals := 0 }) (va_Pc [.int x0, .int x1, .null] (fun _ => True)) (QcRead x0) 0 0 (fun _ => False) := by
  first | refine Met.ofW (cc := cJ3_checkIndex_8e157) (maxL := 3) (ret := (some .int)) (by decide) rfl ?_ | refine va_MetF (cc := cJ3_checkIndex_8e157) (maxL := 3) (ret := (some .int)) (by decide +kernel) rfl ?_
  intro p e s m args below meth c s₁ BL hml hv
  obtain ⟨rfl, -⟩ := hv
  have hx := BL.exec
  have hb := BL.bytes
  have hr := BL.returns
  have hts := atoms_spec (ws := wsJ3_checkIndex_8e157) BL.pre
  have hown : s.vm.findClass RJ3 = some m.cls := findClass_of_methodNamed BL.named
  have hlocks := BL.notSynchronized
  have hS : va_S NA s.heap s.heap [] := va_S.rf
  have hl := lv_entry ([.int x0, .int x1, .null]) (n := 3) (Nat.le_of_ble_eq_true rfl)
  rw [lg_entry_eq]
  generalize (lg_sl ([.int x0, .int x1, .null]) ++ List.replicate (3 - (lg_sl ([.int x0, .int x1, .null])).length) Slot.unset).toArray = ls at hl ⊢
  have hl : lv_has ls 3 [(0, .int x0), (1, .int x1), (2, .null)] := hl
  refine lv_iload_n hx hb dJ3_checkIndex_8e157_0 rfl (lv_at hl 0 rfl) ?_
  refine lv_if_lt (tgt := 9) hx hb dJ3_checkIndex_8e157_1 (by decide) (fun c1 => absurd c1 h1) (fun c1 => ?_)
  refine lv_iload_n hx hb dJ3_checkIndex_8e157_4 rfl (lv_at hl 0 rfl) ?_
  refine lv_iload_n hx hb dJ3_checkIndex_8e157_5 rfl (lv_at hl 1 rfl) ?_
  refine lv_icmp_lt (tgt := 16) hx hb dJ3_checkIndex_8e157_6 (by decide) (fun c2 => ?_) (fun c2 => absurd h2 c2)
  refine lv_iload_n hx hb dJ3_checkIndex_8e157_16 rfl (lv_at hl 0 rfl) ?_
  exact W.iret (v := x0) hx hb hr (fun t ht hW => ⟨rfl, ht⟩) (fun _ h => nomatch h) dJ3_checkIndex_8e157_17
set_option maxRecDepth 100000 in
theorem mJ3_checkIndex_r (l : Launch) (q : Nat) (x0 x1 : Int32) (h1 : ¬ x0 < 0) (h2 : x0 < x1) : Met l yJ3_checkIndex_8e157 wsJ3_checkIndex_8e157 ({ frames := 0, cells := 0, slots := 0, locals := 0 }) (va_Pc [.int x0, .int x1, .ref q] (fun _ => True)) (QcRead x0) 0 0 (fun _ => False) := by
  first | refine Met.ofW (cc := cJ3_checkIndex_8e157) (maxL := 3) (ret := (some .int)) (by decide) rfl ?_ | refine va_MetF (cc := cJ3_checkIndex_8e157) (maxL := 3) (ret := (some .int)) (by decide +kernel) rfl ?_
  intro p e s m args below meth c s₁ BL hml hv
  obtain ⟨rfl, -⟩ := hv
  have hx := BL.exec
  have hb := BL.bytes
  have hr := BL.returns
  have hts := atoms_spec (ws := wsJ3_checkIndex_8e157) BL.pre
  have hown : s.vm.findClass RJ3 = some m.cls := findClass_of_methodNamed BL.named
  have hlocks := BL.notSynchronized
  have hS : va_S NA s.heap s.heap [] := va_S.rf
  have hl := lv_entry ([.int x0, .int x1, .ref q]) (n := 3) (Nat.le_of_ble_eq_true rfl)
  rw [lg_entry_eq]
  generalize (lg_sl ([.int x0, .int x1, .ref q]) ++ List.replicate (3 - (lg_sl ([.int x0, .int x1, .ref q])).length) Slot.unset).toArray = ls at hl ⊢
  have hl : lv_has ls 3 [(0, .int x0), (1, .int x1), (2, .ref q)] := hl
  refine lv_iload_n hx hb dJ3_checkIndex_8e157_0 rfl (lv_at hl 0 rfl) ?_
  refine lv_if_lt (tgt := 9) hx hb dJ3_checkIndex_8e157_1 (by decide) (fun c1 => absurd c1 h1) (fun c1 => ?_)
  refine lv_iload_n hx hb dJ3_checkIndex_8e157_4 rfl (lv_at hl 0 rfl) ?_
  refine lv_iload_n hx hb dJ3_checkIndex_8e157_5 rfl (lv_at hl 1 rfl) ?_
  refine lv_icmp_lt (tgt := 16) hx hb dJ3_checkIndex_8e157_6 (by decide) (fun c2 => ?_) (fun c2 => absurd h2 c2)
  refine lv_iload_n hx hb dJ3_checkIndex_8e157_16 rfl (lv_at hl 0 rfl) ?_
  exact W.iret (v := x0) hx hb hr (fun t ht hW => ⟨rfl, ht⟩) (fun _ h => nomatch h) dJ3_checkIndex_8e157_17
set_option maxRecDepth 100000 in
theorem mJ0_checkIndex (l : Launch) (en : Nat → Nat) (x0 x1 : Int32) (h1 : ¬ x0 < 0) (h2 : x0 < x1) : Met l yJ0_checkIndex_df160 wsJ0_checkIndex_df160 ({ frames := 1, cells := 0, slots := 0, locals := 22 }) (va_Pc [.int x0, .int x1] (fun U => cE en NA U U.heap)) (va_Sv (fun _ => True)) 0 0 (fun _ => False) := by
  first | refine Met.ofW (cc := cJ0_checkIndex_df160) (maxL := 2) (ret := none) (by decide) rfl ?_ | refine va_MetF (cc := cJ0_checkIndex_df160) (maxL := 2) (ret := none) (by decide +kernel) rfl ?_
  intro p e s m args below meth c s₁ BL hml hv
  obtain ⟨rfl, hE⟩ := hv
  have hx := BL.exec
  have hb := BL.bytes
  have hr := BL.returns
  have hts := atoms_spec (ws := wsJ0_checkIndex_df160) BL.pre
  have hown : s.vm.findClass RJ0 = some m.cls := findClass_of_methodNamed BL.named
  have hlocks := BL.notSynchronized
  have hS : va_S NA s.heap s.heap [] := va_S.rf
  have hl := lv_entry ([.int x0, .int x1]) (n := 2) (Nat.le_of_ble_eq_true rfl)
  rw [lg_entry_eq]
  generalize (lg_sl ([.int x0, .int x1]) ++ List.replicate (2 - (lg_sl ([.int x0, .int x1])).length) Slot.unset).toArray = ls at hl ⊢
  have hl : lv_has ls 2 [(0, .int x0), (1, .int x1)] := hl
  obtain ⟨v, hZ⟩ := hE.2.2.2.1
  refine lv_iload_n hx hb dJ0_checkIndex_df160_0 rfl (lv_at hl 0 rfl) ?_
  refine lv_iload_n hx hb dJ0_checkIndex_df160_1 rfl (lv_at hl 1 rfl) ?_
  refine va_gets hx hb hZ hS hown (hts (.fieldLink RJ0 1053 "jdk/internal/util/Preconditions" "SIOOBE_FORMATTER" "Ljava/util/function/BiFunction;") (by decide +kernel)) (fun _ h9 => h9) dJ0_checkIndex_df160_2 ?_
  have hcall : W p l e (headSpec wsJ0_checkIndex_df160 ({ frames := 1, cells := 0, slots := 0, locals := 22 })).room s m (([.int x0, .int x1] : List Value).toArray) below meth c s.heap [] 0 0 (MQ below (va_Sv (fun _ => True)) (([.int x0, .int x1] : List Value).toArray) s 0 0 (fun _ => False)) (F0 m 5 ls [va_rf v, .int x1, .int x0]) := by
    have fin : W p l e (headSpec wsJ0_checkIndex_df160 ({ frames := 1, cells := 0, slots := 0, locals := 22 })).room s m (([.int x0, .int x1] : List Value).toArray) below meth c s.heap [] 0 0 (MQ below (va_Sv (fun _ => True)) (([.int x0, .int x1] : List Value).toArray) s 0 0 (fun _ => False)) (F0 m 8 ls [.int x0]) := by
      refine lv_pop hx hb dJ0_checkIndex_df160_8 rfl ?_
      exact W.vret hx hb hr (fun t ht hW => ⟨rfl, trivial, ht⟩) (fun _ h => nomatch h) dJ0_checkIndex_df160_9
    cases v with
    | none =>
      refine W.callR (r := x0) (W.runS (As := [.int x0, .int x1, .null]) (rest := []) ⟨hx, hb, hml, hown, hts⟩ (mJ3_checkIndex_n l x0 x1 h1 h2) (va_cwS 3 hts gJ0_checkIndex_df160_J3_checkIndex_8e157 rfl rfl rfl (by decide +kernel) ⟨Nat.le_of_ble_eq_true rfl, Nat.le_of_ble_eq_true rfl⟩) ⟨fun _ _ _ _ q => q, fun U hU hW => ⟨rfl, trivial⟩⟩ rfl rfl hl.1 rfl (lv_room (Nat.le_of_ble_eq_true rfl)) dJ0_checkIndex_df160_5 ⟨Nat.zero_le _, Nat.zero_le _⟩) ?_
      exact fin
    | some q =>
      refine W.callR (r := x0) (W.runS (As := [.int x0, .int x1, .ref q]) (rest := []) ⟨hx, hb, hml, hown, hts⟩ (mJ3_checkIndex_r l q x0 x1 h1 h2) (va_cwS 3 hts gJ0_checkIndex_df160_J3_checkIndex_8e157 rfl rfl rfl (by decide +kernel) ⟨Nat.le_of_ble_eq_true rfl, Nat.le_of_ble_eq_true rfl⟩) ⟨fun _ _ _ _ q => q, fun U hU hW => ⟨rfl, trivial⟩⟩ rfl rfl hl.1 rfl (lv_room (Nat.le_of_ble_eq_true rfl)) dJ0_checkIndex_df160_5 ⟨Nat.zero_le _, Nat.zero_le _⟩) ?_
      exact fin
  exact hcall
theorem jN_small : ∀ i, i < 10 → jN i < 100 := by decide +kernel
theorem gd_lt {x : Int32} {n : Nat} (h : gd x n) (hn : n < 2 ^ 31) : x < Int32.ofNat n := by
  have h1 : ¬ x < 0 := fun q => h (Or.inl q)
  have h2 : ¬ n ≤ x.toNatClampNeg := fun q => h (Or.inr q)
  rw [Int32.lt_iff_toInt_lt] at h1 ⊢
  have e0 : (0 : Int32).toInt = 0 := by decide
  rw [e0] at h1
  have e1 : (Int32.ofNat n).toInt = (n : Int) := Int32.toInt_ofNat_of_lt hn
  have e2 : x.toNatClampNeg = x.toInt.toNat := rfl
  omega
set_option maxRecDepth 100000 in
theorem mJ1_charAt (l : Launch) (en : Nat → Nat) (i : Nat) (hi : i < 10) (x1 : Int32) (hg : gd x1 (jN i)) : Met l yJ1_charAt_3b067 wsJ1_charAt_3b067 ({ frames := 2, cells := 0, slots := 0, locals := 43 }) (va_Pc [.ref (en (200 + i)), .int x1] (fun U => cE en NA U U.heap)) (QcRead (jC i x1.toNatClampNeg)) 0 0 (fun _ => False) := by
  first | refine Met.ofW (cc := cJ1_charAt_3b067) (maxL := 2) (ret := (some .char)) (by decide) rfl ?_ | refine va_MetF (cc := cJ1_charAt_3b067) (maxL := 2) (ret := (some .char)) (by decide +kernel) rfl ?_
  intro p e s m args below meth c s₁ BL hml hv
  obtain ⟨rfl, hE⟩ := hv
  have hx := BL.exec
  have hb := BL.bytes
  have hr := BL.returns
  have hts := atoms_spec (ws := wsJ1_charAt_3b067) BL.pre
  have hown : s.vm.findClass RJ1 = some m.cls := findClass_of_methodNamed BL.named
  have hlocks := BL.notSynchronized
  have hS : va_S NA s.heap s.heap [] := va_S.rf
  have hl := lv_entry ([.ref (en (200 + i)), .int x1]) (n := 2) (Nat.le_of_ble_eq_true rfl)
  rw [lg_entry_eq]
  generalize (lg_sl ([.ref (en (200 + i)), .int x1]) ++ List.replicate (2 - (lg_sl ([.ref (en (200 + i)), .int x1])).length) Slot.unset).toArray = ls at hl ⊢
  have hl : lv_has ls 2 [(0, .ref (en (200 + i))), (1, .int x1)] := hl
  have hlt : x1 < Int32.ofNat (jN i) := gd_lt hg (Nat.lt_of_lt_of_le (jN_small i hi) (by decide))
  refine lv_iload_n hx hb dJ1_charAt_3b067_0 rfl (lv_at hl 1 rfl) ?_
  refine lv_aload_n hx hb dJ1_charAt_3b067_1 rfl (lv_at hl 0 rfl) ?_
  refine va_tlen hx hb (hE.2.1 i hi).1.2.2.2 hS (v := Int32.ofNat (jN i)) rfl dJ1_charAt_3b067_2 ?_
  refine va_csv (W.runS (As := [.int x1, .int (Int32.ofNat (jN i))]) (rest := []) ⟨hx, hb, hml, hown, hts⟩ (mJ0_checkIndex l en x1 (Int32.ofNat (jN i)) (fun q => hg (Or.inl q)) hlt) (va_cwS 2 hts gJ1_charAt_3b067_J0_checkIndex_df160 rfl rfl rfl (by decide +kernel) ⟨Nat.le_of_ble_eq_true rfl, Nat.le_of_ble_eq_true rfl⟩) ⟨blindS, fun U hU hW => ⟨rfl, cE_read hE hS hW hU⟩⟩ rfl rfl hl.1 rfl (lv_room (Nat.le_of_ble_eq_true rfl)) dJ1_charAt_3b067_3 ⟨Nat.zero_le _, Nat.zero_le _⟩) (fun _ => ?_)
  refine lv_aload_n hx hb dJ1_charAt_3b067_6 rfl (lv_at hl 0 rfl) ?_
  refine lv_iload_n hx hb dJ1_charAt_3b067_7 rfl (lv_at hl 1 rfl) ?_
  refine va_tb hx hb (hE.2.1 i hi).1.2.2.2 hS hg (v := .int (jF i x1.toNatClampNeg)) rfl dJ1_charAt_3b067_8 ?_
  refine lv_sipush (v := (255 : Int32)) hx hb dJ1_charAt_3b067_9 (by decide) ?_
  refine lv_iand hx hb dJ1_charAt_3b067_12 ?_
  refine lv_i2c (v := jC i x1.toNatClampNeg) hx hb dJ1_charAt_3b067_13 rfl ?_
  exact W.zret (v := jC i x1.toNatClampNeg) hx hb hr (by unfold jC; rw [sc_c2]; exact sc_nar _) (fun t ht hW => ⟨rfl, ht⟩) (fun _ h => nomatch h) dJ1_charAt_3b067_14
set_option maxRecDepth 100000 in
theorem mJ0_charAt (l : Launch) (en : Nat → Nat) (i : Nat) (hi : i < 10) (x1 : Int32) (hg : gd x1 (jN i)) : Met l yJ0_charAt_5068e wsJ0_charAt_5068e ({ frames := 3, cells := 0, slots := 0, locals := 64 }) (va_Pc [.ref (en (100 + i)), .int x1] (fun U => cE en NA U U.heap)) (QcRead (jC i x1.toNatClampNeg)) 0 0 (fun _ => False) := by
  first | refine Met.ofW (cc := cJ0_charAt_5068e) (maxL := 2) (ret := (some .char)) (by decide) rfl ?_ | refine va_MetF (cc := cJ0_charAt_5068e) (maxL := 2) (ret := (some .char)) (by decide +kernel) rfl ?_
  intro p e s m args below meth c s₁ BL hml hv
  obtain ⟨rfl, hE⟩ := hv
  have hx := BL.exec
  have hb := BL.bytes
  have hr := BL.returns
  have hts := atoms_spec (ws := wsJ0_charAt_5068e) BL.pre
  have hown : s.vm.findClass RJ0 = some m.cls := findClass_of_methodNamed BL.named
  have hlocks := BL.notSynchronized
  have hS : va_S NA s.heap s.heap [] := va_S.rf
  have hl := lv_entry ([.ref (en (100 + i)), .int x1]) (n := 2) (Nat.le_of_ble_eq_true rfl)
  rw [lg_entry_eq]
  generalize (lg_sl ([.ref (en (100 + i)), .int x1]) ++ List.replicate (2 - (lg_sl ([.ref (en (100 + i)), .int x1])).length) Slot.unset).toArray = ls at hl ⊢
  have hl : lv_has ls 2 [(0, .ref (en (100 + i))), (1, .int x1)] := hl
  refine lv_aload_n hx hb dJ0_charAt_5068e_0 rfl (lv_at hl 0 rfl) ?_
  refine W.callR (r := 1) (W.runV (As := []) (rest := []) ⟨hx, hb, hml, hown, hts⟩ (mJ0_isLatin1 l en i hi) (cwV 0 hts gJ0_charAt_5068e_J0_isLatin1_aae02 rfl rfl rfl (by decide +kernel) ⟨Nat.le_of_ble_eq_true rfl, Nat.le_of_ble_eq_true rfl⟩) ⟨blindS, cE_recv hE hS i hi, fun U hU hW => ⟨rfl, cE_read hE hS hW hU⟩⟩ rfl rfl hl.1 rfl (lv_room (Nat.le_of_ble_eq_true rfl)) dJ0_charAt_5068e_1 ⟨Nat.zero_le _, Nat.zero_le _⟩) ?_
  refine W.eq (g2 := F0 m 4 ls [.int 1]) rfl ?_
  refine lv_if_eq (tgt := 16) hx hb dJ0_charAt_5068e_4 (by decide) (fun c1 => absurd c1 (by decide)) (fun c1 => ?_)
  refine lv_aload_n hx hb dJ0_charAt_5068e_7 rfl (lv_at hl 0 rfl) ?_
  refine vk_getf hx hb (hE.2.1 i hi).1.2.2.1 hS hown (hts (.fieldLink RJ0 9 "java/lang/String" "value" "[B") (by decide +kernel)) (fun _ h9 => h9) dJ0_charAt_5068e_8 ?_
  refine lv_iload_n hx hb dJ0_charAt_5068e_11 rfl (lv_at hl 1 rfl) ?_
  refine W.callR (r := jC i x1.toNatClampNeg) (W.runS (As := [.ref (en (200 + i)), .int x1]) (rest := []) ⟨hx, hb, hml, hown, hts⟩ (mJ1_charAt l en i hi x1 hg) (va_cwS 2 hts gJ0_charAt_5068e_J1_charAt_3b067 rfl rfl rfl (by decide +kernel) ⟨Nat.le_of_ble_eq_true rfl, Nat.le_of_ble_eq_true rfl⟩) ⟨blindS, fun U hU hW => ⟨rfl, cE_read hE hS hW hU⟩⟩ rfl rfl hl.1 rfl (lv_room (Nat.le_of_ble_eq_true rfl)) dJ0_charAt_5068e_12 ⟨Nat.zero_le _, Nat.zero_le _⟩) ?_
  refine W.eq (g2 := F0 m 15 ls [.int (jC i x1.toNatClampNeg)]) rfl ?_
  exact W.zret (v := jC i x1.toNatClampNeg) hx hb hr (by unfold jC; rw [sc_c2]; exact sc_nar _) (fun t ht hW => ⟨rfl, ht⟩) (fun _ h => nomatch h) dJ0_charAt_5068e_15
