def fX9_stands_28B (B : Nat → Nat → Int64) (I : Nat → Int32) (A : Nat → Nat → Int32)  (k28 : Int64 → Int32 → Int32 → Int32 → Option Int32)  (v1 : Int64) (v3 : Int32) (v4 : Int32) (v5 : Int32) : Option Int32 :=
  (if v3 ≤ v5 then (if v4 = 0 ∨ v4 = 1 then (some v4) else none) else (if v4 = 0 then (if v4 = 0 ∨ v4 = 1 then (some v4) else none) else (if gd ((I 23) + v5) 64 then ((fX9_byteOf v1 v5).bind fun r9 => (if ((A 21) ((I 23) + v5).toNatClampNeg) = r9 then (k28 v1 v3 (1 : Int32) (v5 + (1 : Int32))) else (k28 v1 v3 (0 : Int32) (v5 + (1 : Int32))))) else none)))
def fX9_stands_28 (B : Nat → Nat → Int64) (I : Nat → Int32) (A : Nat → Nat → Int32)  : Nat → (Int64 → Int32 → Int32 → Int32 → Option Int32)
  | 0 => fun _ _ _ _ => none
  | n + 1 => fX9_stands_28B B I A  (fX9_stands_28 B I A  n)
def fX9_stands (B : Nat → Nat → Int64) (I : Nat → Int32) (A : Nat → Nat → Int32)  (x1 : Int64) : Option Int32 :=
  ((fX9_lengthOf x1).bind fun r1 => (if (I 22) < ((I 23) + r1) then (fX9_stands_28 B I A  FU x1 r1 (0 : Int32) (0 : Int32)) else (fX9_stands_28 B I A  FU x1 r1 (1 : Int32) (0 : Int32))))
set_option maxRecDepth 100000 in
set_option maxHeartbeats 4000000 in
theorem mX9_stands (l : Launch) (dC : Nat → ClassId) (dI : Nat → Nat → Nat) (cI cB cJ : ClassId) (Q : Nat → Nat) (B : Nat → Nat → Int64) (I : Nat → Int32) (A : Nat → Nat → Int32)  (x1 : Int64) (r : Int32) (hf : fX9_stands B I A x1 = some r) : Met l yX9_stands wsX9_stands ({ frames := 2, cells := 0, slots := 0, locals := 44 }) (va_Pc [.ref (Q 100), .long x1] (fun U => va_P (dC, dI) vwCl (wM cI cB cJ Q B I A) U.heap ∧ va_K (dC, dI) vwCl (tM cI cB cJ) U)) (QcRead r) 0 0 (fun _ => False) := by
  refine Met.ofW (cc := cX9_stands) (maxL := 6) (ret := (some .boolean)) (by decide) rfl ?_
  intro p e s m args below meth c s₁ BL hml hv
  obtain ⟨rfl, hP, hK⟩ := hv
  have hx := BL.exec
  have hb := BL.bytes
  have hr := BL.returns
  have hts := atoms_spec (ws := wsX9_stands) BL.pre
  have hown : s.vm.findClass RX9 = some m.cls := findClass_of_methodNamed BL.named
  have hlocks := BL.notSynchronized
  have hinX9 : ∀ w ∈ u_ws RX9 TX9 36, w ∈ wsX9_stands := by decide +kernel
  have hk166 := hts (.fieldLink RX9 166 "LeadSheetsModel" "text" "[B") (by decide +kernel)
  have hk194 := hts (.fieldLink RX9 194 "LeadSheetsModel" "textSize" "I") (by decide +kernel)
  have hk202 := hts (.fieldLink RX9 202 "LeadSheetsModel" "p" "I") (by decide +kernel)
  have sg28 : ∀ n : Nat, ∀  (v1 : Int64) (v3 : Int32) (v4 : Int32) (v5 : Int32) (ls : Array Slot), fX9_stands_28 B I A  n  v1 v3 v4 v5 = some r → lv_has ls 6 [(0, .ref (Q 100)), (1, .long v1), (3, .int v3), (4, .int v4), (5, .int v5)] → W p l e (headSpec wsX9_stands ({ frames := 2, cells := 0, slots := 0, locals := 44 })).room s m (([.ref (Q 100), .long x1] : List Value).toArray) below meth c s.heap [] 0 0 (MQ below (QcRead r) (([.ref (Q 100), .long x1] : List Value).toArray) s 0 0 (fun _ => False)) (F0 m 28 ls []) := by
    intro n
    induction n with
    | zero => intro v1 v3 v4 v5 ls hf hl; exact of_none hf
    | succ n ih28 =>
      intro v1 v3 v4 v5 ls hf hl
      change fX9_stands_28B B I A  (fX9_stands_28 B I A  n) v1 v3 v4 v5 = _ at hf
      unfold fX9_stands_28B at hf
      refine lv_iload hx hb dX9_stands_28 (lv_at hl 4 rfl) ?_
      refine lv_iload_n hx hb dX9_stands_30 rfl (lv_at hl 2 rfl) ?_
      refine lv_icmp_ge (tgt := 73) hx hb dX9_stands_31 (by decide) (fun c4 => ?_) (fun c4 => ?_)
      · have hf := (if_pos c4).symm.trans hf
        refine lv_iload hx hb dX9_stands_73 (lv_at hl 3 rfl) ?_
        obtain ⟨z5, hf⟩ := of_ite_some hf
        exact W.zret (v := v4) hx hb hr (zn_of z5) (fun t ht hW => ⟨congrArg (fun z => Outcome.returned (some (Value.int z))) (Option.some.inj hf), ht⟩) (fun _ h => nomatch h) dX9_stands_75
      · have hf := (if_neg c4).symm.trans hf
        refine lv_iload hx hb dX9_stands_34 (lv_at hl 3 rfl) ?_
        refine lv_if_eq (tgt := 73) hx hb dX9_stands_36 (by decide) (fun c6 => ?_) (fun c6 => ?_)
        · have hf := (if_pos c6).symm.trans hf
          refine lv_iload hx hb dX9_stands_73 (lv_at hl 3 rfl) ?_
          obtain ⟨z7, hf⟩ := of_ite_some hf
          exact W.zret (v := v4) hx hb hr (zn_of z7) (fun t ht hW => ⟨congrArg (fun z => Outcome.returned (some (Value.int z))) (Option.some.inj hf), ht⟩) (fun _ h => nomatch h) dX9_stands_75
        · have hf := (if_neg c6).symm.trans hf
          refine lv_aload_n hx hb dX9_stands_39 rfl (lv_at hl 0 rfl) ?_
          refine va_get (D := (dC, dI)) (ci := 6) (v := .ref (Q 21)) (C := RX9) (T := TX9) (N := 36) hx hb hts hinX9 hown hK hP 0 rfl rfl 21 (by decide) hk166 (fun _ h9 => h9) rfl dX9_stands_40 ?_
          refine lv_aload_n hx hb dX9_stands_43 rfl (lv_at hl 0 rfl) ?_
          refine va_get (D := (dC, dI)) (ci := 6) (v := .int (I 23)) (C := RX9) (T := TX9) (N := 36) hx hb hts hinX9 hown hK hP 0 rfl rfl 23 (by decide) hk202 (fun _ h9 => h9) rfl dX9_stands_44 ?_
          refine lv_iload hx hb dX9_stands_47 (lv_at hl 4 rfl) ?_
          refine lv_iadd hx hb dX9_stands_49 ?_
          obtain ⟨g8, hf⟩ := of_ite_some hf
          refine va_bald hx hb hK hP 17 1 (n := 64) (f := (A 21)) rfl rfl g8 dX9_stands_50 ?_
          refine lv_lload_n hx hb dX9_stands_51 rfl (lv_at hl 1 rfl) ?_
          refine lv_iload hx hb dX9_stands_52 (lv_at hl 4 rfl) ?_
          obtain ⟨r9, hc10, hf⟩ := of_bind_some hf
          refine W.callR (r := r9) (W.runS (As := [.long v1, .int v5]) (rest := [.int ((A 21) ((I 23) + v5).toNatClampNeg)]) ⟨hx, hb, hml, hown, hts⟩ (mX9_byteOf l v1 v5 r9 hc10) (va_cwS 2 hts gX9_stands_X9_byteOf rfl rfl rfl (by decide +kernel) ⟨Nat.le_of_ble_eq_true rfl, Nat.le_of_ble_eq_true rfl⟩) ⟨fun _ _ _ _ q => q, fun U hU hW => ⟨rfl, trivial⟩⟩ rfl rfl hl.1 rfl (lv_room (Nat.le_of_ble_eq_true rfl)) dX9_stands_54 ⟨Nat.zero_le _, Nat.zero_le _⟩) ?_
          refine W.eq (g2 := F0 m 57 ls [.int r9, .int ((A 21) ((I 23) + v5).toNatClampNeg)]) rfl ?_
          refine lv_icmp_ne (tgt := 64) hx hb dX9_stands_57 (by decide) (fun c11 => ?_) (fun c11 => ?_)
          · have hf := (if_neg c11).symm.trans hf
            refine lv_iconst (v := (0 : Int32)) hx hb dX9_stands_64 (by decide) ?_
            refine lv_istore (lv' := [(4, .int (0 : Int32)), (0, .ref (Q 100)), (1, .long v1), (3, .int v3), (5, .int v5)]) hx hb dX9_stands_65 hl (by decide) rfl (fun ls hl => ?_)
            refine lv_iinc (v := (v5 + (1 : Int32))) (lv' := [(5, .int (v5 + (1 : Int32))), (4, .int (0 : Int32)), (0, .ref (Q 100)), (1, .long v1), (3, .int v3)]) hx hb dX9_stands_67 hl (k := 4) rfl rfl (by decide) rfl (fun ls hl => ?_)
            refine lv_goto (tgt := 28) hx hb dX9_stands_70 (by decide) ?_
            exact ih28 v1 v3 (0 : Int32) (v5 + (1 : Int32)) ls hf (lv_sub hl [2, 3, 4, 1, 0] rfl)
          · have hf := (if_pos c11).symm.trans hf
            refine lv_iconst (v := (1 : Int32)) hx hb dX9_stands_60 (by decide) ?_
            refine lv_goto (tgt := 65) hx hb dX9_stands_61 (by decide) ?_
            refine lv_istore (lv' := [(4, .int (1 : Int32)), (0, .ref (Q 100)), (1, .long v1), (3, .int v3), (5, .int v5)]) hx hb dX9_stands_65 hl (by decide) rfl (fun ls hl => ?_)
            refine lv_iinc (v := (v5 + (1 : Int32))) (lv' := [(5, .int (v5 + (1 : Int32))), (4, .int (1 : Int32)), (0, .ref (Q 100)), (1, .long v1), (3, .int v3)]) hx hb dX9_stands_67 hl (k := 4) rfl rfl (by decide) rfl (fun ls hl => ?_)
            refine lv_goto (tgt := 28) hx hb dX9_stands_70 (by decide) ?_
            exact ih28 v1 v3 (1 : Int32) (v5 + (1 : Int32)) ls hf (lv_sub hl [2, 3, 4, 1, 0] rfl)
  have hl := lv_entry ([.ref (Q 100), .long x1]) (n := 6) (Nat.le_of_ble_eq_true rfl)
  rw [lg_entry_eq]
  generalize (lg_sl ([.ref (Q 100), .long x1]) ++ List.replicate (6 - (lg_sl ([.ref (Q 100), .long x1])).length) Slot.unset).toArray = ls at hl ⊢
  have hl : lv_has ls 6 [(0, .ref (Q 100)), (1, .long x1)] := hl
  unfold fX9_stands at hf
  refine lv_lload_n hx hb dX9_stands_0 rfl (lv_at hl 1 rfl) ?_
  obtain ⟨r1, hc2, hf⟩ := of_bind_some hf
  refine W.callR (r := r1) (W.runS (As := [.long x1]) (rest := []) ⟨hx, hb, hml, hown, hts⟩ (mX9_lengthOf l x1 r1 hc2) (va_cwS 1 hts gX9_stands_X9_lengthOf rfl rfl rfl (by decide +kernel) ⟨Nat.le_of_ble_eq_true rfl, Nat.le_of_ble_eq_true rfl⟩) ⟨fun _ _ _ _ q => q, fun U hU hW => ⟨rfl, trivial⟩⟩ rfl rfl hl.1 rfl (lv_room (Nat.le_of_ble_eq_true rfl)) dX9_stands_1 ⟨Nat.zero_le _, Nat.zero_le _⟩) ?_
  refine W.eq (g2 := F0 m 4 ls [.int r1]) rfl ?_
  refine lv_istore_n (lv' := [(3, .int r1), (0, .ref (Q 100)), (1, .long x1)]) hx hb dX9_stands_4 rfl hl (by decide) rfl (fun ls hl => ?_)
  refine lv_aload_n hx hb dX9_stands_5 rfl (lv_at hl 1 rfl) ?_
  refine va_get (D := (dC, dI)) (ci := 6) (v := .int (I 23)) (C := RX9) (T := TX9) (N := 36) hx hb hts hinX9 hown hK hP 0 rfl rfl 23 (by decide) hk202 (fun _ h9 => h9) rfl dX9_stands_6 ?_
  refine lv_iload_n hx hb dX9_stands_9 rfl (lv_at hl 0 rfl) ?_
  refine lv_iadd hx hb dX9_stands_10 ?_
  refine lv_aload_n hx hb dX9_stands_11 rfl (lv_at hl 1 rfl) ?_
  refine va_get (D := (dC, dI)) (ci := 6) (v := .int (I 22)) (C := RX9) (T := TX9) (N := 36) hx hb hts hinX9 hown hK hP 0 rfl rfl 22 (by decide) hk194 (fun _ h9 => h9) rfl dX9_stands_12 ?_
  refine lv_icmp_gt (tgt := 22) hx hb dX9_stands_15 (by decide) (fun c3 => ?_) (fun c3 => ?_)
  · have hf := (if_pos c3).symm.trans hf
    refine lv_iconst (v := (0 : Int32)) hx hb dX9_stands_22 (by decide) ?_
    refine lv_istore (lv' := [(4, .int (0 : Int32)), (3, .int r1), (0, .ref (Q 100)), (1, .long x1)]) hx hb dX9_stands_23 hl (by decide) rfl (fun ls hl => ?_)
    refine lv_iconst (v := (0 : Int32)) hx hb dX9_stands_25 (by decide) ?_
    refine lv_istore (lv' := [(5, .int (0 : Int32)), (4, .int (0 : Int32)), (3, .int r1), (0, .ref (Q 100)), (1, .long x1)]) hx hb dX9_stands_26 hl (by decide) rfl (fun ls hl => ?_)
    exact sg28  FU x1 r1 (0 : Int32) (0 : Int32) ls hf (lv_sub hl [3, 4, 2, 1, 0] rfl)
  · have hf := (if_neg c3).symm.trans hf
    refine lv_iconst (v := (1 : Int32)) hx hb dX9_stands_18 (by decide) ?_
    refine lv_goto (tgt := 23) hx hb dX9_stands_19 (by decide) ?_
    refine lv_istore (lv' := [(4, .int (1 : Int32)), (3, .int r1), (0, .ref (Q 100)), (1, .long x1)]) hx hb dX9_stands_23 hl (by decide) rfl (fun ls hl => ?_)
    refine lv_iconst (v := (0 : Int32)) hx hb dX9_stands_25 (by decide) ?_
    refine lv_istore (lv' := [(5, .int (0 : Int32)), (4, .int (1 : Int32)), (3, .int r1), (0, .ref (Q 100)), (1, .long x1)]) hx hb dX9_stands_26 hl (by decide) rfl (fun ls hl => ?_)
    exact sg28  FU x1 r1 (1 : Int32) (0 : Int32) ls hf (lv_sub hl [3, 4, 2, 1, 0] rfl)
def fX9_word_vkinds_5B (B : Nat → Nat → Int64) (I : Nat → Int32) (A : Nat → Nat → Int32)  (k5 : Int32 → Int32 → Option Int32)  (v2 : Int32) (v3 : Int32) : Option Int32 :=
  (if (7 : Int32) ≤ v3 then (some v2) else (if gd v3 7 then ((fX9_stands B I A ((B 16) v3.toNatClampNeg)).bind fun r3 => (if r3 = 0 then (k5 v2 (v3 + (1 : Int32))) else (if v2 = (-2 : Int32) then (k5 v3 (v3 + (1 : Int32))) else (if gd v3 7 then ((fX9_lengthOf ((B 16) v3.toNatClampNeg)).bind fun r8 => (if gd v2 7 then ((fX9_lengthOf ((B 16) v2.toNatClampNeg)).bind fun r11 => (if r8 ≤ r11 then (k5 v2 (v3 + (1 : Int32))) else (k5 v3 (v3 + (1 : Int32))))) else none)) else none)))) else none))
def fX9_word_vkinds_5 (B : Nat → Nat → Int64) (I : Nat → Int32) (A : Nat → Nat → Int32)  : Nat → (Int32 → Int32 → Option Int32)
  | 0 => fun _ _ => none
  | n + 1 => fX9_word_vkinds_5B B I A  (fX9_word_vkinds_5 B I A  n)
def fX9_word_vkinds (B : Nat → Nat → Int64) (I : Nat → Int32) (A : Nat → Nat → Int32)   : Option Int32 :=
  (fX9_word_vkinds_5 B I A  FU (-2 : Int32) (0 : Int32))
set_option maxRecDepth 100000 in
set_option maxHeartbeats 4000000 in
theorem mX9_word_vkinds (l : Launch) (dC : Nat → ClassId) (dI : Nat → Nat → Nat) (cI cB cJ : ClassId) (Q : Nat → Nat) (B : Nat → Nat → Int64) (I : Nat → Int32) (A : Nat → Nat → Int32)   (r : Int32) (hf : fX9_word_vkinds B I A = some r) : Met l yX9_word wsX9_word ({ frames := 3, cells := 0, slots := 0, locals := 69 }) (va_Pc [.ref (Q 100), .ref (Q 16)] (fun U => va_P (dC, dI) vwCl (wM cI cB cJ Q B I A) U.heap ∧ va_K (dC, dI) vwCl (tM cI cB cJ) U)) (QcRead r) 0 0 (fun _ => False) := by
  refine Met.ofW (cc := cX9_word) (maxL := 4) (ret := (some .int)) (by decide) rfl ?_
  intro p e s m args below meth c s₁ BL hml hv
  obtain ⟨rfl, hP, hK⟩ := hv
  have hx := BL.exec
  have hb := BL.bytes
  have hr := BL.returns
  have hts := atoms_spec (ws := wsX9_word) BL.pre
  have hown : s.vm.findClass RX9 = some m.cls := findClass_of_methodNamed BL.named
  have hlocks := BL.notSynchronized
  have sg5 : ∀ n : Nat, ∀  (v2 : Int32) (v3 : Int32) (ls : Array Slot), fX9_word_vkinds_5 B I A  n  v2 v3 = some r → lv_has ls 4 [(0, .ref (Q 100)), (1, .ref (Q 16)), (2, .int v2), (3, .int v3)] → W p l e (headSpec wsX9_word ({ frames := 3, cells := 0, slots := 0, locals := 69 })).room s m (([.ref (Q 100), .ref (Q 16)] : List Value).toArray) below meth c s.heap [] 0 0 (MQ below (QcRead r) (([.ref (Q 100), .ref (Q 16)] : List Value).toArray) s 0 0 (fun _ => False)) (F0 m 5 ls []) := by
    intro n
    induction n with
    | zero => intro v2 v3 ls hf hl; exact of_none hf
    | succ n ih5 =>
      intro v2 v3 ls hf hl
      change fX9_word_vkinds_5B B I A  (fX9_word_vkinds_5 B I A  n) v2 v3 = _ at hf
      unfold fX9_word_vkinds_5B at hf
      refine lv_iload_n hx hb dX9_word_5 rfl (lv_at hl 3 rfl) ?_
      refine lv_aload_n hx hb dX9_word_6 rfl (lv_at hl 1 rfl) ?_
      refine va_alen (v := (7 : Int32)) hx hb hK hP 12 2 rfl rfl rfl dX9_word_7 ?_
      refine lv_icmp_ge (tgt := 54) hx hb dX9_word_8 (by decide) (fun c1 => ?_) (fun c1 => ?_)
      · have hf := (if_pos c1).symm.trans hf
        refine lv_iload_n hx hb dX9_word_54 rfl (lv_at hl 2 rfl) ?_
        exact W.iret (v := v2) hx hb hr (fun t ht hW => ⟨congrArg (fun z => Outcome.returned (some (Value.int z))) (Option.some.inj hf), ht⟩) (fun _ h => nomatch h) dX9_word_55
      · have hf := (if_neg c1).symm.trans hf
        refine lv_aload_n hx hb dX9_word_11 rfl (lv_at hl 0 rfl) ?_
        refine lv_aload_n hx hb dX9_word_12 rfl (lv_at hl 1 rfl) ?_
        refine lv_iload_n hx hb dX9_word_13 rfl (lv_at hl 3 rfl) ?_
        obtain ⟨g2, hf⟩ := of_ite_some hf
        refine va_lald hx hb hK hP 12 2 (n := 7) (f := (B 16)) rfl rfl g2 dX9_word_14 ?_
        obtain ⟨r3, hc4, hf⟩ := of_bind_some hf
        refine W.callR (r := r3) (W.runV (As := [.long ((B 16) v3.toNatClampNeg)]) (rest := []) ⟨hx, hb, hml, hown, hts⟩ (mX9_stands l dC dI cI cB cJ Q B I A ((B 16) v3.toNatClampNeg) r3 hc4) (cwV 1 hts gX9_word_X9_stands rfl rfl rfl (by decide +kernel) ⟨Nat.le_of_ble_eq_true rfl, Nat.le_of_ble_eq_true rfl⟩) ⟨blindR, va_recv hK hP (ci := 6) (q0 := 0) rfl rfl, fun U hU hW => ⟨rfl, by rw [hU]; exact hP, va_K.moved hW.alike hK⟩⟩ rfl rfl hl.1 rfl (lv_room (Nat.le_of_ble_eq_true rfl)) dX9_word_15 ⟨Nat.zero_le _, Nat.zero_le _⟩) ?_
        refine W.eq (g2 := F0 m 18 ls [.int r3]) rfl ?_
        refine lv_if_eq (tgt := 46) hx hb dX9_word_18 (by decide) (fun c5 => ?_) (fun c5 => ?_)
        · have hf := (if_pos c5).symm.trans hf
          refine lv_iload_n hx hb dX9_word_46 rfl (lv_at hl 2 rfl) ?_
          refine lv_istore_n (lv' := [(2, .int v2), (0, .ref (Q 100)), (1, .ref (Q 16)), (3, .int v3)]) hx hb dX9_word_47 rfl hl (by decide) rfl (fun ls hl => ?_)
          refine lv_iinc (v := (v3 + (1 : Int32))) (lv' := [(3, .int (v3 + (1 : Int32))), (2, .int v2), (0, .ref (Q 100)), (1, .ref (Q 16))]) hx hb dX9_word_48 hl (k := 3) rfl rfl (by decide) rfl (fun ls hl => ?_)
          refine lv_goto (tgt := 5) hx hb dX9_word_51 (by decide) ?_
          exact ih5 v2 (v3 + (1 : Int32)) ls hf (lv_sub hl [2, 3, 1, 0] rfl)
        · have hf := (if_neg c5).symm.trans hf
          refine lv_iload_n hx hb dX9_word_21 rfl (lv_at hl 2 rfl) ?_
          refine lv_bipush (v := (-2 : Int32)) hx hb dX9_word_22 (by decide) ?_
          refine lv_icmp_eq (tgt := 42) hx hb dX9_word_24 (by decide) (fun c6 => ?_) (fun c6 => ?_)
          · have hf := (if_pos c6).symm.trans hf
            refine lv_iload_n hx hb dX9_word_42 rfl (lv_at hl 3 rfl) ?_
            refine lv_goto (tgt := 47) hx hb dX9_word_43 (by decide) ?_
            refine lv_istore_n (lv' := [(2, .int v3), (0, .ref (Q 100)), (1, .ref (Q 16)), (3, .int v3)]) hx hb dX9_word_47 rfl hl (by decide) rfl (fun ls hl => ?_)
            refine lv_iinc (v := (v3 + (1 : Int32))) (lv' := [(3, .int (v3 + (1 : Int32))), (2, .int v3), (0, .ref (Q 100)), (1, .ref (Q 16))]) hx hb dX9_word_48 hl (k := 3) rfl rfl (by decide) rfl (fun ls hl => ?_)
            refine lv_goto (tgt := 5) hx hb dX9_word_51 (by decide) ?_
            exact ih5 v3 (v3 + (1 : Int32)) ls hf (lv_sub hl [2, 3, 1, 0] rfl)
          · have hf := (if_neg c6).symm.trans hf
            refine lv_aload_n hx hb dX9_word_27 rfl (lv_at hl 1 rfl) ?_
            refine lv_iload_n hx hb dX9_word_28 rfl (lv_at hl 3 rfl) ?_
            obtain ⟨g7, hf⟩ := of_ite_some hf
            refine va_lald hx hb hK hP 12 2 (n := 7) (f := (B 16)) rfl rfl g7 dX9_word_29 ?_
            obtain ⟨r8, hc9, hf⟩ := of_bind_some hf
            refine W.callR (r := r8) (W.runS (As := [.long ((B 16) v3.toNatClampNeg)]) (rest := []) ⟨hx, hb, hml, hown, hts⟩ (mX9_lengthOf l ((B 16) v3.toNatClampNeg) r8 hc9) (va_cwS 1 hts gX9_word_X9_lengthOf rfl rfl rfl (by decide +kernel) ⟨Nat.le_of_ble_eq_true rfl, Nat.le_of_ble_eq_true rfl⟩) ⟨fun _ _ _ _ q => q, fun U hU hW => ⟨rfl, trivial⟩⟩ rfl rfl hl.1 rfl (lv_room (Nat.le_of_ble_eq_true rfl)) dX9_word_30 ⟨Nat.zero_le _, Nat.zero_le _⟩) ?_
            refine W.eq (g2 := F0 m 33 ls [.int r8]) rfl ?_
            refine lv_aload_n hx hb dX9_word_33 rfl (lv_at hl 1 rfl) ?_
            refine lv_iload_n hx hb dX9_word_34 rfl (lv_at hl 2 rfl) ?_
            obtain ⟨g10, hf⟩ := of_ite_some hf
            refine va_lald hx hb hK hP 12 2 (n := 7) (f := (B 16)) rfl rfl g10 dX9_word_35 ?_
            obtain ⟨r11, hc12, hf⟩ := of_bind_some hf
            refine W.callR (r := r11) (W.runS (As := [.long ((B 16) v2.toNatClampNeg)]) (rest := [.int r8]) ⟨hx, hb, hml, hown, hts⟩ (mX9_lengthOf l ((B 16) v2.toNatClampNeg) r11 hc12) (va_cwS 1 hts gX9_word_X9_lengthOf rfl rfl rfl (by decide +kernel) ⟨Nat.le_of_ble_eq_true rfl, Nat.le_of_ble_eq_true rfl⟩) ⟨fun _ _ _ _ q => q, fun U hU hW => ⟨rfl, trivial⟩⟩ rfl rfl hl.1 rfl (lv_room (Nat.le_of_ble_eq_true rfl)) dX9_word_36 ⟨Nat.zero_le _, Nat.zero_le _⟩) ?_
            refine W.eq (g2 := F0 m 39 ls [.int r11, .int r8]) rfl ?_
            refine lv_icmp_le (tgt := 46) hx hb dX9_word_39 (by decide) (fun c13 => ?_) (fun c13 => ?_)
            · have hf := (if_pos c13).symm.trans hf
              refine lv_iload_n hx hb dX9_word_46 rfl (lv_at hl 2 rfl) ?_
              refine lv_istore_n (lv' := [(2, .int v2), (0, .ref (Q 100)), (1, .ref (Q 16)), (3, .int v3)]) hx hb dX9_word_47 rfl hl (by decide) rfl (fun ls hl => ?_)
              refine lv_iinc (v := (v3 + (1 : Int32))) (lv' := [(3, .int (v3 + (1 : Int32))), (2, .int v2), (0, .ref (Q 100)), (1, .ref (Q 16))]) hx hb dX9_word_48 hl (k := 3) rfl rfl (by decide) rfl (fun ls hl => ?_)
              refine lv_goto (tgt := 5) hx hb dX9_word_51 (by decide) ?_
              exact ih5 v2 (v3 + (1 : Int32)) ls hf (lv_sub hl [2, 3, 1, 0] rfl)
            · have hf := (if_neg c13).symm.trans hf
              refine lv_iload_n hx hb dX9_word_42 rfl (lv_at hl 3 rfl) ?_
              refine lv_goto (tgt := 47) hx hb dX9_word_43 (by decide) ?_
              refine lv_istore_n (lv' := [(2, .int v3), (0, .ref (Q 100)), (1, .ref (Q 16)), (3, .int v3)]) hx hb dX9_word_47 rfl hl (by decide) rfl (fun ls hl => ?_)
              refine lv_iinc (v := (v3 + (1 : Int32))) (lv' := [(3, .int (v3 + (1 : Int32))), (2, .int v3), (0, .ref (Q 100)), (1, .ref (Q 16))]) hx hb dX9_word_48 hl (k := 3) rfl rfl (by decide) rfl (fun ls hl => ?_)
              refine lv_goto (tgt := 5) hx hb dX9_word_51 (by decide) ?_
              exact ih5 v3 (v3 + (1 : Int32)) ls hf (lv_sub hl [2, 3, 1, 0] rfl)
  have hl := lv_entry ([.ref (Q 100), .ref (Q 16)]) (n := 4) (Nat.le_of_ble_eq_true rfl)
  rw [lg_entry_eq]
  generalize (lg_sl ([.ref (Q 100), .ref (Q 16)]) ++ List.replicate (4 - (lg_sl ([.ref (Q 100), .ref (Q 16)])).length) Slot.unset).toArray = ls at hl ⊢
  have hl : lv_has ls 4 [(0, .ref (Q 100)), (1, .ref (Q 16))] := hl
  unfold fX9_word_vkinds at hf
  refine lv_bipush (v := (-2 : Int32)) hx hb dX9_word_0 (by decide) ?_
  refine lv_istore_n (lv' := [(2, .int (-2 : Int32)), (0, .ref (Q 100)), (1, .ref (Q 16))]) hx hb dX9_word_2 rfl hl (by decide) rfl (fun ls hl => ?_)
  refine lv_iconst (v := (0 : Int32)) hx hb dX9_word_3 (by decide) ?_
  refine lv_istore_n (lv' := [(3, .int (0 : Int32)), (2, .int (-2 : Int32)), (0, .ref (Q 100)), (1, .ref (Q 16))]) hx hb dX9_word_4 rfl hl (by decide) rfl (fun ls hl => ?_)
  exact sg5  FU (-2 : Int32) (0 : Int32) ls hf (lv_sub hl [2, 3, 1, 0] rfl)
def fX9_word_vsizes_5B (B : Nat → Nat → Int64) (I : Nat → Int32) (A : Nat → Nat → Int32)  (k5 : Int32 → Int32 → Option Int32)  (v2 : Int32) (v3 : Int32) : Option Int32 :=
  (if (14 : Int32) ≤ v3 then (some v2) else (if gd v3 14 then ((fX9_stands B I A ((B 17) v3.toNatClampNeg)).bind fun r3 => (if r3 = 0 then (k5 v2 (v3 + (1 : Int32))) else (if v2 = (-2 : Int32) then (k5 v3 (v3 + (1 : Int32))) else (if gd v3 14 then ((fX9_lengthOf ((B 17) v3.toNatClampNeg)).bind fun r8 => (if gd v2 14 then ((fX9_lengthOf ((B 17) v2.toNatClampNeg)).bind fun r11 => (if r8 ≤ r11 then (k5 v2 (v3 + (1 : Int32))) else (k5 v3 (v3 + (1 : Int32))))) else none)) else none)))) else none))
def fX9_word_vsizes_5 (B : Nat → Nat → Int64) (I : Nat → Int32) (A : Nat → Nat → Int32)  : Nat → (Int32 → Int32 → Option Int32)
  | 0 => fun _ _ => none
  | n + 1 => fX9_word_vsizes_5B B I A  (fX9_word_vsizes_5 B I A  n)
def fX9_word_vsizes (B : Nat → Nat → Int64) (I : Nat → Int32) (A : Nat → Nat → Int32)   : Option Int32 :=
  (fX9_word_vsizes_5 B I A  FU (-2 : Int32) (0 : Int32))
set_option maxRecDepth 100000 in
set_option maxHeartbeats 4000000 in
theorem mX9_word_vsizes (l : Launch) (dC : Nat → ClassId) (dI : Nat → Nat → Nat) (cI cB cJ : ClassId) (Q : Nat → Nat) (B : Nat → Nat → Int64) (I : Nat → Int32) (A : Nat → Nat → Int32)   (r : Int32) (hf : fX9_word_vsizes B I A = some r) : Met l yX9_word wsX9_word ({ frames := 3, cells := 0, slots := 0, locals := 69 }) (va_Pc [.ref (Q 100), .ref (Q 17)] (fun U => va_P (dC, dI) vwCl (wM cI cB cJ Q B I A) U.heap ∧ va_K (dC, dI) vwCl (tM cI cB cJ) U)) (QcRead r) 0 0 (fun _ => False) := by
  refine Met.ofW (cc := cX9_word) (maxL := 4) (ret := (some .int)) (by decide) rfl ?_
  intro p e s m args below meth c s₁ BL hml hv
  obtain ⟨rfl, hP, hK⟩ := hv
  have hx := BL.exec
  have hb := BL.bytes
  have hr := BL.returns
  have hts := atoms_spec (ws := wsX9_word) BL.pre
  have hown : s.vm.findClass RX9 = some m.cls := findClass_of_methodNamed BL.named
  have hlocks := BL.notSynchronized
  have sg5 : ∀ n : Nat, ∀  (v2 : Int32) (v3 : Int32) (ls : Array Slot), fX9_word_vsizes_5 B I A  n  v2 v3 = some r → lv_has ls 4 [(0, .ref (Q 100)), (1, .ref (Q 17)), (2, .int v2), (3, .int v3)] → W p l e (headSpec wsX9_word ({ frames := 3, cells := 0, slots := 0, locals := 69 })).room s m (([.ref (Q 100), .ref (Q 17)] : List Value).toArray) below meth c s.heap [] 0 0 (MQ below (QcRead r) (([.ref (Q 100), .ref (Q 17)] : List Value).toArray) s 0 0 (fun _ => False)) (F0 m 5 ls []) := by
    intro n
    induction n with
    | zero => intro v2 v3 ls hf hl; exact of_none hf
    | succ n ih5 =>
      intro v2 v3 ls hf hl
      change fX9_word_vsizes_5B B I A  (fX9_word_vsizes_5 B I A  n) v2 v3 = _ at hf
      unfold fX9_word_vsizes_5B at hf
      refine lv_iload_n hx hb dX9_word_5 rfl (lv_at hl 3 rfl) ?_
      refine lv_aload_n hx hb dX9_word_6 rfl (lv_at hl 1 rfl) ?_
      refine va_alen (v := (14 : Int32)) hx hb hK hP 13 2 rfl rfl rfl dX9_word_7 ?_
      refine lv_icmp_ge (tgt := 54) hx hb dX9_word_8 (by decide) (fun c1 => ?_) (fun c1 => ?_)
      · have hf := (if_pos c1).symm.trans hf
        refine lv_iload_n hx hb dX9_word_54 rfl (lv_at hl 2 rfl) ?_
        exact W.iret (v := v2) hx hb hr (fun t ht hW => ⟨congrArg (fun z => Outcome.returned (some (Value.int z))) (Option.some.inj hf), ht⟩) (fun _ h => nomatch h) dX9_word_55
      · have hf := (if_neg c1).symm.trans hf
        refine lv_aload_n hx hb dX9_word_11 rfl (lv_at hl 0 rfl) ?_
        refine lv_aload_n hx hb dX9_word_12 rfl (lv_at hl 1 rfl) ?_
        refine lv_iload_n hx hb dX9_word_13 rfl (lv_at hl 3 rfl) ?_
        obtain ⟨g2, hf⟩ := of_ite_some hf
        refine va_lald hx hb hK hP 13 2 (n := 14) (f := (B 17)) rfl rfl g2 dX9_word_14 ?_
        obtain ⟨r3, hc4, hf⟩ := of_bind_some hf
        refine W.callR (r := r3) (W.runV (As := [.long ((B 17) v3.toNatClampNeg)]) (rest := []) ⟨hx, hb, hml, hown, hts⟩ (mX9_stands l dC dI cI cB cJ Q B I A ((B 17) v3.toNatClampNeg) r3 hc4) (cwV 1 hts gX9_word_X9_stands rfl rfl rfl (by decide +kernel) ⟨Nat.le_of_ble_eq_true rfl, Nat.le_of_ble_eq_true rfl⟩) ⟨blindR, va_recv hK hP (ci := 6) (q0 := 0) rfl rfl, fun U hU hW => ⟨rfl, by rw [hU]; exact hP, va_K.moved hW.alike hK⟩⟩ rfl rfl hl.1 rfl (lv_room (Nat.le_of_ble_eq_true rfl)) dX9_word_15 ⟨Nat.zero_le _, Nat.zero_le _⟩) ?_
        refine W.eq (g2 := F0 m 18 ls [.int r3]) rfl ?_
        refine lv_if_eq (tgt := 46) hx hb dX9_word_18 (by decide) (fun c5 => ?_) (fun c5 => ?_)
        · have hf := (if_pos c5).symm.trans hf
          refine lv_iload_n hx hb dX9_word_46 rfl (lv_at hl 2 rfl) ?_
          refine lv_istore_n (lv' := [(2, .int v2), (0, .ref (Q 100)), (1, .ref (Q 17)), (3, .int v3)]) hx hb dX9_word_47 rfl hl (by decide) rfl (fun ls hl => ?_)
          refine lv_iinc (v := (v3 + (1 : Int32))) (lv' := [(3, .int (v3 + (1 : Int32))), (2, .int v2), (0, .ref (Q 100)), (1, .ref (Q 17))]) hx hb dX9_word_48 hl (k := 3) rfl rfl (by decide) rfl (fun ls hl => ?_)
          refine lv_goto (tgt := 5) hx hb dX9_word_51 (by decide) ?_
          exact ih5 v2 (v3 + (1 : Int32)) ls hf (lv_sub hl [2, 3, 1, 0] rfl)
        · have hf := (if_neg c5).symm.trans hf
          refine lv_iload_n hx hb dX9_word_21 rfl (lv_at hl 2 rfl) ?_
          refine lv_bipush (v := (-2 : Int32)) hx hb dX9_word_22 (by decide) ?_
          refine lv_icmp_eq (tgt := 42) hx hb dX9_word_24 (by decide) (fun c6 => ?_) (fun c6 => ?_)
          · have hf := (if_pos c6).symm.trans hf
            refine lv_iload_n hx hb dX9_word_42 rfl (lv_at hl 3 rfl) ?_
            refine lv_goto (tgt := 47) hx hb dX9_word_43 (by decide) ?_
            refine lv_istore_n (lv' := [(2, .int v3), (0, .ref (Q 100)), (1, .ref (Q 17)), (3, .int v3)]) hx hb dX9_word_47 rfl hl (by decide) rfl (fun ls hl => ?_)
            refine lv_iinc (v := (v3 + (1 : Int32))) (lv' := [(3, .int (v3 + (1 : Int32))), (2, .int v3), (0, .ref (Q 100)), (1, .ref (Q 17))]) hx hb dX9_word_48 hl (k := 3) rfl rfl (by decide) rfl (fun ls hl => ?_)
            refine lv_goto (tgt := 5) hx hb dX9_word_51 (by decide) ?_
            exact ih5 v3 (v3 + (1 : Int32)) ls hf (lv_sub hl [2, 3, 1, 0] rfl)
          · have hf := (if_neg c6).symm.trans hf
            refine lv_aload_n hx hb dX9_word_27 rfl (lv_at hl 1 rfl) ?_
            refine lv_iload_n hx hb dX9_word_28 rfl (lv_at hl 3 rfl) ?_
            obtain ⟨g7, hf⟩ := of_ite_some hf
            refine va_lald hx hb hK hP 13 2 (n := 14) (f := (B 17)) rfl rfl g7 dX9_word_29 ?_
            obtain ⟨r8, hc9, hf⟩ := of_bind_some hf
            refine W.callR (r := r8) (W.runS (As := [.long ((B 17) v3.toNatClampNeg)]) (rest := []) ⟨hx, hb, hml, hown, hts⟩ (mX9_lengthOf l ((B 17) v3.toNatClampNeg) r8 hc9) (va_cwS 1 hts gX9_word_X9_lengthOf rfl rfl rfl (by decide +kernel) ⟨Nat.le_of_ble_eq_true rfl, Nat.le_of_ble_eq_true rfl⟩) ⟨fun _ _ _ _ q => q, fun U hU hW => ⟨rfl, trivial⟩⟩ rfl rfl hl.1 rfl (lv_room (Nat.le_of_ble_eq_true rfl)) dX9_word_30 ⟨Nat.zero_le _, Nat.zero_le _⟩) ?_
            refine W.eq (g2 := F0 m 33 ls [.int r8]) rfl ?_
            refine lv_aload_n hx hb dX9_word_33 rfl (lv_at hl 1 rfl) ?_
            refine lv_iload_n hx hb dX9_word_34 rfl (lv_at hl 2 rfl) ?_
            obtain ⟨g10, hf⟩ := of_ite_some hf
            refine va_lald hx hb hK hP 13 2 (n := 14) (f := (B 17)) rfl rfl g10 dX9_word_35 ?_
            obtain ⟨r11, hc12, hf⟩ := of_bind_some hf
            refine W.callR (r := r11) (W.runS (As := [.long ((B 17) v2.toNatClampNeg)]) (rest := [.int r8]) ⟨hx, hb, hml, hown, hts⟩ (mX9_lengthOf l ((B 17) v2.toNatClampNeg) r11 hc12) (va_cwS 1 hts gX9_word_X9_lengthOf rfl rfl rfl (by decide +kernel) ⟨Nat.le_of_ble_eq_true rfl, Nat.le_of_ble_eq_true rfl⟩) ⟨fun _ _ _ _ q => q, fun U hU hW => ⟨rfl, trivial⟩⟩ rfl rfl hl.1 rfl (lv_room (Nat.le_of_ble_eq_true rfl)) dX9_word_36 ⟨Nat.zero_le _, Nat.zero_le _⟩) ?_
            refine W.eq (g2 := F0 m 39 ls [.int r11, .int r8]) rfl ?_
            refine lv_icmp_le (tgt := 46) hx hb dX9_word_39 (by decide) (fun c13 => ?_) (fun c13 => ?_)
            · have hf := (if_pos c13).symm.trans hf
              refine lv_iload_n hx hb dX9_word_46 rfl (lv_at hl 2 rfl) ?_
              refine lv_istore_n (lv' := [(2, .int v2), (0, .ref (Q 100)), (1, .ref (Q 17)), (3, .int v3)]) hx hb dX9_word_47 rfl hl (by decide) rfl (fun ls hl => ?_)
              refine lv_iinc (v := (v3 + (1 : Int32))) (lv' := [(3, .int (v3 + (1 : Int32))), (2, .int v2), (0, .ref (Q 100)), (1, .ref (Q 17))]) hx hb dX9_word_48 hl (k := 3) rfl rfl (by decide) rfl (fun ls hl => ?_)
              refine lv_goto (tgt := 5) hx hb dX9_word_51 (by decide) ?_
              exact ih5 v2 (v3 + (1 : Int32)) ls hf (lv_sub hl [2, 3, 1, 0] rfl)
            · have hf := (if_neg c13).symm.trans hf
              refine lv_iload_n hx hb dX9_word_42 rfl (lv_at hl 3 rfl) ?_
              refine lv_goto (tgt := 47) hx hb dX9_word_43 (by decide) ?_
              refine lv_istore_n (lv' := [(2, .int v3), (0, .ref (Q 100)), (1, .ref (Q 17)), (3, .int v3)]) hx hb dX9_word_47 rfl hl (by decide) rfl (fun ls hl => ?_)
              refine lv_iinc (v := (v3 + (1 : Int32))) (lv' := [(3, .int (v3 + (1 : Int32))), (2, .int v3), (0, .ref (Q 100)), (1, .ref (Q 17))]) hx hb dX9_word_48 hl (k := 3) rfl rfl (by decide) rfl (fun ls hl => ?_)
              refine lv_goto (tgt := 5) hx hb dX9_word_51 (by decide) ?_
              exact ih5 v3 (v3 + (1 : Int32)) ls hf (lv_sub hl [2, 3, 1, 0] rfl)
  have hl := lv_entry ([.ref (Q 100), .ref (Q 17)]) (n := 4) (Nat.le_of_ble_eq_true rfl)
  rw [lg_entry_eq]
  generalize (lg_sl ([.ref (Q 100), .ref (Q 17)]) ++ List.replicate (4 - (lg_sl ([.ref (Q 100), .ref (Q 17)])).length) Slot.unset).toArray = ls at hl ⊢
  have hl : lv_has ls 4 [(0, .ref (Q 100)), (1, .ref (Q 17))] := hl
  unfold fX9_word_vsizes at hf
  refine lv_bipush (v := (-2 : Int32)) hx hb dX9_word_0 (by decide) ?_
  refine lv_istore_n (lv' := [(2, .int (-2 : Int32)), (0, .ref (Q 100)), (1, .ref (Q 17))]) hx hb dX9_word_2 rfl hl (by decide) rfl (fun ls hl => ?_)
  refine lv_iconst (v := (0 : Int32)) hx hb dX9_word_3 (by decide) ?_
  refine lv_istore_n (lv' := [(3, .int (0 : Int32)), (2, .int (-2 : Int32)), (0, .ref (Q 100)), (1, .ref (Q 17))]) hx hb dX9_word_4 rfl hl (by decide) rfl (fun ls hl => ?_)
  exact sg5  FU (-2 : Int32) (0 : Int32) ls hf (lv_sub hl [2, 3, 1, 0] rfl)
def fX9_word_vchanges_5B (B : Nat → Nat → Int64) (I : Nat → Int32) (A : Nat → Nat → Int32)  (k5 : Int32 → Int32 → Option Int32)  (v2 : Int32) (v3 : Int32) : Option Int32 :=
  (if (13 : Int32) ≤ v3 then (some v2) else (if gd v3 13 then ((fX9_stands B I A ((B 18) v3.toNatClampNeg)).bind fun r3 => (if r3 = 0 then (k5 v2 (v3 + (1 : Int32))) else (if v2 = (-2 : Int32) then (k5 v3 (v3 + (1 : Int32))) else (if gd v3 13 then ((fX9_lengthOf ((B 18) v3.toNatClampNeg)).bind fun r8 => (if gd v2 13 then ((fX9_lengthOf ((B 18) v2.toNatClampNeg)).bind fun r11 => (if r8 ≤ r11 then (k5 v2 (v3 + (1 : Int32))) else (k5 v3 (v3 + (1 : Int32))))) else none)) else none)))) else none))
def fX9_word_vchanges_5 (B : Nat → Nat → Int64) (I : Nat → Int32) (A : Nat → Nat → Int32)  : Nat → (Int32 → Int32 → Option Int32)
  | 0 => fun _ _ => none
  | n + 1 => fX9_word_vchanges_5B B I A  (fX9_word_vchanges_5 B I A  n)
def fX9_word_vchanges (B : Nat → Nat → Int64) (I : Nat → Int32) (A : Nat → Nat → Int32)   : Option Int32 :=
  (fX9_word_vchanges_5 B I A  FU (-2 : Int32) (0 : Int32))
set_option maxRecDepth 100000 in
set_option maxHeartbeats 4000000 in
theorem mX9_word_vchanges (l : Launch) (dC : Nat → ClassId) (dI : Nat → Nat → Nat) (cI cB cJ : ClassId) (Q : Nat → Nat) (B : Nat → Nat → Int64) (I : Nat → Int32) (A : Nat → Nat → Int32)   (r : Int32) (hf : fX9_word_vchanges B I A = some r) : Met l yX9_word wsX9_word ({ frames := 3, cells := 0, slots := 0, locals := 69 }) (va_Pc [.ref (Q 100), .ref (Q 18)] (fun U => va_P (dC, dI) vwCl (wM cI cB cJ Q B I A) U.heap ∧ va_K (dC, dI) vwCl (tM cI cB cJ) U)) (QcRead r) 0 0 (fun _ => False) := by
  refine Met.ofW (cc := cX9_word) (maxL := 4) (ret := (some .int)) (by decide) rfl ?_
  intro p e s m args below meth c s₁ BL hml hv
  obtain ⟨rfl, hP, hK⟩ := hv
  have hx := BL.exec
  have hb := BL.bytes
  have hr := BL.returns
  have hts := atoms_spec (ws := wsX9_word) BL.pre
  have hown : s.vm.findClass RX9 = some m.cls := findClass_of_methodNamed BL.named
  have hlocks := BL.notSynchronized
  have sg5 : ∀ n : Nat, ∀  (v2 : Int32) (v3 : Int32) (ls : Array Slot), fX9_word_vchanges_5 B I A  n  v2 v3 = some r → lv_has ls 4 [(0, .ref (Q 100)), (1, .ref (Q 18)), (2, .int v2), (3, .int v3)] → W p l e (headSpec wsX9_word ({ frames := 3, cells := 0, slots := 0, locals := 69 })).room s m (([.ref (Q 100), .ref (Q 18)] : List Value).toArray) below meth c s.heap [] 0 0 (MQ below (QcRead r) (([.ref (Q 100), .ref (Q 18)] : List Value).toArray) s 0 0 (fun _ => False)) (F0 m 5 ls []) := by
    intro n
    induction n with
    | zero => intro v2 v3 ls hf hl; exact of_none hf
    | succ n ih5 =>
      intro v2 v3 ls hf hl
      change fX9_word_vchanges_5B B I A  (fX9_word_vchanges_5 B I A  n) v2 v3 = _ at hf
      unfold fX9_word_vchanges_5B at hf
      refine lv_iload_n hx hb dX9_word_5 rfl (lv_at hl 3 rfl) ?_
      refine lv_aload_n hx hb dX9_word_6 rfl (lv_at hl 1 rfl) ?_
      refine va_alen (v := (13 : Int32)) hx hb hK hP 14 2 rfl rfl rfl dX9_word_7 ?_
      refine lv_icmp_ge (tgt := 54) hx hb dX9_word_8 (by decide) (fun c1 => ?_) (fun c1 => ?_)
      · have hf := (if_pos c1).symm.trans hf
        refine lv_iload_n hx hb dX9_word_54 rfl (lv_at hl 2 rfl) ?_
        exact W.iret (v := v2) hx hb hr (fun t ht hW => ⟨congrArg (fun z => Outcome.returned (some (Value.int z))) (Option.some.inj hf), ht⟩) (fun _ h => nomatch h) dX9_word_55
      · have hf := (if_neg c1).symm.trans hf
        refine lv_aload_n hx hb dX9_word_11 rfl (lv_at hl 0 rfl) ?_
        refine lv_aload_n hx hb dX9_word_12 rfl (lv_at hl 1 rfl) ?_
        refine lv_iload_n hx hb dX9_word_13 rfl (lv_at hl 3 rfl) ?_
        obtain ⟨g2, hf⟩ := of_ite_some hf
        refine va_lald hx hb hK hP 14 2 (n := 13) (f := (B 18)) rfl rfl g2 dX9_word_14 ?_
        obtain ⟨r3, hc4, hf⟩ := of_bind_some hf
        refine W.callR (r := r3) (W.runV (As := [.long ((B 18) v3.toNatClampNeg)]) (rest := []) ⟨hx, hb, hml, hown, hts⟩ (mX9_stands l dC dI cI cB cJ Q B I A ((B 18) v3.toNatClampNeg) r3 hc4) (cwV 1 hts gX9_word_X9_stands rfl rfl rfl (by decide +kernel) ⟨Nat.le_of_ble_eq_true rfl, Nat.le_of_ble_eq_true rfl⟩) ⟨blindR, va_recv hK hP (ci := 6) (q0 := 0) rfl rfl, fun U hU hW => ⟨rfl, by rw [hU]; exact hP, va_K.moved hW.alike hK⟩⟩ rfl rfl hl.1 rfl (lv_room (Nat.le_of_ble_eq_true rfl)) dX9_word_15 ⟨Nat.zero_le _, Nat.zero_le _⟩) ?_
        refine W.eq (g2 := F0 m 18 ls [.int r3]) rfl ?_
        refine lv_if_eq (tgt := 46) hx hb dX9_word_18 (by decide) (fun c5 => ?_) (fun c5 => ?_)
        · have hf := (if_pos c5).symm.trans hf
          refine lv_iload_n hx hb dX9_word_46 rfl (lv_at hl 2 rfl) ?_
          refine lv_istore_n (lv' := [(2, .int v2), (0, .ref (Q 100)), (1, .ref (Q 18)), (3, .int v3)]) hx hb dX9_word_47 rfl hl (by decide) rfl (fun ls hl => ?_)
          refine lv_iinc (v := (v3 + (1 : Int32))) (lv' := [(3, .int (v3 + (1 : Int32))), (2, .int v2), (0, .ref (Q 100)), (1, .ref (Q 18))]) hx hb dX9_word_48 hl (k := 3) rfl rfl (by decide) rfl (fun ls hl => ?_)
          refine lv_goto (tgt := 5) hx hb dX9_word_51 (by decide) ?_
          exact ih5 v2 (v3 + (1 : Int32)) ls hf (lv_sub hl [2, 3, 1, 0] rfl)
        · have hf := (if_neg c5).symm.trans hf
          refine lv_iload_n hx hb dX9_word_21 rfl (lv_at hl 2 rfl) ?_
          refine lv_bipush (v := (-2 : Int32)) hx hb dX9_word_22 (by decide) ?_
          refine lv_icmp_eq (tgt := 42) hx hb dX9_word_24 (by decide) (fun c6 => ?_) (fun c6 => ?_)
          · have hf := (if_pos c6).symm.trans hf
            refine lv_iload_n hx hb dX9_word_42 rfl (lv_at hl 3 rfl) ?_
            refine lv_goto (tgt := 47) hx hb dX9_word_43 (by decide) ?_
            refine lv_istore_n (lv' := [(2, .int v3), (0, .ref (Q 100)), (1, .ref (Q 18)), (3, .int v3)]) hx hb dX9_word_47 rfl hl (by decide) rfl (fun ls hl => ?_)
            refine lv_iinc (v := (v3 + (1 : Int32))) (lv' := [(3, .int (v3 + (1 : Int32))), (2, .int v3), (0, .ref (Q 100)), (1, .ref (Q 18))]) hx hb dX9_word_48 hl (k := 3) rfl rfl (by decide) rfl (fun ls hl => ?_)
            refine lv_goto (tgt := 5) hx hb dX9_word_51 (by decide) ?_
            exact ih5 v3 (v3 + (1 : Int32)) ls hf (lv_sub hl [2, 3, 1, 0] rfl)
          · have hf := (if_neg c6).symm.trans hf
            refine lv_aload_n hx hb dX9_word_27 rfl (lv_at hl 1 rfl) ?_
            refine lv_iload_n hx hb dX9_word_28 rfl (lv_at hl 3 rfl) ?_
            obtain ⟨g7, hf⟩ := of_ite_some hf
            refine va_lald hx hb hK hP 14 2 (n := 13) (f := (B 18)) rfl rfl g7 dX9_word_29 ?_
            obtain ⟨r8, hc9, hf⟩ := of_bind_some hf
            refine W.callR (r := r8) (W.runS (As := [.long ((B 18) v3.toNatClampNeg)]) (rest := []) ⟨hx, hb, hml, hown, hts⟩ (mX9_lengthOf l ((B 18) v3.toNatClampNeg) r8 hc9) (va_cwS 1 hts gX9_word_X9_lengthOf rfl rfl rfl (by decide +kernel) ⟨Nat.le_of_ble_eq_true rfl, Nat.le_of_ble_eq_true rfl⟩) ⟨fun _ _ _ _ q => q, fun U hU hW => ⟨rfl, trivial⟩⟩ rfl rfl hl.1 rfl (lv_room (Nat.le_of_ble_eq_true rfl)) dX9_word_30 ⟨Nat.zero_le _, Nat.zero_le _⟩) ?_
            refine W.eq (g2 := F0 m 33 ls [.int r8]) rfl ?_
            refine lv_aload_n hx hb dX9_word_33 rfl (lv_at hl 1 rfl) ?_
            refine lv_iload_n hx hb dX9_word_34 rfl (lv_at hl 2 rfl) ?_
            obtain ⟨g10, hf⟩ := of_ite_some hf
            refine va_lald hx hb hK hP 14 2 (n := 13) (f := (B 18)) rfl rfl g10 dX9_word_35 ?_
            obtain ⟨r11, hc12, hf⟩ := of_bind_some hf
            refine W.callR (r := r11) (W.runS (As := [.long ((B 18) v2.toNatClampNeg)]) (rest := [.int r8]) ⟨hx, hb, hml, hown, hts⟩ (mX9_lengthOf l ((B 18) v2.toNatClampNeg) r11 hc12) (va_cwS 1 hts gX9_word_X9_lengthOf rfl rfl rfl (by decide +kernel) ⟨Nat.le_of_ble_eq_true rfl, Nat.le_of_ble_eq_true rfl⟩) ⟨fun _ _ _ _ q => q, fun U hU hW => ⟨rfl, trivial⟩⟩ rfl rfl hl.1 rfl (lv_room (Nat.le_of_ble_eq_true rfl)) dX9_word_36 ⟨Nat.zero_le _, Nat.zero_le _⟩) ?_
            refine W.eq (g2 := F0 m 39 ls [.int r11, .int r8]) rfl ?_
            refine lv_icmp_le (tgt := 46) hx hb dX9_word_39 (by decide) (fun c13 => ?_) (fun c13 => ?_)
            · have hf := (if_pos c13).symm.trans hf
              refine lv_iload_n hx hb dX9_word_46 rfl (lv_at hl 2 rfl) ?_
              refine lv_istore_n (lv' := [(2, .int v2), (0, .ref (Q 100)), (1, .ref (Q 18)), (3, .int v3)]) hx hb dX9_word_47 rfl hl (by decide) rfl (fun ls hl => ?_)
              refine lv_iinc (v := (v3 + (1 : Int32))) (lv' := [(3, .int (v3 + (1 : Int32))), (2, .int v2), (0, .ref (Q 100)), (1, .ref (Q 18))]) hx hb dX9_word_48 hl (k := 3) rfl rfl (by decide) rfl (fun ls hl => ?_)
              refine lv_goto (tgt := 5) hx hb dX9_word_51 (by decide) ?_
              exact ih5 v2 (v3 + (1 : Int32)) ls hf (lv_sub hl [2, 3, 1, 0] rfl)
            · have hf := (if_neg c13).symm.trans hf
              refine lv_iload_n hx hb dX9_word_42 rfl (lv_at hl 3 rfl) ?_
              refine lv_goto (tgt := 47) hx hb dX9_word_43 (by decide) ?_
              refine lv_istore_n (lv' := [(2, .int v3), (0, .ref (Q 100)), (1, .ref (Q 18)), (3, .int v3)]) hx hb dX9_word_47 rfl hl (by decide) rfl (fun ls hl => ?_)
              refine lv_iinc (v := (v3 + (1 : Int32))) (lv' := [(3, .int (v3 + (1 : Int32))), (2, .int v3), (0, .ref (Q 100)), (1, .ref (Q 18))]) hx hb dX9_word_48 hl (k := 3) rfl rfl (by decide) rfl (fun ls hl => ?_)
              refine lv_goto (tgt := 5) hx hb dX9_word_51 (by decide) ?_
              exact ih5 v3 (v3 + (1 : Int32)) ls hf (lv_sub hl [2, 3, 1, 0] rfl)
  have hl := lv_entry ([.ref (Q 100), .ref (Q 18)]) (n := 4) (Nat.le_of_ble_eq_true rfl)
  rw [lg_entry_eq]
  generalize (lg_sl ([.ref (Q 100), .ref (Q 18)]) ++ List.replicate (4 - (lg_sl ([.ref (Q 100), .ref (Q 18)])).length) Slot.unset).toArray = ls at hl ⊢
  have hl : lv_has ls 4 [(0, .ref (Q 100)), (1, .ref (Q 18))] := hl
  unfold fX9_word_vchanges at hf
  refine lv_bipush (v := (-2 : Int32)) hx hb dX9_word_0 (by decide) ?_
  refine lv_istore_n (lv' := [(2, .int (-2 : Int32)), (0, .ref (Q 100)), (1, .ref (Q 18))]) hx hb dX9_word_2 rfl hl (by decide) rfl (fun ls hl => ?_)
  refine lv_iconst (v := (0 : Int32)) hx hb dX9_word_3 (by decide) ?_
  refine lv_istore_n (lv' := [(3, .int (0 : Int32)), (2, .int (-2 : Int32)), (0, .ref (Q 100)), (1, .ref (Q 18))]) hx hb dX9_word_4 rfl hl (by decide) rfl (fun ls hl => ?_)
  exact sg5  FU (-2 : Int32) (0 : Int32) ls hf (lv_sub hl [2, 3, 1, 0] rfl)
def fX9_bodyOf_113 (B : Nat → Nat → Int64) (I : Nat → Int32) (A : Nat → Nat → Int32) (k2 : Int32 → Int32 → Option Int32)  (v1 : Int32) (v2 : Int32) (v3 : Int32) : Option Int32 :=
  (if v3 = 0 then (k2 v1 (v2 + (1 : Int32))) else (some v2))
def fX9_bodyOf_32B (B : Nat → Nat → Int64) (I : Nat → Int32) (A : Nat → Nat → Int32) (k2 : Int32 → Int32 → Option Int32) (k32 : Int32 → Int32 → Int32 → Int32 → Option Int32)  (v1 : Int32) (v2 : Int32) (v3 : Int32) (v4 : Int32) : Option Int32 :=
  (if gd v1 100 then (if ((A 5) v1.toNatClampNeg) ≤ v4 then (fX9_bodyOf_113 B I A k2 v1 v2 v3) else (if v3 = 0 then (fX9_bodyOf_113 B I A k2 v1 v2 v3) else (if gd (((8 : Int32) * v2) + v4) 160 then (if gd (((16 : Int32) * v1) + v4) 1600 then (if ((A 13) (((8 : Int32) * v2) + v4).toNatClampNeg) = ((A 3) (((16 : Int32) * v1) + v4).toNatClampNeg) then (if gd (((8 : Int32) * v2) + v4) 160 then (if gd (((16 : Int32) * v1) + v4) 1600 then (if ((A 14) (((8 : Int32) * v2) + v4).toNatClampNeg) = ((A 4) (((16 : Int32) * v1) + v4).toNatClampNeg) then (k32 v1 v2 (1 : Int32) (v4 + (1 : Int32))) else (k32 v1 v2 (0 : Int32) (v4 + (1 : Int32)))) else none) else none) else (k32 v1 v2 (0 : Int32) (v4 + (1 : Int32)))) else none) else none))) else none)
def fX9_bodyOf_32 (B : Nat → Nat → Int64) (I : Nat → Int32) (A : Nat → Nat → Int32) (k2 : Int32 → Int32 → Option Int32) : Nat → (Int32 → Int32 → Int32 → Int32 → Option Int32)
  | 0 => fun _ _ _ _ => none
  | n + 1 => fX9_bodyOf_32B B I A k2 (fX9_bodyOf_32 B I A k2 n)
def fX9_bodyOf_2B (B : Nat → Nat → Int64) (I : Nat → Int32) (A : Nat → Nat → Int32)  (k2 : Int32 → Int32 → Option Int32)  (v1 : Int32) (v2 : Int32) : Option Int32 :=
  (if (20 : Int32) ≤ v2 then (some (-2 : Int32)) else (if gd v2 20 then (if gd v1 100 then (if ((A 15) v2.toNatClampNeg) = ((A 5) v1.toNatClampNeg) then (fX9_bodyOf_32 B I A k2 FU v1 v2 (1 : Int32) (0 : Int32)) else (fX9_bodyOf_32 B I A k2 FU v1 v2 (0 : Int32) (0 : Int32))) else none) else none))
def fX9_bodyOf_2 (B : Nat → Nat → Int64) (I : Nat → Int32) (A : Nat → Nat → Int32)  : Nat → (Int32 → Int32 → Option Int32)
  | 0 => fun _ _ => none
  | n + 1 => fX9_bodyOf_2B B I A  (fX9_bodyOf_2 B I A  n)
def fX9_bodyOf (B : Nat → Nat → Int64) (I : Nat → Int32) (A : Nat → Nat → Int32)  (x1 : Int32) : Option Int32 :=
  (fX9_bodyOf_2 B I A  FU x1 (0 : Int32))
set_option maxRecDepth 100000 in
set_option maxHeartbeats 4000000 in
theorem mX9_bodyOf (l : Launch) (dC : Nat → ClassId) (dI : Nat → Nat → Nat) (cI cB cJ : ClassId) (Q : Nat → Nat) (B : Nat → Nat → Int64) (I : Nat → Int32) (A : Nat → Nat → Int32)  (x1 : Int32) (r : Int32) (hf : fX9_bodyOf B I A x1 = some r) : Met l yX9_bodyOf wsX9_bodyOf ({ frames := 0, cells := 0, slots := 0, locals := 0 }) (va_Pc [.ref (Q 100), .int x1] (fun U => va_P (dC, dI) vwCl (wM cI cB cJ Q B I A) U.heap ∧ va_K (dC, dI) vwCl (tM cI cB cJ) U)) (QcRead r) 0 0 (fun _ => False) := by
  refine Met.ofW (cc := cX9_bodyOf) (maxL := 5) (ret := (some .int)) (by decide) rfl ?_
  intro p e s m args below meth c s₁ BL hml hv
  obtain ⟨rfl, hP, hK⟩ := hv
  have hx := BL.exec
  have hb := BL.bytes
  have hr := BL.returns
  have hts := atoms_spec (ws := wsX9_bodyOf) BL.pre
  have hown : s.vm.findClass RX9 = some m.cls := findClass_of_methodNamed BL.named
  have hlocks := BL.notSynchronized
  have hinX9 : ∀ w ∈ u_ws RX9 TX9 36, w ∈ wsX9_bodyOf := by decide +kernel
  have hk17 := hts (.fieldLink RX9 17 "LeadSheetsModel" "halves" "[I") (by decide +kernel)
  have hk20 := hts (.fieldLink RX9 20 "LeadSheetsModel" "degrees" "[I") (by decide +kernel)
  have hk23 := hts (.fieldLink RX9 23 "LeadSheetsModel" "stepMany" "[I") (by decide +kernel)
  have hk35 := hts (.fieldLink RX9 35 "LeadSheetsModel" "bodyHalves" "[I") (by decide +kernel)
  have hk38 := hts (.fieldLink RX9 38 "LeadSheetsModel" "bodyDegrees" "[I") (by decide +kernel)
  have hk41 := hts (.fieldLink RX9 41 "LeadSheetsModel" "bodyMany" "[I") (by decide +kernel)
  have sg113 : ∀ (k2 : Int32 → Int32 → Option Int32), (∀  (v1 : Int32) (v2 : Int32) (ls : Array Slot), k2  v1 v2 = some r → lv_has ls 5 [(0, .ref (Q 100)), (1, .int v1), (2, .int v2)] → W p l e (headSpec wsX9_bodyOf ({ frames := 0, cells := 0, slots := 0, locals := 0 })).room s m (([.ref (Q 100), .int x1] : List Value).toArray) below meth c s.heap [] 0 0 (MQ below (QcRead r) (([.ref (Q 100), .int x1] : List Value).toArray) s 0 0 (fun _ => False)) (F0 m 2 ls [])) → ∀  (v1 : Int32) (v2 : Int32) (v3 : Int32) (ls : Array Slot), fX9_bodyOf_113 B I A k2  v1 v2 v3 = some r → lv_has ls 5 [(0, .ref (Q 100)), (1, .int v1), (2, .int v2), (3, .int v3)] → W p l e (headSpec wsX9_bodyOf ({ frames := 0, cells := 0, slots := 0, locals := 0 })).room s m (([.ref (Q 100), .int x1] : List Value).toArray) below meth c s.heap [] 0 0 (MQ below (QcRead r) (([.ref (Q 100), .int x1] : List Value).toArray) s 0 0 (fun _ => False)) (F0 m 113 ls []) := by
    intro k2 ih2
    intro v1 v2 v3 ls hf hl
    unfold fX9_bodyOf_113 at hf
    refine lv_iload_n hx hb dX9_bodyOf_113 rfl (lv_at hl 3 rfl) ?_
    refine lv_if_eq (tgt := 119) hx hb dX9_bodyOf_114 (by decide) (fun c14 => ?_) (fun c14 => ?_)
    · have hf := (if_pos c14).symm.trans hf
      refine lv_iinc (v := (v2 + (1 : Int32))) (lv' := [(2, .int (v2 + (1 : Int32))), (0, .ref (Q 100)), (1, .int v1), (3, .int v3)]) hx hb dX9_bodyOf_119 hl (k := 2) rfl rfl (by decide) rfl (fun ls hl => ?_)
      refine lv_goto (tgt := 2) hx hb dX9_bodyOf_122 (by decide) ?_
      exact ih2 v1 (v2 + (1 : Int32)) ls hf (lv_sub hl [1, 2, 0] rfl)
    · have hf := (if_neg c14).symm.trans hf
      refine lv_iload_n hx hb dX9_bodyOf_117 rfl (lv_at hl 2 rfl) ?_
      exact W.iret (v := v2) hx hb hr (fun t ht hW => ⟨congrArg (fun z => Outcome.returned (some (Value.int z))) (Option.some.inj hf), ht⟩) (fun _ h => nomatch h) dX9_bodyOf_118
  have sg32 : ∀ (k2 : Int32 → Int32 → Option Int32), (∀  (v1 : Int32) (v2 : Int32) (ls : Array Slot), k2  v1 v2 = some r → lv_has ls 5 [(0, .ref (Q 100)), (1, .int v1), (2, .int v2)] → W p l e (headSpec wsX9_bodyOf ({ frames := 0, cells := 0, slots := 0, locals := 0 })).room s m (([.ref (Q 100), .int x1] : List Value).toArray) below meth c s.heap [] 0 0 (MQ below (QcRead r) (([.ref (Q 100), .int x1] : List Value).toArray) s 0 0 (fun _ => False)) (F0 m 2 ls [])) → ∀ n : Nat, ∀  (v1 : Int32) (v2 : Int32) (v3 : Int32) (v4 : Int32) (ls : Array Slot), fX9_bodyOf_32 B I A k2 n  v1 v2 v3 v4 = some r → lv_has ls 5 [(0, .ref (Q 100)), (1, .int v1), (2, .int v2), (3, .int v3), (4, .int v4)] → W p l e (headSpec wsX9_bodyOf ({ frames := 0, cells := 0, slots := 0, locals := 0 })).room s m (([.ref (Q 100), .int x1] : List Value).toArray) below meth c s.heap [] 0 0 (MQ below (QcRead r) (([.ref (Q 100), .int x1] : List Value).toArray) s 0 0 (fun _ => False)) (F0 m 32 ls []) := by
    intro k2 ih2
    intro n
    induction n with
    | zero => intro v1 v2 v3 v4 ls hf hl; exact of_none hf
    | succ n ih32 =>
      intro v1 v2 v3 v4 ls hf hl
      change fX9_bodyOf_32B B I A k2 (fX9_bodyOf_32 B I A k2 n) v1 v2 v3 v4 = _ at hf
      unfold fX9_bodyOf_32B at hf
      refine lv_iload hx hb dX9_bodyOf_32 (lv_at hl 4 rfl) ?_
      refine lv_aload_n hx hb dX9_bodyOf_34 rfl (lv_at hl 0 rfl) ?_
      refine va_get (D := (dC, dI)) (ci := 6) (v := .ref (Q 5)) (C := RX9) (T := TX9) (N := 36) hx hb hts hinX9 hown hK hP 0 rfl rfl 5 (by decide) hk23 (fun _ h9 => h9) rfl dX9_bodyOf_35 ?_
      refine lv_iload_n hx hb dX9_bodyOf_38 rfl (lv_at hl 1 rfl) ?_
      obtain ⟨g5, hf⟩ := of_ite_some hf
      refine va_iald hx hb hK hP 5 0 (n := 100) (f := (A 5)) rfl rfl g5 dX9_bodyOf_39 ?_
      refine lv_icmp_ge (tgt := 113) hx hb dX9_bodyOf_40 (by decide) (fun c6 => ?_) (fun c6 => ?_)
      · have hf := (if_pos c6).symm.trans hf
        exact sg113 _ ih2 v1 v2 v3 ls hf (lv_sub hl [0, 1, 2, 3] rfl)
      · have hf := (if_neg c6).symm.trans hf
        refine lv_iload_n hx hb dX9_bodyOf_43 rfl (lv_at hl 3 rfl) ?_
        refine lv_if_eq (tgt := 113) hx hb dX9_bodyOf_44 (by decide) (fun c7 => ?_) (fun c7 => ?_)
        · have hf := (if_pos c7).symm.trans hf
          exact sg113 _ ih2 v1 v2 v3 ls hf (lv_sub hl [0, 1, 2, 3] rfl)
        · have hf := (if_neg c7).symm.trans hf
          refine lv_aload_n hx hb dX9_bodyOf_47 rfl (lv_at hl 0 rfl) ?_
          refine va_get (D := (dC, dI)) (ci := 6) (v := .ref (Q 13)) (C := RX9) (T := TX9) (N := 36) hx hb hts hinX9 hown hK hP 0 rfl rfl 13 (by decide) hk35 (fun _ h9 => h9) rfl dX9_bodyOf_48 ?_
          refine lv_bipush (v := (8 : Int32)) hx hb dX9_bodyOf_51 (by decide) ?_
          refine lv_iload_n hx hb dX9_bodyOf_53 rfl (lv_at hl 2 rfl) ?_
          refine lv_imul hx hb dX9_bodyOf_54 ?_
          refine lv_iload hx hb dX9_bodyOf_55 (lv_at hl 4 rfl) ?_
          refine lv_iadd hx hb dX9_bodyOf_57 ?_
          obtain ⟨g8, hf⟩ := of_ite_some hf
          refine va_iald hx hb hK hP 9 0 (n := 160) (f := (A 13)) rfl rfl g8 dX9_bodyOf_58 ?_
          refine lv_aload_n hx hb dX9_bodyOf_59 rfl (lv_at hl 0 rfl) ?_
          refine va_get (D := (dC, dI)) (ci := 6) (v := .ref (Q 3)) (C := RX9) (T := TX9) (N := 36) hx hb hts hinX9 hown hK hP 0 rfl rfl 3 (by decide) hk17 (fun _ h9 => h9) rfl dX9_bodyOf_60 ?_
          refine lv_bipush (v := (16 : Int32)) hx hb dX9_bodyOf_63 (by decide) ?_
          refine lv_iload_n hx hb dX9_bodyOf_65 rfl (lv_at hl 1 rfl) ?_
          refine lv_imul hx hb dX9_bodyOf_66 ?_
          refine lv_iload hx hb dX9_bodyOf_67 (lv_at hl 4 rfl) ?_
          refine lv_iadd hx hb dX9_bodyOf_69 ?_
          obtain ⟨g9, hf⟩ := of_ite_some hf
          refine va_iald hx hb hK hP 3 0 (n := 1600) (f := (A 3)) rfl rfl g9 dX9_bodyOf_70 ?_
          refine lv_icmp_ne (tgt := 105) hx hb dX9_bodyOf_71 (by decide) (fun c10 => ?_) (fun c10 => ?_)
          · have hf := (if_neg c10).symm.trans hf
            refine lv_iconst (v := (0 : Int32)) hx hb dX9_bodyOf_105 (by decide) ?_
            refine lv_istore_n (lv' := [(3, .int (0 : Int32)), (0, .ref (Q 100)), (1, .int v1), (2, .int v2), (4, .int v4)]) hx hb dX9_bodyOf_106 rfl hl (by decide) rfl (fun ls hl => ?_)
            refine lv_iinc (v := (v4 + (1 : Int32))) (lv' := [(4, .int (v4 + (1 : Int32))), (3, .int (0 : Int32)), (0, .ref (Q 100)), (1, .int v1), (2, .int v2)]) hx hb dX9_bodyOf_107 hl (k := 4) rfl rfl (by decide) rfl (fun ls hl => ?_)
            refine lv_goto (tgt := 32) hx hb dX9_bodyOf_110 (by decide) ?_
            exact ih32 v1 v2 (0 : Int32) (v4 + (1 : Int32)) ls hf (lv_sub hl [2, 3, 4, 1, 0] rfl)
          · have hf := (if_pos c10).symm.trans hf
            refine lv_aload_n hx hb dX9_bodyOf_74 rfl (lv_at hl 0 rfl) ?_
            refine va_get (D := (dC, dI)) (ci := 6) (v := .ref (Q 14)) (C := RX9) (T := TX9) (N := 36) hx hb hts hinX9 hown hK hP 0 rfl rfl 14 (by decide) hk38 (fun _ h9 => h9) rfl dX9_bodyOf_75 ?_
            refine lv_bipush (v := (8 : Int32)) hx hb dX9_bodyOf_78 (by decide) ?_
            refine lv_iload_n hx hb dX9_bodyOf_80 rfl (lv_at hl 2 rfl) ?_
            refine lv_imul hx hb dX9_bodyOf_81 ?_
            refine lv_iload hx hb dX9_bodyOf_82 (lv_at hl 4 rfl) ?_
            refine lv_iadd hx hb dX9_bodyOf_84 ?_
            obtain ⟨g11, hf⟩ := of_ite_some hf
            refine va_iald hx hb hK hP 10 0 (n := 160) (f := (A 14)) rfl rfl g11 dX9_bodyOf_85 ?_
            refine lv_aload_n hx hb dX9_bodyOf_86 rfl (lv_at hl 0 rfl) ?_
            refine va_get (D := (dC, dI)) (ci := 6) (v := .ref (Q 4)) (C := RX9) (T := TX9) (N := 36) hx hb hts hinX9 hown hK hP 0 rfl rfl 4 (by decide) hk20 (fun _ h9 => h9) rfl dX9_bodyOf_87 ?_
            refine lv_bipush (v := (16 : Int32)) hx hb dX9_bodyOf_90 (by decide) ?_
            refine lv_iload_n hx hb dX9_bodyOf_92 rfl (lv_at hl 1 rfl) ?_
            refine lv_imul hx hb dX9_bodyOf_93 ?_
            refine lv_iload hx hb dX9_bodyOf_94 (lv_at hl 4 rfl) ?_
            refine lv_iadd hx hb dX9_bodyOf_96 ?_
            obtain ⟨g12, hf⟩ := of_ite_some hf
            refine va_iald hx hb hK hP 4 0 (n := 1600) (f := (A 4)) rfl rfl g12 dX9_bodyOf_97 ?_
            refine lv_icmp_ne (tgt := 105) hx hb dX9_bodyOf_98 (by decide) (fun c13 => ?_) (fun c13 => ?_)
            · have hf := (if_neg c13).symm.trans hf
              refine lv_iconst (v := (0 : Int32)) hx hb dX9_bodyOf_105 (by decide) ?_
              refine lv_istore_n (lv' := [(3, .int (0 : Int32)), (0, .ref (Q 100)), (1, .int v1), (2, .int v2), (4, .int v4)]) hx hb dX9_bodyOf_106 rfl hl (by decide) rfl (fun ls hl => ?_)
              refine lv_iinc (v := (v4 + (1 : Int32))) (lv' := [(4, .int (v4 + (1 : Int32))), (3, .int (0 : Int32)), (0, .ref (Q 100)), (1, .int v1), (2, .int v2)]) hx hb dX9_bodyOf_107 hl (k := 4) rfl rfl (by decide) rfl (fun ls hl => ?_)
              refine lv_goto (tgt := 32) hx hb dX9_bodyOf_110 (by decide) ?_
              exact ih32 v1 v2 (0 : Int32) (v4 + (1 : Int32)) ls hf (lv_sub hl [2, 3, 4, 1, 0] rfl)
            · have hf := (if_pos c13).symm.trans hf
              refine lv_iconst (v := (1 : Int32)) hx hb dX9_bodyOf_101 (by decide) ?_
              refine lv_goto (tgt := 106) hx hb dX9_bodyOf_102 (by decide) ?_
              refine lv_istore_n (lv' := [(3, .int (1 : Int32)), (0, .ref (Q 100)), (1, .int v1), (2, .int v2), (4, .int v4)]) hx hb dX9_bodyOf_106 rfl hl (by decide) rfl (fun ls hl => ?_)
              refine lv_iinc (v := (v4 + (1 : Int32))) (lv' := [(4, .int (v4 + (1 : Int32))), (3, .int (1 : Int32)), (0, .ref (Q 100)), (1, .int v1), (2, .int v2)]) hx hb dX9_bodyOf_107 hl (k := 4) rfl rfl (by decide) rfl (fun ls hl => ?_)
              refine lv_goto (tgt := 32) hx hb dX9_bodyOf_110 (by decide) ?_
              exact ih32 v1 v2 (1 : Int32) (v4 + (1 : Int32)) ls hf (lv_sub hl [2, 3, 4, 1, 0] rfl)
  have sg2 : ∀ n : Nat, ∀  (v1 : Int32) (v2 : Int32) (ls : Array Slot), fX9_bodyOf_2 B I A  n  v1 v2 = some r → lv_has ls 5 [(0, .ref (Q 100)), (1, .int v1), (2, .int v2)] → W p l e (headSpec wsX9_bodyOf ({ frames := 0, cells := 0, slots := 0, locals := 0 })).room s m (([.ref (Q 100), .int x1] : List Value).toArray) below meth c s.heap [] 0 0 (MQ below (QcRead r) (([.ref (Q 100), .int x1] : List Value).toArray) s 0 0 (fun _ => False)) (F0 m 2 ls []) := by
    intro n
    induction n with
    | zero => intro v1 v2 ls hf hl; exact of_none hf
    | succ n ih2 =>
      intro v1 v2 ls hf hl
      change fX9_bodyOf_2B B I A  (fX9_bodyOf_2 B I A  n) v1 v2 = _ at hf
      unfold fX9_bodyOf_2B at hf
      refine lv_iload_n hx hb dX9_bodyOf_2 rfl (lv_at hl 2 rfl) ?_
      refine lv_bipush (v := (20 : Int32)) hx hb dX9_bodyOf_3 (by decide) ?_
      refine lv_icmp_ge (tgt := 125) hx hb dX9_bodyOf_5 (by decide) (fun c1 => ?_) (fun c1 => ?_)
      · have hf := (if_pos c1).symm.trans hf
        refine lv_bipush (v := (-2 : Int32)) hx hb dX9_bodyOf_125 (by decide) ?_
        exact W.iret (v := (-2 : Int32)) hx hb hr (fun t ht hW => ⟨congrArg (fun z => Outcome.returned (some (Value.int z))) (Option.some.inj hf), ht⟩) (fun _ h => nomatch h) dX9_bodyOf_127
      · have hf := (if_neg c1).symm.trans hf
        refine lv_aload_n hx hb dX9_bodyOf_8 rfl (lv_at hl 0 rfl) ?_
        refine va_get (D := (dC, dI)) (ci := 6) (v := .ref (Q 15)) (C := RX9) (T := TX9) (N := 36) hx hb hts hinX9 hown hK hP 0 rfl rfl 15 (by decide) hk41 (fun _ h9 => h9) rfl dX9_bodyOf_9 ?_
        refine lv_iload_n hx hb dX9_bodyOf_12 rfl (lv_at hl 2 rfl) ?_
        obtain ⟨g2, hf⟩ := of_ite_some hf
        refine va_iald hx hb hK hP 11 0 (n := 20) (f := (A 15)) rfl rfl g2 dX9_bodyOf_13 ?_
        refine lv_aload_n hx hb dX9_bodyOf_14 rfl (lv_at hl 0 rfl) ?_
        refine va_get (D := (dC, dI)) (ci := 6) (v := .ref (Q 5)) (C := RX9) (T := TX9) (N := 36) hx hb hts hinX9 hown hK hP 0 rfl rfl 5 (by decide) hk23 (fun _ h9 => h9) rfl dX9_bodyOf_15 ?_
        refine lv_iload_n hx hb dX9_bodyOf_18 rfl (lv_at hl 1 rfl) ?_
        obtain ⟨g3, hf⟩ := of_ite_some hf
        refine va_iald hx hb hK hP 5 0 (n := 100) (f := (A 5)) rfl rfl g3 dX9_bodyOf_19 ?_
        refine lv_icmp_ne (tgt := 27) hx hb dX9_bodyOf_20 (by decide) (fun c4 => ?_) (fun c4 => ?_)
        · have hf := (if_neg c4).symm.trans hf
          refine lv_iconst (v := (0 : Int32)) hx hb dX9_bodyOf_27 (by decide) ?_
          refine lv_istore_n (lv' := [(3, .int (0 : Int32)), (0, .ref (Q 100)), (1, .int v1), (2, .int v2)]) hx hb dX9_bodyOf_28 rfl hl (by decide) rfl (fun ls hl => ?_)
          refine lv_iconst (v := (0 : Int32)) hx hb dX9_bodyOf_29 (by decide) ?_
          refine lv_istore (lv' := [(4, .int (0 : Int32)), (3, .int (0 : Int32)), (0, .ref (Q 100)), (1, .int v1), (2, .int v2)]) hx hb dX9_bodyOf_30 hl (by decide) rfl (fun ls hl => ?_)
          exact sg32 _ ih2 FU v1 v2 (0 : Int32) (0 : Int32) ls hf (lv_sub hl [2, 3, 4, 1, 0] rfl)
        · have hf := (if_pos c4).symm.trans hf
          refine lv_iconst (v := (1 : Int32)) hx hb dX9_bodyOf_23 (by decide) ?_
          refine lv_goto (tgt := 28) hx hb dX9_bodyOf_24 (by decide) ?_
          refine lv_istore_n (lv' := [(3, .int (1 : Int32)), (0, .ref (Q 100)), (1, .int v1), (2, .int v2)]) hx hb dX9_bodyOf_28 rfl hl (by decide) rfl (fun ls hl => ?_)
          refine lv_iconst (v := (0 : Int32)) hx hb dX9_bodyOf_29 (by decide) ?_
          refine lv_istore (lv' := [(4, .int (0 : Int32)), (3, .int (1 : Int32)), (0, .ref (Q 100)), (1, .int v1), (2, .int v2)]) hx hb dX9_bodyOf_30 hl (by decide) rfl (fun ls hl => ?_)
          exact sg32 _ ih2 FU v1 v2 (1 : Int32) (0 : Int32) ls hf (lv_sub hl [2, 3, 4, 1, 0] rfl)
  have hl := lv_entry ([.ref (Q 100), .int x1]) (n := 5) (Nat.le_of_ble_eq_true rfl)
  rw [lg_entry_eq]
  generalize (lg_sl ([.ref (Q 100), .int x1]) ++ List.replicate (5 - (lg_sl ([.ref (Q 100), .int x1])).length) Slot.unset).toArray = ls at hl ⊢
  have hl : lv_has ls 5 [(0, .ref (Q 100)), (1, .int x1)] := hl
  unfold fX9_bodyOf at hf
  refine lv_iconst (v := (0 : Int32)) hx hb dX9_bodyOf_0 (by decide) ?_
  refine lv_istore_n (lv' := [(2, .int (0 : Int32)), (0, .ref (Q 100)), (1, .int x1)]) hx hb dX9_bodyOf_1 rfl hl (by decide) rfl (fun ls hl => ?_)
  exact sg2  FU x1 (0 : Int32) ls hf (lv_sub hl [1, 2, 0] rfl)
def fX9_of (B : Nat → Nat → Int64) (I : Nat → Int32) (A : Nat → Nat → Int32)  (x1 : Int32) (x2 : Int32) : Option Int32 :=
  ((fX9_isChord B I A x1).bind fun r1 => (if r1 = 0 then (some (-1 : Int32)) else (if (fX9_isIn x2 (0 : Int32) (6 : Int32)) = 0 then (some (-1 : Int32)) else (if x2 = (0 : Int32) then ((fX9_rootOf B I A x1).bind fun r6 => (some r6)) else (if x2 = (1 : Int32) then ((fX9_bassOf B I A x1).bind fun r9 => (some r9)) else (if x2 = (2 : Int32) then (if gd x1 100 then (some ((A 5) x1.toNatClampNeg)) else none) else (if x2 = (3 : Int32) then ((fX9_setOf B I A x1).bind fun r14 => (some r14)) else (if x2 = (4 : Int32) then (if gd ((5 : Int32) * x1) 500 then (if gd (((5 : Int32) * x1) + (1 : Int32)) 500 then ((fX9_stepsWeight B I A x1 ((A 2) ((5 : Int32) * x1).toNatClampNeg) ((A 2) (((5 : Int32) * x1) + (1 : Int32)).toNatClampNeg)).bind fun r19 => (if gd (((5 : Int32) * x1) + (3 : Int32)) 500 then (some (r19 + (fX9_size ((A 2) (((5 : Int32) * x1) + (3 : Int32)).toNatClampNeg)))) else none)) else none) else none) else (if x2 = (5 : Int32) then ((fX9_bodyOf B I A x1).bind fun r23 => (some r23)) else (if gd (((5 : Int32) * x1) + (4 : Int32)) 500 then (some ((A 2) (((5 : Int32) * x1) + (4 : Int32)).toNatClampNeg)) else none))))))))))
set_option maxRecDepth 100000 in
set_option maxHeartbeats 4000000 in
theorem mX9_of (l : Launch) (dC : Nat → ClassId) (dI : Nat → Nat → Nat) (cI cB cJ : ClassId) (Q : Nat → Nat) (B : Nat → Nat → Int64) (I : Nat → Int32) (A : Nat → Nat → Int32)  (x1 : Int32) (x2 : Int32) (r : Int32) (hf : fX9_of B I A x1 x2 = some r) : Met l yX9_of wsX9_of ({ frames := 3, cells := 0, slots := 0, locals := 69 }) (va_Pc [.ref (Q 100), .int x1, .int x2] (fun U => va_P (dC, dI) vwCl (wM cI cB cJ Q B I A) U.heap ∧ va_K (dC, dI) vwCl (tM cI cB cJ) U)) (QcRead r) 0 0 (fun _ => False) := by
  refine Met.ofW (cc := cX9_of) (maxL := 4) (ret := (some .int)) (by decide) rfl ?_
  intro p e s m args below meth c s₁ BL hml hv
  obtain ⟨rfl, hP, hK⟩ := hv
  have hx := BL.exec
  have hb := BL.bytes
  have hr := BL.returns
  have hts := atoms_spec (ws := wsX9_of) BL.pre
  have hown : s.vm.findClass RX9 = some m.cls := findClass_of_methodNamed BL.named
  have hlocks := BL.notSynchronized
  have hinX9 : ∀ w ∈ u_ws RX9 TX9 36, w ∈ wsX9_of := by decide +kernel
  have hk13 := hts (.fieldLink RX9 13 "LeadSheetsModel" "heads" "[I") (by decide +kernel)
  have hk23 := hts (.fieldLink RX9 23 "LeadSheetsModel" "stepMany" "[I") (by decide +kernel)
  have hl := lv_entry ([.ref (Q 100), .int x1, .int x2]) (n := 4) (Nat.le_of_ble_eq_true rfl)
  rw [lg_entry_eq]
  generalize (lg_sl ([.ref (Q 100), .int x1, .int x2]) ++ List.replicate (4 - (lg_sl ([.ref (Q 100), .int x1, .int x2])).length) Slot.unset).toArray = ls at hl ⊢
  have hl : lv_has ls 4 [(0, .ref (Q 100)), (1, .int x1), (2, .int x2)] := hl
  unfold fX9_of at hf
  refine lv_aload_n hx hb dX9_of_0 rfl (lv_at hl 0 rfl) ?_
  refine lv_iload_n hx hb dX9_of_1 rfl (lv_at hl 1 rfl) ?_
  obtain ⟨r1, hc2, hf⟩ := of_bind_some hf
  refine W.callR (r := r1) (W.runV (As := [.int x1]) (rest := []) ⟨hx, hb, hml, hown, hts⟩ (mX9_isChord l dC dI cI cB cJ Q B I A x1 r1 hc2) (cwV 1 hts gX9_of_X9_isChord rfl rfl rfl (by decide +kernel) ⟨Nat.le_of_ble_eq_true rfl, Nat.le_of_ble_eq_true rfl⟩) ⟨blindR, va_recv hK hP (ci := 6) (q0 := 0) rfl rfl, fun U hU hW => ⟨rfl, by rw [hU]; exact hP, va_K.moved hW.alike hK⟩⟩ rfl rfl hl.1 rfl (lv_room (Nat.le_of_ble_eq_true rfl)) dX9_of_2 ⟨Nat.zero_le _, Nat.zero_le _⟩) ?_
  refine W.eq (g2 := F0 m 5 ls [.int r1]) rfl ?_
  refine lv_if_eq (tgt := 18) hx hb dX9_of_5 (by decide) (fun c3 => ?_) (fun c3 => ?_)
  · have hf := (if_pos c3).symm.trans hf
    refine lv_iconst (v := (-1 : Int32)) hx hb dX9_of_18 (by decide) ?_
    exact W.iret (v := (-1 : Int32)) hx hb hr (fun t ht hW => ⟨congrArg (fun z => Outcome.returned (some (Value.int z))) (Option.some.inj hf), ht⟩) (fun _ h => nomatch h) dX9_of_19
  · have hf := (if_neg c3).symm.trans hf
    refine lv_iload_n hx hb dX9_of_8 rfl (lv_at hl 2 rfl) ?_
    refine lv_iconst (v := (0 : Int32)) hx hb dX9_of_9 (by decide) ?_
    refine lv_bipush (v := (6 : Int32)) hx hb dX9_of_10 (by decide) ?_
    refine W.callR (r := (fX9_isIn x2 (0 : Int32) (6 : Int32))) (W.runS (As := [.int x2, .int (0 : Int32), .int (6 : Int32)]) (rest := []) ⟨hx, hb, hml, hown, hts⟩ (mX9_isIn l x2 (0 : Int32) (6 : Int32) (fX9_isIn x2 (0 : Int32) (6 : Int32)) rfl) (va_cwS 3 hts gX9_of_X9_isIn rfl rfl rfl (by decide +kernel) ⟨Nat.le_of_ble_eq_true rfl, Nat.le_of_ble_eq_true rfl⟩) ⟨fun _ _ _ _ q => q, fun U hU hW => ⟨rfl, trivial⟩⟩ rfl rfl hl.1 rfl (lv_room (Nat.le_of_ble_eq_true rfl)) dX9_of_12 ⟨Nat.zero_le _, Nat.zero_le _⟩) ?_
    refine W.eq (g2 := F0 m 15 ls [.int (fX9_isIn x2 (0 : Int32) (6 : Int32))]) rfl ?_
    refine lv_if_ne (tgt := 20) hx hb dX9_of_15 (by decide) (fun c4 => ?_) (fun c4 => ?_)
    · have hf := (if_neg c4).symm.trans hf
      refine lv_iconst (v := (5 : Int32)) hx hb dX9_of_20 (by decide) ?_
      refine lv_iload_n hx hb dX9_of_21 rfl (lv_at hl 1 rfl) ?_
      refine lv_imul hx hb dX9_of_22 ?_
      refine lv_istore_n (lv' := [(3, .int ((5 : Int32) * x1)), (0, .ref (Q 100)), (1, .int x1), (2, .int x2)]) hx hb dX9_of_23 rfl hl (by decide) rfl (fun ls hl => ?_)
      refine lv_iload_n hx hb dX9_of_24 rfl (lv_at hl 3 rfl) ?_
      by_cases c5 : x2 = (0 : Int32)
      · have hf := (if_pos c5).symm.trans hf
        refine lv_tableIn (tgt := 64) hx hb dX9_of_25 (by rw [c5]; decide) (by rw [c5]; decide) (by rw [c5]; rfl) (by decide) ?_
        refine lv_aload_n hx hb dX9_of_64 rfl (lv_at hl 1 rfl) ?_
        refine lv_iload_n hx hb dX9_of_65 rfl (lv_at hl 2 rfl) ?_
        obtain ⟨r6, hc7, hf⟩ := of_bind_some hf
        refine W.callR (r := r6) (W.runV (As := [.int x1]) (rest := []) ⟨hx, hb, hml, hown, hts⟩ (mX9_rootOf l dC dI cI cB cJ Q B I A x1 r6 hc7) (cwV 1 hts gX9_of_X9_rootOf rfl rfl rfl (by decide +kernel) ⟨Nat.le_of_ble_eq_true rfl, Nat.le_of_ble_eq_true rfl⟩) ⟨blindR, va_recv hK hP (ci := 6) (q0 := 0) rfl rfl, fun U hU hW => ⟨rfl, by rw [hU]; exact hP, va_K.moved hW.alike hK⟩⟩ rfl rfl hl.1 rfl (lv_room (Nat.le_of_ble_eq_true rfl)) dX9_of_66 ⟨Nat.zero_le _, Nat.zero_le _⟩) ?_
        refine W.eq (g2 := F0 m 69 ls [.int r6]) rfl ?_
        exact W.iret (v := r6) hx hb hr (fun t ht hW => ⟨congrArg (fun z => Outcome.returned (some (Value.int z))) (Option.some.inj hf), ht⟩) (fun _ h => nomatch h) dX9_of_69
      have hf := (if_neg c5).symm.trans hf
      by_cases c8 : x2 = (1 : Int32)
      · have hf := (if_pos c8).symm.trans hf
        refine lv_tableIn (tgt := 70) hx hb dX9_of_25 (by rw [c8]; decide) (by rw [c8]; decide) (by rw [c8]; rfl) (by decide) ?_
        refine lv_aload_n hx hb dX9_of_70 rfl (lv_at hl 1 rfl) ?_
        refine lv_iload_n hx hb dX9_of_71 rfl (lv_at hl 2 rfl) ?_
        obtain ⟨r9, hc10, hf⟩ := of_bind_some hf
        refine W.callR (r := r9) (W.runV (As := [.int x1]) (rest := []) ⟨hx, hb, hml, hown, hts⟩ (mX9_bassOf l dC dI cI cB cJ Q B I A x1 r9 hc10) (cwV 1 hts gX9_of_X9_bassOf rfl rfl rfl (by decide +kernel) ⟨Nat.le_of_ble_eq_true rfl, Nat.le_of_ble_eq_true rfl⟩) ⟨blindR, va_recv hK hP (ci := 6) (q0 := 0) rfl rfl, fun U hU hW => ⟨rfl, by rw [hU]; exact hP, va_K.moved hW.alike hK⟩⟩ rfl rfl hl.1 rfl (lv_room (Nat.le_of_ble_eq_true rfl)) dX9_of_72 ⟨Nat.zero_le _, Nat.zero_le _⟩) ?_
        refine W.eq (g2 := F0 m 75 ls [.int r9]) rfl ?_
        exact W.iret (v := r9) hx hb hr (fun t ht hW => ⟨congrArg (fun z => Outcome.returned (some (Value.int z))) (Option.some.inj hf), ht⟩) (fun _ h => nomatch h) dX9_of_75
      have hf := (if_neg c8).symm.trans hf
      by_cases c11 : x2 = (2 : Int32)
      · have hf := (if_pos c11).symm.trans hf
        refine lv_tableIn (tgt := 76) hx hb dX9_of_25 (by rw [c11]; decide) (by rw [c11]; decide) (by rw [c11]; rfl) (by decide) ?_
        refine lv_aload_n hx hb dX9_of_76 rfl (lv_at hl 1 rfl) ?_
        refine va_get (D := (dC, dI)) (ci := 6) (v := .ref (Q 5)) (C := RX9) (T := TX9) (N := 36) hx hb hts hinX9 hown hK hP 0 rfl rfl 5 (by decide) hk23 (fun _ h9 => h9) rfl dX9_of_77 ?_
        refine lv_iload_n hx hb dX9_of_80 rfl (lv_at hl 2 rfl) ?_
        obtain ⟨g12, hf⟩ := of_ite_some hf
        refine va_iald hx hb hK hP 5 0 (n := 100) (f := (A 5)) rfl rfl g12 dX9_of_81 ?_
        exact W.iret (v := ((A 5) x1.toNatClampNeg)) hx hb hr (fun t ht hW => ⟨congrArg (fun z => Outcome.returned (some (Value.int z))) (Option.some.inj hf), ht⟩) (fun _ h => nomatch h) dX9_of_82
      have hf := (if_neg c11).symm.trans hf
      by_cases c13 : x2 = (3 : Int32)
      · have hf := (if_pos c13).symm.trans hf
        refine lv_tableIn (tgt := 83) hx hb dX9_of_25 (by rw [c13]; decide) (by rw [c13]; decide) (by rw [c13]; rfl) (by decide) ?_
        refine lv_aload_n hx hb dX9_of_83 rfl (lv_at hl 1 rfl) ?_
        refine lv_iload_n hx hb dX9_of_84 rfl (lv_at hl 2 rfl) ?_
        obtain ⟨r14, hc15, hf⟩ := of_bind_some hf
        refine W.callR (r := r14) (W.runV (As := [.int x1]) (rest := []) ⟨hx, hb, hml, hown, hts⟩ (mX9_setOf l dC dI cI cB cJ Q B I A x1 r14 hc15) (cwV 1 hts gX9_of_X9_setOf rfl rfl rfl (by decide +kernel) ⟨Nat.le_of_ble_eq_true rfl, Nat.le_of_ble_eq_true rfl⟩) ⟨blindR, va_recv hK hP (ci := 6) (q0 := 0) rfl rfl, fun U hU hW => ⟨rfl, by rw [hU]; exact hP, va_K.moved hW.alike hK⟩⟩ rfl rfl hl.1 rfl (lv_room (Nat.le_of_ble_eq_true rfl)) dX9_of_85 ⟨Nat.zero_le _, Nat.zero_le _⟩) ?_
        refine W.eq (g2 := F0 m 88 ls [.int r14]) rfl ?_
        exact W.iret (v := r14) hx hb hr (fun t ht hW => ⟨congrArg (fun z => Outcome.returned (some (Value.int z))) (Option.some.inj hf), ht⟩) (fun _ h => nomatch h) dX9_of_88
      have hf := (if_neg c13).symm.trans hf
      by_cases c16 : x2 = (4 : Int32)
      · have hf := (if_pos c16).symm.trans hf
        refine lv_tableIn (tgt := 89) hx hb dX9_of_25 (by rw [c16]; decide) (by rw [c16]; decide) (by rw [c16]; rfl) (by decide) ?_
        refine lv_aload_n hx hb dX9_of_89 rfl (lv_at hl 1 rfl) ?_
        refine lv_iload_n hx hb dX9_of_90 rfl (lv_at hl 2 rfl) ?_
        refine lv_aload_n hx hb dX9_of_91 rfl (lv_at hl 1 rfl) ?_
        refine va_get (D := (dC, dI)) (ci := 6) (v := .ref (Q 2)) (C := RX9) (T := TX9) (N := 36) hx hb hts hinX9 hown hK hP 0 rfl rfl 2 (by decide) hk13 (fun _ h9 => h9) rfl dX9_of_92 ?_
        refine lv_iload_n hx hb dX9_of_95 rfl (lv_at hl 0 rfl) ?_
        obtain ⟨g17, hf⟩ := of_ite_some hf
        refine va_iald hx hb hK hP 2 0 (n := 500) (f := (A 2)) rfl rfl g17 dX9_of_96 ?_
        refine lv_aload_n hx hb dX9_of_97 rfl (lv_at hl 1 rfl) ?_
        refine va_get (D := (dC, dI)) (ci := 6) (v := .ref (Q 2)) (C := RX9) (T := TX9) (N := 36) hx hb hts hinX9 hown hK hP 0 rfl rfl 2 (by decide) hk13 (fun _ h9 => h9) rfl dX9_of_98 ?_
        refine lv_iload_n hx hb dX9_of_101 rfl (lv_at hl 0 rfl) ?_
        refine lv_iconst (v := (1 : Int32)) hx hb dX9_of_102 (by decide) ?_
        refine lv_iadd hx hb dX9_of_103 ?_
        obtain ⟨g18, hf⟩ := of_ite_some hf
        refine va_iald hx hb hK hP 2 0 (n := 500) (f := (A 2)) rfl rfl g18 dX9_of_104 ?_
        obtain ⟨r19, hc20, hf⟩ := of_bind_some hf
        refine W.callR (r := r19) (W.runV (As := [.int x1, .int ((A 2) ((5 : Int32) * x1).toNatClampNeg), .int ((A 2) (((5 : Int32) * x1) + (1 : Int32)).toNatClampNeg)]) (rest := []) ⟨hx, hb, hml, hown, hts⟩ (mX9_stepsWeight l dC dI cI cB cJ Q B I A x1 ((A 2) ((5 : Int32) * x1).toNatClampNeg) ((A 2) (((5 : Int32) * x1) + (1 : Int32)).toNatClampNeg) r19 hc20) (cwV 3 hts gX9_of_X9_stepsWeight rfl rfl rfl (by decide +kernel) ⟨Nat.le_of_ble_eq_true rfl, Nat.le_of_ble_eq_true rfl⟩) ⟨blindR, va_recv hK hP (ci := 6) (q0 := 0) rfl rfl, fun U hU hW => ⟨rfl, by rw [hU]; exact hP, va_K.moved hW.alike hK⟩⟩ rfl rfl hl.1 rfl (lv_room (Nat.le_of_ble_eq_true rfl)) dX9_of_105 ⟨Nat.zero_le _, Nat.zero_le _⟩) ?_
        refine W.eq (g2 := F0 m 108 ls [.int r19]) rfl ?_
        refine lv_aload_n hx hb dX9_of_108 rfl (lv_at hl 1 rfl) ?_
        refine va_get (D := (dC, dI)) (ci := 6) (v := .ref (Q 2)) (C := RX9) (T := TX9) (N := 36) hx hb hts hinX9 hown hK hP 0 rfl rfl 2 (by decide) hk13 (fun _ h9 => h9) rfl dX9_of_109 ?_
        refine lv_iload_n hx hb dX9_of_112 rfl (lv_at hl 0 rfl) ?_
        refine lv_iconst (v := (3 : Int32)) hx hb dX9_of_113 (by decide) ?_
        refine lv_iadd hx hb dX9_of_114 ?_
        obtain ⟨g21, hf⟩ := of_ite_some hf
        refine va_iald hx hb hK hP 2 0 (n := 500) (f := (A 2)) rfl rfl g21 dX9_of_115 ?_
        refine W.callR (r := (fX9_size ((A 2) (((5 : Int32) * x1) + (3 : Int32)).toNatClampNeg))) (W.runS (As := [.int ((A 2) (((5 : Int32) * x1) + (3 : Int32)).toNatClampNeg)]) (rest := [.int r19]) ⟨hx, hb, hml, hown, hts⟩ (mX9_size l ((A 2) (((5 : Int32) * x1) + (3 : Int32)).toNatClampNeg) (fX9_size ((A 2) (((5 : Int32) * x1) + (3 : Int32)).toNatClampNeg)) rfl) (va_cwS 1 hts gX9_of_X9_size rfl rfl rfl (by decide +kernel) ⟨Nat.le_of_ble_eq_true rfl, Nat.le_of_ble_eq_true rfl⟩) ⟨fun _ _ _ _ q => q, fun U hU hW => ⟨rfl, trivial⟩⟩ rfl rfl hl.1 rfl (lv_room (Nat.le_of_ble_eq_true rfl)) dX9_of_116 ⟨Nat.zero_le _, Nat.zero_le _⟩) ?_
        refine W.eq (g2 := F0 m 119 ls [.int (fX9_size ((A 2) (((5 : Int32) * x1) + (3 : Int32)).toNatClampNeg)), .int r19]) rfl ?_
        refine lv_iadd hx hb dX9_of_119 ?_
        exact W.iret (v := (r19 + (fX9_size ((A 2) (((5 : Int32) * x1) + (3 : Int32)).toNatClampNeg)))) hx hb hr (fun t ht hW => ⟨congrArg (fun z => Outcome.returned (some (Value.int z))) (Option.some.inj hf), ht⟩) (fun _ h => nomatch h) dX9_of_120
      have hf := (if_neg c16).symm.trans hf
      by_cases c22 : x2 = (5 : Int32)
      · have hf := (if_pos c22).symm.trans hf
        refine lv_tableIn (tgt := 121) hx hb dX9_of_25 (by rw [c22]; decide) (by rw [c22]; decide) (by rw [c22]; rfl) (by decide) ?_
        refine lv_aload_n hx hb dX9_of_121 rfl (lv_at hl 1 rfl) ?_
        refine lv_iload_n hx hb dX9_of_122 rfl (lv_at hl 2 rfl) ?_
        obtain ⟨r23, hc24, hf⟩ := of_bind_some hf
        refine W.callR (r := r23) (W.runV (As := [.int x1]) (rest := []) ⟨hx, hb, hml, hown, hts⟩ (mX9_bodyOf l dC dI cI cB cJ Q B I A x1 r23 hc24) (cwV 1 hts gX9_of_X9_bodyOf rfl rfl rfl (by decide +kernel) ⟨Nat.le_of_ble_eq_true rfl, Nat.le_of_ble_eq_true rfl⟩) ⟨blindR, va_recv hK hP (ci := 6) (q0 := 0) rfl rfl, fun U hU hW => ⟨rfl, by rw [hU]; exact hP, va_K.moved hW.alike hK⟩⟩ rfl rfl hl.1 rfl (lv_room (Nat.le_of_ble_eq_true rfl)) dX9_of_123 ⟨Nat.zero_le _, Nat.zero_le _⟩) ?_
        refine W.eq (g2 := F0 m 126 ls [.int r23]) rfl ?_
        exact W.iret (v := r23) hx hb hr (fun t ht hW => ⟨congrArg (fun z => Outcome.returned (some (Value.int z))) (Option.some.inj hf), ht⟩) (fun _ h => nomatch h) dX9_of_126
      have hf := (if_neg c22).symm.trans hf
      refine lv_tableOut (tgt := 127) hx hb dX9_of_25 (by have := sw_ne (n := 0) (by decide) c5; have := sw_ne (n := 1) (by decide) c8; have := sw_ne (n := 2) (by decide) c11; have := sw_ne (n := 3) (by decide) c13; have := sw_ne (n := 4) (by decide) c16; have := sw_ne (n := 5) (by decide) c22; omega) (by decide) ?_
      refine lv_aload_n hx hb dX9_of_127 rfl (lv_at hl 1 rfl) ?_
      refine va_get (D := (dC, dI)) (ci := 6) (v := .ref (Q 2)) (C := RX9) (T := TX9) (N := 36) hx hb hts hinX9 hown hK hP 0 rfl rfl 2 (by decide) hk13 (fun _ h9 => h9) rfl dX9_of_128 ?_
      refine lv_iload_n hx hb dX9_of_131 rfl (lv_at hl 0 rfl) ?_
      refine lv_iconst (v := (4 : Int32)) hx hb dX9_of_132 (by decide) ?_
      refine lv_iadd hx hb dX9_of_133 ?_
      obtain ⟨g25, hf⟩ := of_ite_some hf
      refine va_iald hx hb hK hP 2 0 (n := 500) (f := (A 2)) rfl rfl g25 dX9_of_134 ?_
      exact W.iret (v := ((A 2) (((5 : Int32) * x1) + (4 : Int32)).toNatClampNeg)) hx hb hr (fun t ht hW => ⟨congrArg (fun z => Outcome.returned (some (Value.int z))) (Option.some.inj hf), ht⟩) (fun _ h => nomatch h) dX9_of_135
    · have hf := (if_pos c4).symm.trans hf
      refine lv_iconst (v := (-1 : Int32)) hx hb dX9_of_18 (by decide) ?_
      exact W.iret (v := (-1 : Int32)) hx hb hr (fun t ht hW => ⟨congrArg (fun z => Outcome.returned (some (Value.int z))) (Option.some.inj hf), ht⟩) (fun _ h => nomatch h) dX9_of_19
def fX9_step_34 (B : Nat → Nat → Int64) (I : Nat → Int32) (A : Nat → Nat → Int32)   (v1 : Int32) (v2 : Int32) (v3 : Int32) (t0 : Int32) (t1 : Int32) : Option Int32 :=
  (if (fX9_isIn t1 t0 (4 : Int32)) = 0 then (some (-1 : Int32)) else (if 0 ≤ v2 then (if gd (((16 : Int32) * v1) + v2) 1600 then (if gd (((16 : Int32) * v1) + v2) 1600 then (if v3 = (0 : Int32) then (some ((A 3) (((16 : Int32) * v1) + v2).toNatClampNeg)) else (if v3 = (1 : Int32) then (some ((A 4) (((16 : Int32) * v1) + v2).toNatClampNeg)) else (if v3 = (2 : Int32) then (if gd ((5 : Int32) * v1) 500 then (some (jrem ((((A 2) ((5 : Int32) * v1).toNatClampNeg) + ((A 4) (((16 : Int32) * v1) + v2).toNatClampNeg)) - (1 : Int32)) (7 : Int32))) else none) else (if v3 = (3 : Int32) then (if gd ((5 : Int32) * v1) 500 then (if gd (((5 : Int32) * v1) + (1 : Int32)) 500 then (some (fX9_signsOf ((A 2) ((5 : Int32) * v1).toNatClampNeg) ((A 2) (((5 : Int32) * v1) + (1 : Int32)).toNatClampNeg) ((A 3) (((16 : Int32) * v1) + v2).toNatClampNeg) ((A 4) (((16 : Int32) * v1) + v2).toNatClampNeg))) else none) else none) else ((fX9_rootOf B I A v1).bind fun r18 => (some (jrem (r18 + ((A 3) (((16 : Int32) * v1) + v2).toNatClampNeg)) (12 : Int32)))))))) else none) else none) else (if v3 = (2 : Int32) then (if gd (((5 : Int32) * v1) + (2 : Int32)) 500 then (some ((A 2) (((5 : Int32) * v1) + (2 : Int32)).toNatClampNeg)) else none) else (if v3 = (3 : Int32) then (if gd (((5 : Int32) * v1) + (3 : Int32)) 500 then (some ((A 2) (((5 : Int32) * v1) + (3 : Int32)).toNatClampNeg)) else none) else ((fX9_bassOf B I A v1).bind fun r22 => (some r22))))))
def fX9_step (B : Nat → Nat → Int64) (I : Nat → Int32) (A : Nat → Nat → Int32)  (x1 : Int32) (x2 : Int32) (x3 : Int32) : Option Int32 :=
  ((fX9_isChord B I A x1).bind fun r1 => (if r1 = 0 then (some (-1 : Int32)) else (if gd x1 100 then (if (fX9_isIn x2 (-1 : Int32) (((A 5) x1.toNatClampNeg) - (1 : Int32))) = 0 then (some (-1 : Int32)) else (if 0 ≤ x2 then (fX9_step_34 B I A  x1 x2 x3 (0 : Int32) x3) else (fX9_step_34 B I A  x1 x2 x3 (2 : Int32) x3))) else none)))
set_option maxRecDepth 100000 in
set_option maxHeartbeats 4000000 in
theorem mX9_step (l : Launch) (dC : Nat → ClassId) (dI : Nat → Nat → Nat) (cI cB cJ : ClassId) (Q : Nat → Nat) (B : Nat → Nat → Int64) (I : Nat → Int32) (A : Nat → Nat → Int32)  (x1 : Int32) (x2 : Int32) (x3 : Int32) (r : Int32) (hf : fX9_step B I A x1 x2 x3 = some r) : Met l yX9_step wsX9_step ({ frames := 2, cells := 0, slots := 0, locals := 44 }) (va_Pc [.ref (Q 100), .int x1, .int x2, .int x3] (fun U => va_P (dC, dI) vwCl (wM cI cB cJ Q B I A) U.heap ∧ va_K (dC, dI) vwCl (tM cI cB cJ) U)) (QcRead r) 0 0 (fun _ => False) := by
  refine Met.ofW (cc := cX9_step) (maxL := 7) (ret := (some .int)) (by decide) rfl ?_
  intro p e s m args below meth c s₁ BL hml hv
  obtain ⟨rfl, hP, hK⟩ := hv
  have hx := BL.exec
  have hb := BL.bytes
  have hr := BL.returns
  have hts := atoms_spec (ws := wsX9_step) BL.pre
  have hown : s.vm.findClass RX9 = some m.cls := findClass_of_methodNamed BL.named
  have hlocks := BL.notSynchronized
  have hinX9 : ∀ w ∈ u_ws RX9 TX9 36, w ∈ wsX9_step := by decide +kernel
  have hk13 := hts (.fieldLink RX9 13 "LeadSheetsModel" "heads" "[I") (by decide +kernel)
  have hk17 := hts (.fieldLink RX9 17 "LeadSheetsModel" "halves" "[I") (by decide +kernel)
  have hk20 := hts (.fieldLink RX9 20 "LeadSheetsModel" "degrees" "[I") (by decide +kernel)
  have hk23 := hts (.fieldLink RX9 23 "LeadSheetsModel" "stepMany" "[I") (by decide +kernel)
  have sg34 : ∀  (v1 : Int32) (v2 : Int32) (v3 : Int32) (t0 : Int32) (t1 : Int32) (ls : Array Slot), fX9_step_34 B I A   v1 v2 v3 t0 t1 = some r → lv_has ls 7 [(0, .ref (Q 100)), (1, .int v1), (2, .int v2), (3, .int v3)] → W p l e (headSpec wsX9_step ({ frames := 2, cells := 0, slots := 0, locals := 44 })).room s m (([.ref (Q 100), .int x1, .int x2, .int x3] : List Value).toArray) below meth c s.heap [] 0 0 (MQ below (QcRead r) (([.ref (Q 100), .int x1, .int x2, .int x3] : List Value).toArray) s 0 0 (fun _ => False)) (F0 m 34 ls [.int t0, .int t1]) := by
    intro v1 v2 v3 t0 t1 ls hf hl
    unfold fX9_step_34 at hf
    refine lv_iconst (v := (4 : Int32)) hx hb dX9_step_34 (by decide) ?_
    refine W.callR (r := (fX9_isIn t1 t0 (4 : Int32))) (W.runS (As := [.int t1, .int t0, .int (4 : Int32)]) (rest := []) ⟨hx, hb, hml, hown, hts⟩ (mX9_isIn l t1 t0 (4 : Int32) (fX9_isIn t1 t0 (4 : Int32)) rfl) (va_cwS 3 hts gX9_step_X9_isIn rfl rfl rfl (by decide +kernel) ⟨Nat.le_of_ble_eq_true rfl, Nat.le_of_ble_eq_true rfl⟩) ⟨fun _ _ _ _ q => q, fun U hU hW => ⟨rfl, trivial⟩⟩ rfl rfl hl.1 rfl (lv_room (Nat.le_of_ble_eq_true rfl)) dX9_step_35 ⟨Nat.zero_le _, Nat.zero_le _⟩) ?_
    refine W.eq (g2 := F0 m 38 ls [.int (fX9_isIn t1 t0 (4 : Int32))]) rfl ?_
    refine lv_if_ne (tgt := 43) hx hb dX9_step_38 (by decide) (fun c7 => ?_) (fun c7 => ?_)
    · have hf := (if_neg c7).symm.trans hf
      refine lv_iconst (v := (5 : Int32)) hx hb dX9_step_43 (by decide) ?_
      refine lv_iload_n hx hb dX9_step_44 rfl (lv_at hl 1 rfl) ?_
      refine lv_imul hx hb dX9_step_45 ?_
      refine lv_istore (lv' := [(4, .int ((5 : Int32) * v1)), (0, .ref (Q 100)), (1, .int v1), (2, .int v2), (3, .int v3)]) hx hb dX9_step_46 hl (by decide) rfl (fun ls hl => ?_)
      refine lv_iload_n hx hb dX9_step_48 rfl (lv_at hl 3 rfl) ?_
      refine lv_if_ge (tgt := 92) hx hb dX9_step_49 (by decide) (fun c8 => ?_) (fun c8 => ?_)
      · have hf := (if_pos c8).symm.trans hf
        refine lv_aload_n hx hb dX9_step_92 rfl (lv_at hl 1 rfl) ?_
        refine va_get (D := (dC, dI)) (ci := 6) (v := .ref (Q 3)) (C := RX9) (T := TX9) (N := 36) hx hb hts hinX9 hown hK hP 0 rfl rfl 3 (by decide) hk17 (fun _ h9 => h9) rfl dX9_step_93 ?_
        refine lv_bipush (v := (16 : Int32)) hx hb dX9_step_96 (by decide) ?_
        refine lv_iload_n hx hb dX9_step_98 rfl (lv_at hl 2 rfl) ?_
        refine lv_imul hx hb dX9_step_99 ?_
        refine lv_iload_n hx hb dX9_step_100 rfl (lv_at hl 3 rfl) ?_
        refine lv_iadd hx hb dX9_step_101 ?_
        obtain ⟨g9, hf⟩ := of_ite_some hf
        refine va_iald hx hb hK hP 3 0 (n := 1600) (f := (A 3)) rfl rfl g9 dX9_step_102 ?_
        refine lv_istore (lv' := [(5, .int ((A 3) (((16 : Int32) * v1) + v2).toNatClampNeg)), (4, .int ((5 : Int32) * v1)), (0, .ref (Q 100)), (1, .int v1), (2, .int v2), (3, .int v3)]) hx hb dX9_step_103 hl (by decide) rfl (fun ls hl => ?_)
        refine lv_aload_n hx hb dX9_step_105 rfl (lv_at hl 2 rfl) ?_
        refine va_get (D := (dC, dI)) (ci := 6) (v := .ref (Q 4)) (C := RX9) (T := TX9) (N := 36) hx hb hts hinX9 hown hK hP 0 rfl rfl 4 (by decide) hk20 (fun _ h9 => h9) rfl dX9_step_106 ?_
        refine lv_bipush (v := (16 : Int32)) hx hb dX9_step_109 (by decide) ?_
        refine lv_iload_n hx hb dX9_step_111 rfl (lv_at hl 3 rfl) ?_
        refine lv_imul hx hb dX9_step_112 ?_
        refine lv_iload_n hx hb dX9_step_113 rfl (lv_at hl 4 rfl) ?_
        refine lv_iadd hx hb dX9_step_114 ?_
        obtain ⟨g10, hf⟩ := of_ite_some hf
        refine va_iald hx hb hK hP 4 0 (n := 1600) (f := (A 4)) rfl rfl g10 dX9_step_115 ?_
        refine lv_istore (lv' := [(6, .int ((A 4) (((16 : Int32) * v1) + v2).toNatClampNeg)), (5, .int ((A 3) (((16 : Int32) * v1) + v2).toNatClampNeg)), (4, .int ((5 : Int32) * v1)), (0, .ref (Q 100)), (1, .int v1), (2, .int v2), (3, .int v3)]) hx hb dX9_step_116 hl (by decide) rfl (fun ls hl => ?_)
        refine lv_iload_n hx hb dX9_step_118 rfl (lv_at hl 6 rfl) ?_
        by_cases c11 : v3 = (0 : Int32)
        · have hf := (if_pos c11).symm.trans hf
          refine lv_tableIn (tgt := 148) hx hb dX9_step_119 (by rw [c11]; decide) (by rw [c11]; decide) (by rw [c11]; rfl) (by decide) ?_
          refine lv_iload hx hb dX9_step_148 (lv_at hl 1 rfl) ?_
          exact W.iret (v := ((A 3) (((16 : Int32) * v1) + v2).toNatClampNeg)) hx hb hr (fun t ht hW => ⟨congrArg (fun z => Outcome.returned (some (Value.int z))) (Option.some.inj hf), ht⟩) (fun _ h => nomatch h) dX9_step_150
        have hf := (if_neg c11).symm.trans hf
        by_cases c12 : v3 = (1 : Int32)
        · have hf := (if_pos c12).symm.trans hf
          refine lv_tableIn (tgt := 151) hx hb dX9_step_119 (by rw [c12]; decide) (by rw [c12]; decide) (by rw [c12]; rfl) (by decide) ?_
          refine lv_iload hx hb dX9_step_151 (lv_at hl 0 rfl) ?_
          exact W.iret (v := ((A 4) (((16 : Int32) * v1) + v2).toNatClampNeg)) hx hb hr (fun t ht hW => ⟨congrArg (fun z => Outcome.returned (some (Value.int z))) (Option.some.inj hf), ht⟩) (fun _ h => nomatch h) dX9_step_153
        have hf := (if_neg c12).symm.trans hf
        by_cases c13 : v3 = (2 : Int32)
        · have hf := (if_pos c13).symm.trans hf
          refine lv_tableIn (tgt := 154) hx hb dX9_step_119 (by rw [c13]; decide) (by rw [c13]; decide) (by rw [c13]; rfl) (by decide) ?_
          refine lv_aload_n hx hb dX9_step_154 rfl (lv_at hl 3 rfl) ?_
          refine va_get (D := (dC, dI)) (ci := 6) (v := .ref (Q 2)) (C := RX9) (T := TX9) (N := 36) hx hb hts hinX9 hown hK hP 0 rfl rfl 2 (by decide) hk13 (fun _ h9 => h9) rfl dX9_step_155 ?_
          refine lv_iload hx hb dX9_step_158 (lv_at hl 2 rfl) ?_
          obtain ⟨g14, hf⟩ := of_ite_some hf
          refine va_iald hx hb hK hP 2 0 (n := 500) (f := (A 2)) rfl rfl g14 dX9_step_160 ?_
          refine lv_iload hx hb dX9_step_161 (lv_at hl 0 rfl) ?_
          refine lv_iadd hx hb dX9_step_163 ?_
          refine lv_iconst (v := (1 : Int32)) hx hb dX9_step_164 (by decide) ?_
          refine lv_isub hx hb dX9_step_165 ?_
          refine lv_bipush (v := (7 : Int32)) hx hb dX9_step_166 (by decide) ?_
          refine lv_irem hx hb dX9_step_168 (by decide) ?_
          refine W.eq (g2 := F0 m 169 ls [.int (jrem ((((A 2) ((5 : Int32) * v1).toNatClampNeg) + ((A 4) (((16 : Int32) * v1) + v2).toNatClampNeg)) - (1 : Int32)) (7 : Int32))]) rfl ?_
          exact W.iret (v := (jrem ((((A 2) ((5 : Int32) * v1).toNatClampNeg) + ((A 4) (((16 : Int32) * v1) + v2).toNatClampNeg)) - (1 : Int32)) (7 : Int32))) hx hb hr (fun t ht hW => ⟨congrArg (fun z => Outcome.returned (some (Value.int z))) (Option.some.inj hf), ht⟩) (fun _ h => nomatch h) dX9_step_169
        have hf := (if_neg c13).symm.trans hf
        by_cases c15 : v3 = (3 : Int32)
        · have hf := (if_pos c15).symm.trans hf
          refine lv_tableIn (tgt := 170) hx hb dX9_step_119 (by rw [c15]; decide) (by rw [c15]; decide) (by rw [c15]; rfl) (by decide) ?_
          refine lv_aload_n hx hb dX9_step_170 rfl (lv_at hl 3 rfl) ?_
          refine va_get (D := (dC, dI)) (ci := 6) (v := .ref (Q 2)) (C := RX9) (T := TX9) (N := 36) hx hb hts hinX9 hown hK hP 0 rfl rfl 2 (by decide) hk13 (fun _ h9 => h9) rfl dX9_step_171 ?_
          refine lv_iload hx hb dX9_step_174 (lv_at hl 2 rfl) ?_
          obtain ⟨g16, hf⟩ := of_ite_some hf
          refine va_iald hx hb hK hP 2 0 (n := 500) (f := (A 2)) rfl rfl g16 dX9_step_176 ?_
          refine lv_aload_n hx hb dX9_step_177 rfl (lv_at hl 3 rfl) ?_
          refine va_get (D := (dC, dI)) (ci := 6) (v := .ref (Q 2)) (C := RX9) (T := TX9) (N := 36) hx hb hts hinX9 hown hK hP 0 rfl rfl 2 (by decide) hk13 (fun _ h9 => h9) rfl dX9_step_178 ?_
          refine lv_iload hx hb dX9_step_181 (lv_at hl 2 rfl) ?_
          refine lv_iconst (v := (1 : Int32)) hx hb dX9_step_183 (by decide) ?_
          refine lv_iadd hx hb dX9_step_184 ?_
          obtain ⟨g17, hf⟩ := of_ite_some hf
          refine va_iald hx hb hK hP 2 0 (n := 500) (f := (A 2)) rfl rfl g17 dX9_step_185 ?_
          refine lv_iload hx hb dX9_step_186 (lv_at hl 1 rfl) ?_
          refine lv_iload hx hb dX9_step_188 (lv_at hl 0 rfl) ?_
          refine W.callR (r := (fX9_signsOf ((A 2) ((5 : Int32) * v1).toNatClampNeg) ((A 2) (((5 : Int32) * v1) + (1 : Int32)).toNatClampNeg) ((A 3) (((16 : Int32) * v1) + v2).toNatClampNeg) ((A 4) (((16 : Int32) * v1) + v2).toNatClampNeg))) (W.runS (As := [.int ((A 2) ((5 : Int32) * v1).toNatClampNeg), .int ((A 2) (((5 : Int32) * v1) + (1 : Int32)).toNatClampNeg), .int ((A 3) (((16 : Int32) * v1) + v2).toNatClampNeg), .int ((A 4) (((16 : Int32) * v1) + v2).toNatClampNeg)]) (rest := []) ⟨hx, hb, hml, hown, hts⟩ (mX9_signsOf l ((A 2) ((5 : Int32) * v1).toNatClampNeg) ((A 2) (((5 : Int32) * v1) + (1 : Int32)).toNatClampNeg) ((A 3) (((16 : Int32) * v1) + v2).toNatClampNeg) ((A 4) (((16 : Int32) * v1) + v2).toNatClampNeg) (fX9_signsOf ((A 2) ((5 : Int32) * v1).toNatClampNeg) ((A 2) (((5 : Int32) * v1) + (1 : Int32)).toNatClampNeg) ((A 3) (((16 : Int32) * v1) + v2).toNatClampNeg) ((A 4) (((16 : Int32) * v1) + v2).toNatClampNeg)) rfl) (va_cwS 4 hts gX9_step_X9_signsOf rfl rfl rfl (by decide +kernel) ⟨Nat.le_of_ble_eq_true rfl, Nat.le_of_ble_eq_true rfl⟩) ⟨fun _ _ _ _ q => q, fun U hU hW => ⟨rfl, trivial⟩⟩ rfl rfl hl.1 rfl (lv_room (Nat.le_of_ble_eq_true rfl)) dX9_step_190 ⟨Nat.zero_le _, Nat.zero_le _⟩) ?_
          refine W.eq (g2 := F0 m 193 ls [.int (fX9_signsOf ((A 2) ((5 : Int32) * v1).toNatClampNeg) ((A 2) (((5 : Int32) * v1) + (1 : Int32)).toNatClampNeg) ((A 3) (((16 : Int32) * v1) + v2).toNatClampNeg) ((A 4) (((16 : Int32) * v1) + v2).toNatClampNeg))]) rfl ?_
          exact W.iret (v := (fX9_signsOf ((A 2) ((5 : Int32) * v1).toNatClampNeg) ((A 2) (((5 : Int32) * v1) + (1 : Int32)).toNatClampNeg) ((A 3) (((16 : Int32) * v1) + v2).toNatClampNeg) ((A 4) (((16 : Int32) * v1) + v2).toNatClampNeg))) hx hb hr (fun t ht hW => ⟨congrArg (fun z => Outcome.returned (some (Value.int z))) (Option.some.inj hf), ht⟩) (fun _ h => nomatch h) dX9_step_193
        have hf := (if_neg c15).symm.trans hf
        refine lv_tableOut (tgt := 194) hx hb dX9_step_119 (by have := sw_ne (n := 0) (by decide) c11; have := sw_ne (n := 1) (by decide) c12; have := sw_ne (n := 2) (by decide) c13; have := sw_ne (n := 3) (by decide) c15; omega) (by decide) ?_
        refine lv_aload_n hx hb dX9_step_194 rfl (lv_at hl 3 rfl) ?_
        refine lv_iload_n hx hb dX9_step_195 rfl (lv_at hl 4 rfl) ?_
        obtain ⟨r18, hc19, hf⟩ := of_bind_some hf
        refine W.callR (r := r18) (W.runV (As := [.int v1]) (rest := []) ⟨hx, hb, hml, hown, hts⟩ (mX9_rootOf l dC dI cI cB cJ Q B I A v1 r18 hc19) (cwV 1 hts gX9_step_X9_rootOf rfl rfl rfl (by decide +kernel) ⟨Nat.le_of_ble_eq_true rfl, Nat.le_of_ble_eq_true rfl⟩) ⟨blindR, va_recv hK hP (ci := 6) (q0 := 0) rfl rfl, fun U hU hW => ⟨rfl, by rw [hU]; exact hP, va_K.moved hW.alike hK⟩⟩ rfl rfl hl.1 rfl (lv_room (Nat.le_of_ble_eq_true rfl)) dX9_step_196 ⟨Nat.zero_le _, Nat.zero_le _⟩) ?_
        refine W.eq (g2 := F0 m 199 ls [.int r18]) rfl ?_
        refine lv_iload hx hb dX9_step_199 (lv_at hl 1 rfl) ?_
        refine lv_iadd hx hb dX9_step_201 ?_
        refine lv_bipush (v := (12 : Int32)) hx hb dX9_step_202 (by decide) ?_
        refine lv_irem hx hb dX9_step_204 (by decide) ?_
        refine W.eq (g2 := F0 m 205 ls [.int (jrem (r18 + ((A 3) (((16 : Int32) * v1) + v2).toNatClampNeg)) (12 : Int32))]) rfl ?_
        exact W.iret (v := (jrem (r18 + ((A 3) (((16 : Int32) * v1) + v2).toNatClampNeg)) (12 : Int32))) hx hb hr (fun t ht hW => ⟨congrArg (fun z => Outcome.returned (some (Value.int z))) (Option.some.inj hf), ht⟩) (fun _ h => nomatch h) dX9_step_205
      · have hf := (if_neg c8).symm.trans hf
        refine lv_iload_n hx hb dX9_step_52 rfl (lv_at hl 4 rfl) ?_
        refine lv_iconst (v := (2 : Int32)) hx hb dX9_step_53 (by decide) ?_
        refine lv_icmp_ne (tgt := 69) hx hb dX9_step_54 (by decide) (fun c20 => ?_) (fun c20 => ?_)
        · have hf := (if_neg c20).symm.trans hf
          refine lv_iload_n hx hb dX9_step_69 rfl (lv_at hl 4 rfl) ?_
          refine lv_iconst (v := (3 : Int32)) hx hb dX9_step_70 (by decide) ?_
          refine lv_icmp_ne (tgt := 86) hx hb dX9_step_71 (by decide) (fun c21 => ?_) (fun c21 => ?_)
          · have hf := (if_neg c21).symm.trans hf
            refine lv_aload_n hx hb dX9_step_86 rfl (lv_at hl 1 rfl) ?_
            refine lv_iload_n hx hb dX9_step_87 rfl (lv_at hl 2 rfl) ?_
            obtain ⟨r22, hc23, hf⟩ := of_bind_some hf
            refine W.callR (r := r22) (W.runV (As := [.int v1]) (rest := []) ⟨hx, hb, hml, hown, hts⟩ (mX9_bassOf l dC dI cI cB cJ Q B I A v1 r22 hc23) (cwV 1 hts gX9_step_X9_bassOf rfl rfl rfl (by decide +kernel) ⟨Nat.le_of_ble_eq_true rfl, Nat.le_of_ble_eq_true rfl⟩) ⟨blindR, va_recv hK hP (ci := 6) (q0 := 0) rfl rfl, fun U hU hW => ⟨rfl, by rw [hU]; exact hP, va_K.moved hW.alike hK⟩⟩ rfl rfl hl.1 rfl (lv_room (Nat.le_of_ble_eq_true rfl)) dX9_step_88 ⟨Nat.zero_le _, Nat.zero_le _⟩) ?_
            refine W.eq (g2 := F0 m 91 ls [.int r22]) rfl ?_
            exact W.iret (v := r22) hx hb hr (fun t ht hW => ⟨congrArg (fun z => Outcome.returned (some (Value.int z))) (Option.some.inj hf), ht⟩) (fun _ h => nomatch h) dX9_step_91
          · have hf := (if_pos c21).symm.trans hf
            refine lv_aload_n hx hb dX9_step_74 rfl (lv_at hl 1 rfl) ?_
            refine va_get (D := (dC, dI)) (ci := 6) (v := .ref (Q 2)) (C := RX9) (T := TX9) (N := 36) hx hb hts hinX9 hown hK hP 0 rfl rfl 2 (by decide) hk13 (fun _ h9 => h9) rfl dX9_step_75 ?_
            refine lv_iload hx hb dX9_step_78 (lv_at hl 0 rfl) ?_
            refine lv_iconst (v := (3 : Int32)) hx hb dX9_step_80 (by decide) ?_
            refine lv_iadd hx hb dX9_step_81 ?_
            obtain ⟨g24, hf⟩ := of_ite_some hf
            refine va_iald hx hb hK hP 2 0 (n := 500) (f := (A 2)) rfl rfl g24 dX9_step_82 ?_
            refine lv_goto (tgt := 91) hx hb dX9_step_83 (by decide) ?_
            exact W.iret (v := ((A 2) (((5 : Int32) * v1) + (3 : Int32)).toNatClampNeg)) hx hb hr (fun t ht hW => ⟨congrArg (fun z => Outcome.returned (some (Value.int z))) (Option.some.inj hf), ht⟩) (fun _ h => nomatch h) dX9_step_91
        · have hf := (if_pos c20).symm.trans hf
          refine lv_aload_n hx hb dX9_step_57 rfl (lv_at hl 1 rfl) ?_
          refine va_get (D := (dC, dI)) (ci := 6) (v := .ref (Q 2)) (C := RX9) (T := TX9) (N := 36) hx hb hts hinX9 hown hK hP 0 rfl rfl 2 (by decide) hk13 (fun _ h9 => h9) rfl dX9_step_58 ?_
          refine lv_iload hx hb dX9_step_61 (lv_at hl 0 rfl) ?_
          refine lv_iconst (v := (2 : Int32)) hx hb dX9_step_63 (by decide) ?_
          refine lv_iadd hx hb dX9_step_64 ?_
          obtain ⟨g25, hf⟩ := of_ite_some hf
          refine va_iald hx hb hK hP 2 0 (n := 500) (f := (A 2)) rfl rfl g25 dX9_step_65 ?_
          refine lv_goto (tgt := 91) hx hb dX9_step_66 (by decide) ?_
          exact W.iret (v := ((A 2) (((5 : Int32) * v1) + (2 : Int32)).toNatClampNeg)) hx hb hr (fun t ht hW => ⟨congrArg (fun z => Outcome.returned (some (Value.int z))) (Option.some.inj hf), ht⟩) (fun _ h => nomatch h) dX9_step_91
    · have hf := (if_pos c7).symm.trans hf
      refine lv_iconst (v := (-1 : Int32)) hx hb dX9_step_41 (by decide) ?_
      exact W.iret (v := (-1 : Int32)) hx hb hr (fun t ht hW => ⟨congrArg (fun z => Outcome.returned (some (Value.int z))) (Option.some.inj hf), ht⟩) (fun _ h => nomatch h) dX9_step_42
  have hl := lv_entry ([.ref (Q 100), .int x1, .int x2, .int x3]) (n := 7) (Nat.le_of_ble_eq_true rfl)
  rw [lg_entry_eq]
  generalize (lg_sl ([.ref (Q 100), .int x1, .int x2, .int x3]) ++ List.replicate (7 - (lg_sl ([.ref (Q 100), .int x1, .int x2, .int x3])).length) Slot.unset).toArray = ls at hl ⊢
  have hl : lv_has ls 7 [(0, .ref (Q 100)), (1, .int x1), (2, .int x2), (3, .int x3)] := hl
  unfold fX9_step at hf
  refine lv_aload_n hx hb dX9_step_0 rfl (lv_at hl 0 rfl) ?_
  refine lv_iload_n hx hb dX9_step_1 rfl (lv_at hl 1 rfl) ?_
  obtain ⟨r1, hc2, hf⟩ := of_bind_some hf
  refine W.callR (r := r1) (W.runV (As := [.int x1]) (rest := []) ⟨hx, hb, hml, hown, hts⟩ (mX9_isChord l dC dI cI cB cJ Q B I A x1 r1 hc2) (cwV 1 hts gX9_step_X9_isChord rfl rfl rfl (by decide +kernel) ⟨Nat.le_of_ble_eq_true rfl, Nat.le_of_ble_eq_true rfl⟩) ⟨blindR, va_recv hK hP (ci := 6) (q0 := 0) rfl rfl, fun U hU hW => ⟨rfl, by rw [hU]; exact hP, va_K.moved hW.alike hK⟩⟩ rfl rfl hl.1 rfl (lv_room (Nat.le_of_ble_eq_true rfl)) dX9_step_2 ⟨Nat.zero_le _, Nat.zero_le _⟩) ?_
  refine W.eq (g2 := F0 m 5 ls [.int r1]) rfl ?_
  refine lv_if_eq (tgt := 41) hx hb dX9_step_5 (by decide) (fun c3 => ?_) (fun c3 => ?_)
  · have hf := (if_pos c3).symm.trans hf
    refine lv_iconst (v := (-1 : Int32)) hx hb dX9_step_41 (by decide) ?_
    exact W.iret (v := (-1 : Int32)) hx hb hr (fun t ht hW => ⟨congrArg (fun z => Outcome.returned (some (Value.int z))) (Option.some.inj hf), ht⟩) (fun _ h => nomatch h) dX9_step_42
  · have hf := (if_neg c3).symm.trans hf
    refine lv_iload_n hx hb dX9_step_8 rfl (lv_at hl 2 rfl) ?_
    refine lv_iconst (v := (-1 : Int32)) hx hb dX9_step_9 (by decide) ?_
    refine lv_aload_n hx hb dX9_step_10 rfl (lv_at hl 0 rfl) ?_
    refine va_get (D := (dC, dI)) (ci := 6) (v := .ref (Q 5)) (C := RX9) (T := TX9) (N := 36) hx hb hts hinX9 hown hK hP 0 rfl rfl 5 (by decide) hk23 (fun _ h9 => h9) rfl dX9_step_11 ?_
    refine lv_iload_n hx hb dX9_step_14 rfl (lv_at hl 1 rfl) ?_
    obtain ⟨g4, hf⟩ := of_ite_some hf
    refine va_iald hx hb hK hP 5 0 (n := 100) (f := (A 5)) rfl rfl g4 dX9_step_15 ?_
    refine lv_iconst (v := (1 : Int32)) hx hb dX9_step_16 (by decide) ?_
    refine lv_isub hx hb dX9_step_17 ?_
    refine W.callR (r := (fX9_isIn x2 (-1 : Int32) (((A 5) x1.toNatClampNeg) - (1 : Int32)))) (W.runS (As := [.int x2, .int (-1 : Int32), .int (((A 5) x1.toNatClampNeg) - (1 : Int32))]) (rest := []) ⟨hx, hb, hml, hown, hts⟩ (mX9_isIn l x2 (-1 : Int32) (((A 5) x1.toNatClampNeg) - (1 : Int32)) (fX9_isIn x2 (-1 : Int32) (((A 5) x1.toNatClampNeg) - (1 : Int32))) rfl) (va_cwS 3 hts gX9_step_X9_isIn rfl rfl rfl (by decide +kernel) ⟨Nat.le_of_ble_eq_true rfl, Nat.le_of_ble_eq_true rfl⟩) ⟨fun _ _ _ _ q => q, fun U hU hW => ⟨rfl, trivial⟩⟩ rfl rfl hl.1 rfl (lv_room (Nat.le_of_ble_eq_true rfl)) dX9_step_18 ⟨Nat.zero_le _, Nat.zero_le _⟩) ?_
    refine W.eq (g2 := F0 m 21 ls [.int (fX9_isIn x2 (-1 : Int32) (((A 5) x1.toNatClampNeg) - (1 : Int32)))]) rfl ?_
    refine lv_if_eq (tgt := 41) hx hb dX9_step_21 (by decide) (fun c5 => ?_) (fun c5 => ?_)
    · have hf := (if_pos c5).symm.trans hf
      refine lv_iconst (v := (-1 : Int32)) hx hb dX9_step_41 (by decide) ?_
      exact W.iret (v := (-1 : Int32)) hx hb hr (fun t ht hW => ⟨congrArg (fun z => Outcome.returned (some (Value.int z))) (Option.some.inj hf), ht⟩) (fun _ h => nomatch h) dX9_step_42
    · have hf := (if_neg c5).symm.trans hf
      refine lv_iload_n hx hb dX9_step_24 rfl (lv_at hl 3 rfl) ?_
      refine lv_iload_n hx hb dX9_step_25 rfl (lv_at hl 2 rfl) ?_
      refine lv_if_ge (tgt := 33) hx hb dX9_step_26 (by decide) (fun c6 => ?_) (fun c6 => ?_)
      · have hf := (if_pos c6).symm.trans hf
        refine lv_iconst (v := (0 : Int32)) hx hb dX9_step_33 (by decide) ?_
        exact sg34  x1 x2 x3 (0 : Int32) x3 ls hf (lv_sub hl [0, 1, 2, 3] rfl)
      · have hf := (if_neg c6).symm.trans hf
        refine lv_iconst (v := (2 : Int32)) hx hb dX9_step_29 (by decide) ?_
        refine lv_goto (tgt := 34) hx hb dX9_step_30 (by decide) ?_
        exact sg34  x1 x2 x3 (2 : Int32) x3 ls hf (lv_sub hl [0, 1, 2, 3] rfl)
def fX9_spelt_112 (B : Nat → Nat → Int64) (I : Nat → Int32) (A : Nat → Nat → Int32) (k9 : Int32 → Int32 → Int32 → Int32 → Int32 → Option Int32)  (v1 : Int32) (v2 : Int32) (v5 : Int32) (v7 : Int32) : Option Int32 :=
  (k9 v1 v2 v5 v7 (v5 + (1 : Int32)))
def fX9_spelt_43B (B : Nat → Nat → Int64) (I : Nat → Int32) (A : Nat → Nat → Int32) (k9 : Int32 → Int32 → Int32 → Int32 → Int32 → Option Int32) (k43 : Int32 → Int32 → Int32 → Int32 → Int32 → Int32 → Int32 → Int32 → Option Int32)  (v1 : Int32) (v2 : Int32) (v3 : Int32) (v4 : Int32) (v5 : Int32) (v6 : Int32) (v7 : Int32) (v8 : Int32) : Option Int32 :=
  (if gd v2 20 then (if ((A 15) v2.toNatClampNeg) ≤ v8 then (if v3 = (-2 : Int32) then (fX9_spelt_112 B I A k9 v1 v2 v5 v7) else (if v4 ≤ v7 then (k9 v1 v2 v3 v4 (v5 + (1 : Int32))) else (fX9_spelt_112 B I A k9 v1 v2 v5 v7))) else (if gd (((8 : Int32) * v2) + v8) 160 then (if gd (((8 : Int32) * v2) + v8) 160 then (k43 v1 v2 v3 v4 v5 v6 (v7 + (fX9_size (fX9_signsOf v6 v5 ((A 13) (((8 : Int32) * v2) + v8).toNatClampNeg) ((A 14) (((8 : Int32) * v2) + v8).toNatClampNeg)))) (v8 + (1 : Int32))) else none) else none)) else none)
def fX9_spelt_43 (B : Nat → Nat → Int64) (I : Nat → Int32) (A : Nat → Nat → Int32) (k9 : Int32 → Int32 → Int32 → Int32 → Int32 → Option Int32) : Nat → (Int32 → Int32 → Int32 → Int32 → Int32 → Int32 → Int32 → Int32 → Option Int32)
  | 0 => fun _ _ _ _ _ _ _ _ => none
  | n + 1 => fX9_spelt_43B B I A k9 (fX9_spelt_43 B I A k9 n)
def fX9_spelt_9B (B : Nat → Nat → Int64) (I : Nat → Int32) (A : Nat → Nat → Int32)  (k9 : Int32 → Int32 → Int32 → Int32 → Int32 → Option Int32)  (v1 : Int32) (v2 : Int32) (v3 : Int32) (v4 : Int32) (v5 : Int32) : Option Int32 :=
  (if (1 : Int32) < v5 then (some v3) else ((fX9_letterOf v1 v5).bind fun r2 => (if r2 = (-2 : Int32) then (k9 v1 v2 v3 v4 (v5 + (1 : Int32))) else (fX9_spelt_43 B I A k9 FU v1 v2 v3 v4 v5 r2 (fX9_size v5) (0 : Int32)))))
def fX9_spelt_9 (B : Nat → Nat → Int64) (I : Nat → Int32) (A : Nat → Nat → Int32)  : Nat → (Int32 → Int32 → Int32 → Int32 → Int32 → Option Int32)
  | 0 => fun _ _ _ _ _ => none
  | n + 1 => fX9_spelt_9B B I A  (fX9_spelt_9 B I A  n)
def fX9_spelt (B : Nat → Nat → Int64) (I : Nat → Int32) (A : Nat → Nat → Int32)  (x1 : Int32) (x2 : Int32) : Option Int32 :=
  (fX9_spelt_9 B I A  FU x1 x2 (-2 : Int32) (0 : Int32) (-1 : Int32))
set_option maxRecDepth 100000 in
set_option maxHeartbeats 4000000 in
theorem mX9_spelt (l : Launch) (dC : Nat → ClassId) (dI : Nat → Nat → Nat) (cI cB cJ : ClassId) (Q : Nat → Nat) (B : Nat → Nat → Int64) (I : Nat → Int32) (A : Nat → Nat → Int32)  (x1 : Int32) (x2 : Int32) (r : Int32) (hf : fX9_spelt B I A x1 x2 = some r) : Met l yX9_spelt wsX9_spelt ({ frames := 2, cells := 0, slots := 0, locals := 44 }) (va_Pc [.ref (Q 100), .int x1, .int x2] (fun U => va_P (dC, dI) vwCl (wM cI cB cJ Q B I A) U.heap ∧ va_K (dC, dI) vwCl (tM cI cB cJ) U)) (QcRead r) 0 0 (fun _ => False) := by
  refine Met.ofW (cc := cX9_spelt) (maxL := 9) (ret := (some .int)) (by decide) rfl ?_
  intro p e s m args below meth c s₁ BL hml hv
  obtain ⟨rfl, hP, hK⟩ := hv
  have hx := BL.exec
  have hb := BL.bytes
  have hr := BL.returns
  have hts := atoms_spec (ws := wsX9_spelt) BL.pre
  have hown : s.vm.findClass RX9 = some m.cls := findClass_of_methodNamed BL.named
  have hlocks := BL.notSynchronized
  have hinX9 : ∀ w ∈ u_ws RX9 TX9 36, w ∈ wsX9_spelt := by decide +kernel
  have hk35 := hts (.fieldLink RX9 35 "LeadSheetsModel" "bodyHalves" "[I") (by decide +kernel)
  have hk38 := hts (.fieldLink RX9 38 "LeadSheetsModel" "bodyDegrees" "[I") (by decide +kernel)
  have hk41 := hts (.fieldLink RX9 41 "LeadSheetsModel" "bodyMany" "[I") (by decide +kernel)
  have sg112 : ∀ (k9 : Int32 → Int32 → Int32 → Int32 → Int32 → Option Int32), (∀  (v1 : Int32) (v2 : Int32) (v3 : Int32) (v4 : Int32) (v5 : Int32) (ls : Array Slot), k9  v1 v2 v3 v4 v5 = some r → lv_has ls 9 [(0, .ref (Q 100)), (1, .int v1), (2, .int v2), (3, .int v3), (4, .int v4), (5, .int v5)] → W p l e (headSpec wsX9_spelt ({ frames := 2, cells := 0, slots := 0, locals := 44 })).room s m (([.ref (Q 100), .int x1, .int x2] : List Value).toArray) below meth c s.heap [] 0 0 (MQ below (QcRead r) (([.ref (Q 100), .int x1, .int x2] : List Value).toArray) s 0 0 (fun _ => False)) (F0 m 9 ls [])) → ∀  (v1 : Int32) (v2 : Int32) (v5 : Int32) (v7 : Int32) (ls : Array Slot), fX9_spelt_112 B I A k9  v1 v2 v5 v7 = some r → lv_has ls 9 [(0, .ref (Q 100)), (1, .int v1), (2, .int v2), (5, .int v5), (7, .int v7)] → W p l e (headSpec wsX9_spelt ({ frames := 2, cells := 0, slots := 0, locals := 44 })).room s m (([.ref (Q 100), .int x1, .int x2] : List Value).toArray) below meth c s.heap [] 0 0 (MQ below (QcRead r) (([.ref (Q 100), .int x1, .int x2] : List Value).toArray) s 0 0 (fun _ => False)) (F0 m 112 ls []) := by
    intro k9 ih9
    intro v1 v2 v5 v7 ls hf hl
    unfold fX9_spelt_112 at hf
    refine lv_iload hx hb dX9_spelt_112 (lv_at hl 3 rfl) ?_
    refine lv_istore_n (lv' := [(3, .int v5), (0, .ref (Q 100)), (1, .int v1), (2, .int v2), (5, .int v5), (7, .int v7)]) hx hb dX9_spelt_114 rfl hl (by decide) rfl (fun ls hl => ?_)
    refine lv_iload hx hb dX9_spelt_115 (lv_at hl 5 rfl) ?_
    refine lv_istore (lv' := [(4, .int v7), (3, .int v5), (0, .ref (Q 100)), (1, .int v1), (2, .int v2), (5, .int v5), (7, .int v7)]) hx hb dX9_spelt_117 hl (by decide) rfl (fun ls hl => ?_)
    refine lv_iinc (v := (v5 + (1 : Int32))) (lv' := [(5, .int (v5 + (1 : Int32))), (4, .int v7), (3, .int v5), (0, .ref (Q 100)), (1, .int v1), (2, .int v2), (7, .int v7)]) hx hb dX9_spelt_119 hl (k := 5) rfl rfl (by decide) rfl (fun ls hl => ?_)
    refine lv_goto (tgt := 9) hx hb dX9_spelt_122 (by decide) ?_
    exact ih9 v1 v2 v5 v7 (v5 + (1 : Int32)) ls hf (lv_sub hl [3, 4, 5, 2, 1, 0] rfl)
  have sg43 : ∀ (k9 : Int32 → Int32 → Int32 → Int32 → Int32 → Option Int32), (∀  (v1 : Int32) (v2 : Int32) (v3 : Int32) (v4 : Int32) (v5 : Int32) (ls : Array Slot), k9  v1 v2 v3 v4 v5 = some r → lv_has ls 9 [(0, .ref (Q 100)), (1, .int v1), (2, .int v2), (3, .int v3), (4, .int v4), (5, .int v5)] → W p l e (headSpec wsX9_spelt ({ frames := 2, cells := 0, slots := 0, locals := 44 })).room s m (([.ref (Q 100), .int x1, .int x2] : List Value).toArray) below meth c s.heap [] 0 0 (MQ below (QcRead r) (([.ref (Q 100), .int x1, .int x2] : List Value).toArray) s 0 0 (fun _ => False)) (F0 m 9 ls [])) → ∀ n : Nat, ∀  (v1 : Int32) (v2 : Int32) (v3 : Int32) (v4 : Int32) (v5 : Int32) (v6 : Int32) (v7 : Int32) (v8 : Int32) (ls : Array Slot), fX9_spelt_43 B I A k9 n  v1 v2 v3 v4 v5 v6 v7 v8 = some r → lv_has ls 9 [(0, .ref (Q 100)), (1, .int v1), (2, .int v2), (3, .int v3), (4, .int v4), (5, .int v5), (6, .int v6), (7, .int v7), (8, .int v8)] → W p l e (headSpec wsX9_spelt ({ frames := 2, cells := 0, slots := 0, locals := 44 })).room s m (([.ref (Q 100), .int x1, .int x2] : List Value).toArray) below meth c s.heap [] 0 0 (MQ below (QcRead r) (([.ref (Q 100), .int x1, .int x2] : List Value).toArray) s 0 0 (fun _ => False)) (F0 m 43 ls []) := by
    intro k9 ih9
    intro n
    induction n with
    | zero => intro v1 v2 v3 v4 v5 v6 v7 v8 ls hf hl; exact of_none hf
    | succ n ih43 =>
      intro v1 v2 v3 v4 v5 v6 v7 v8 ls hf hl
      change fX9_spelt_43B B I A k9 (fX9_spelt_43 B I A k9 n) v1 v2 v3 v4 v5 v6 v7 v8 = _ at hf
      unfold fX9_spelt_43B at hf
      refine lv_iload hx hb dX9_spelt_43 (lv_at hl 8 rfl) ?_
      refine lv_aload_n hx hb dX9_spelt_45 rfl (lv_at hl 0 rfl) ?_
      refine va_get (D := (dC, dI)) (ci := 6) (v := .ref (Q 15)) (C := RX9) (T := TX9) (N := 36) hx hb hts hinX9 hown hK hP 0 rfl rfl 15 (by decide) hk41 (fun _ h9 => h9) rfl dX9_spelt_46 ?_
      refine lv_iload_n hx hb dX9_spelt_49 rfl (lv_at hl 2 rfl) ?_
      obtain ⟨g5, hf⟩ := of_ite_some hf
      refine va_iald hx hb hK hP 11 0 (n := 20) (f := (A 15)) rfl rfl g5 dX9_spelt_50 ?_
      refine lv_icmp_ge (tgt := 99) hx hb dX9_spelt_51 (by decide) (fun c6 => ?_) (fun c6 => ?_)
      · have hf := (if_pos c6).symm.trans hf
        refine lv_iload_n hx hb dX9_spelt_99 rfl (lv_at hl 3 rfl) ?_
        refine lv_bipush (v := (-2 : Int32)) hx hb dX9_spelt_100 (by decide) ?_
        refine lv_icmp_eq (tgt := 112) hx hb dX9_spelt_102 (by decide) (fun c7 => ?_) (fun c7 => ?_)
        · have hf := (if_pos c7).symm.trans hf
          exact sg112 _ ih9 v1 v2 v5 v7 ls hf (lv_sub hl [0, 1, 2, 5, 7] rfl)
        · have hf := (if_neg c7).symm.trans hf
          refine lv_iload hx hb dX9_spelt_105 (lv_at hl 7 rfl) ?_
          refine lv_iload hx hb dX9_spelt_107 (lv_at hl 4 rfl) ?_
          refine lv_icmp_ge (tgt := 119) hx hb dX9_spelt_109 (by decide) (fun c8 => ?_) (fun c8 => ?_)
          · have hf := (if_pos c8).symm.trans hf
            refine lv_iinc (v := (v5 + (1 : Int32))) (lv' := [(5, .int (v5 + (1 : Int32))), (0, .ref (Q 100)), (1, .int v1), (2, .int v2), (3, .int v3), (4, .int v4), (6, .int v6), (7, .int v7), (8, .int v8)]) hx hb dX9_spelt_119 hl (k := 5) rfl rfl (by decide) rfl (fun ls hl => ?_)
            refine lv_goto (tgt := 9) hx hb dX9_spelt_122 (by decide) ?_
            exact ih9 v1 v2 v3 v4 (v5 + (1 : Int32)) ls hf (lv_sub hl [1, 2, 3, 4, 5, 0] rfl)
          · have hf := (if_neg c8).symm.trans hf
            exact sg112 _ ih9 v1 v2 v5 v7 ls hf (lv_sub hl [0, 1, 2, 5, 7] rfl)
      · have hf := (if_neg c6).symm.trans hf
        refine lv_iload hx hb dX9_spelt_54 (lv_at hl 7 rfl) ?_
        refine lv_iload hx hb dX9_spelt_56 (lv_at hl 6 rfl) ?_
        refine lv_iload hx hb dX9_spelt_58 (lv_at hl 5 rfl) ?_
        refine lv_aload_n hx hb dX9_spelt_60 rfl (lv_at hl 0 rfl) ?_
        refine va_get (D := (dC, dI)) (ci := 6) (v := .ref (Q 13)) (C := RX9) (T := TX9) (N := 36) hx hb hts hinX9 hown hK hP 0 rfl rfl 13 (by decide) hk35 (fun _ h9 => h9) rfl dX9_spelt_61 ?_
        refine lv_bipush (v := (8 : Int32)) hx hb dX9_spelt_64 (by decide) ?_
        refine lv_iload_n hx hb dX9_spelt_66 rfl (lv_at hl 2 rfl) ?_
        refine lv_imul hx hb dX9_spelt_67 ?_
        refine lv_iload hx hb dX9_spelt_68 (lv_at hl 8 rfl) ?_
        refine lv_iadd hx hb dX9_spelt_70 ?_
        obtain ⟨g9, hf⟩ := of_ite_some hf
        refine va_iald hx hb hK hP 9 0 (n := 160) (f := (A 13)) rfl rfl g9 dX9_spelt_71 ?_
        refine lv_aload_n hx hb dX9_spelt_72 rfl (lv_at hl 0 rfl) ?_
        refine va_get (D := (dC, dI)) (ci := 6) (v := .ref (Q 14)) (C := RX9) (T := TX9) (N := 36) hx hb hts hinX9 hown hK hP 0 rfl rfl 14 (by decide) hk38 (fun _ h9 => h9) rfl dX9_spelt_73 ?_
        refine lv_bipush (v := (8 : Int32)) hx hb dX9_spelt_76 (by decide) ?_
        refine lv_iload_n hx hb dX9_spelt_78 rfl (lv_at hl 2 rfl) ?_
        refine lv_imul hx hb dX9_spelt_79 ?_
        refine lv_iload hx hb dX9_spelt_80 (lv_at hl 8 rfl) ?_
        refine lv_iadd hx hb dX9_spelt_82 ?_
        obtain ⟨g10, hf⟩ := of_ite_some hf
        refine va_iald hx hb hK hP 10 0 (n := 160) (f := (A 14)) rfl rfl g10 dX9_spelt_83 ?_
        refine W.callR (r := (fX9_signsOf v6 v5 ((A 13) (((8 : Int32) * v2) + v8).toNatClampNeg) ((A 14) (((8 : Int32) * v2) + v8).toNatClampNeg))) (W.runS (As := [.int v6, .int v5, .int ((A 13) (((8 : Int32) * v2) + v8).toNatClampNeg), .int ((A 14) (((8 : Int32) * v2) + v8).toNatClampNeg)]) (rest := [.int v7]) ⟨hx, hb, hml, hown, hts⟩ (mX9_signsOf l v6 v5 ((A 13) (((8 : Int32) * v2) + v8).toNatClampNeg) ((A 14) (((8 : Int32) * v2) + v8).toNatClampNeg) (fX9_signsOf v6 v5 ((A 13) (((8 : Int32) * v2) + v8).toNatClampNeg) ((A 14) (((8 : Int32) * v2) + v8).toNatClampNeg)) rfl) (va_cwS 4 hts gX9_spelt_X9_signsOf rfl rfl rfl (by decide +kernel) ⟨Nat.le_of_ble_eq_true rfl, Nat.le_of_ble_eq_true rfl⟩) ⟨fun _ _ _ _ q => q, fun U hU hW => ⟨rfl, trivial⟩⟩ rfl rfl hl.1 rfl (lv_room (Nat.le_of_ble_eq_true rfl)) dX9_spelt_84 ⟨Nat.zero_le _, Nat.zero_le _⟩) ?_
        refine W.eq (g2 := F0 m 87 ls [.int (fX9_signsOf v6 v5 ((A 13) (((8 : Int32) * v2) + v8).toNatClampNeg) ((A 14) (((8 : Int32) * v2) + v8).toNatClampNeg)), .int v7]) rfl ?_
        refine W.callR (r := (fX9_size (fX9_signsOf v6 v5 ((A 13) (((8 : Int32) * v2) + v8).toNatClampNeg) ((A 14) (((8 : Int32) * v2) + v8).toNatClampNeg)))) (W.runS (As := [.int (fX9_signsOf v6 v5 ((A 13) (((8 : Int32) * v2) + v8).toNatClampNeg) ((A 14) (((8 : Int32) * v2) + v8).toNatClampNeg))]) (rest := [.int v7]) ⟨hx, hb, hml, hown, hts⟩ (mX9_size l (fX9_signsOf v6 v5 ((A 13) (((8 : Int32) * v2) + v8).toNatClampNeg) ((A 14) (((8 : Int32) * v2) + v8).toNatClampNeg)) (fX9_size (fX9_signsOf v6 v5 ((A 13) (((8 : Int32) * v2) + v8).toNatClampNeg) ((A 14) (((8 : Int32) * v2) + v8).toNatClampNeg))) rfl) (va_cwS 1 hts gX9_spelt_X9_size rfl rfl rfl (by decide +kernel) ⟨Nat.le_of_ble_eq_true rfl, Nat.le_of_ble_eq_true rfl⟩) ⟨fun _ _ _ _ q => q, fun U hU hW => ⟨rfl, trivial⟩⟩ rfl rfl hl.1 rfl (lv_room (Nat.le_of_ble_eq_true rfl)) dX9_spelt_87 ⟨Nat.zero_le _, Nat.zero_le _⟩) ?_
        refine W.eq (g2 := F0 m 90 ls [.int (fX9_size (fX9_signsOf v6 v5 ((A 13) (((8 : Int32) * v2) + v8).toNatClampNeg) ((A 14) (((8 : Int32) * v2) + v8).toNatClampNeg))), .int v7]) rfl ?_
        refine lv_iadd hx hb dX9_spelt_90 ?_
        refine lv_istore (lv' := [(7, .int (v7 + (fX9_size (fX9_signsOf v6 v5 ((A 13) (((8 : Int32) * v2) + v8).toNatClampNeg) ((A 14) (((8 : Int32) * v2) + v8).toNatClampNeg))))), (0, .ref (Q 100)), (1, .int v1), (2, .int v2), (3, .int v3), (4, .int v4), (5, .int v5), (6, .int v6), (8, .int v8)]) hx hb dX9_spelt_91 hl (by decide) rfl (fun ls hl => ?_)
        refine lv_iinc (v := (v8 + (1 : Int32))) (lv' := [(8, .int (v8 + (1 : Int32))), (7, .int (v7 + (fX9_size (fX9_signsOf v6 v5 ((A 13) (((8 : Int32) * v2) + v8).toNatClampNeg) ((A 14) (((8 : Int32) * v2) + v8).toNatClampNeg))))), (0, .ref (Q 100)), (1, .int v1), (2, .int v2), (3, .int v3), (4, .int v4), (5, .int v5), (6, .int v6)]) hx hb dX9_spelt_93 hl (k := 8) rfl rfl (by decide) rfl (fun ls hl => ?_)
        refine lv_goto (tgt := 43) hx hb dX9_spelt_96 (by decide) ?_
        exact ih43 v1 v2 v3 v4 v5 v6 (v7 + (fX9_size (fX9_signsOf v6 v5 ((A 13) (((8 : Int32) * v2) + v8).toNatClampNeg) ((A 14) (((8 : Int32) * v2) + v8).toNatClampNeg)))) (v8 + (1 : Int32)) ls hf (lv_sub hl [2, 3, 4, 5, 6, 7, 8, 1, 0] rfl)
  have sg9 : ∀ n : Nat, ∀  (v1 : Int32) (v2 : Int32) (v3 : Int32) (v4 : Int32) (v5 : Int32) (ls : Array Slot), fX9_spelt_9 B I A  n  v1 v2 v3 v4 v5 = some r → lv_has ls 9 [(0, .ref (Q 100)), (1, .int v1), (2, .int v2), (3, .int v3), (4, .int v4), (5, .int v5)] → W p l e (headSpec wsX9_spelt ({ frames := 2, cells := 0, slots := 0, locals := 44 })).room s m (([.ref (Q 100), .int x1, .int x2] : List Value).toArray) below meth c s.heap [] 0 0 (MQ below (QcRead r) (([.ref (Q 100), .int x1, .int x2] : List Value).toArray) s 0 0 (fun _ => False)) (F0 m 9 ls []) := by
    intro n
    induction n with
    | zero => intro v1 v2 v3 v4 v5 ls hf hl; exact of_none hf
    | succ n ih9 =>
      intro v1 v2 v3 v4 v5 ls hf hl
      change fX9_spelt_9B B I A  (fX9_spelt_9 B I A  n) v1 v2 v3 v4 v5 = _ at hf
      unfold fX9_spelt_9B at hf
      refine lv_iload hx hb dX9_spelt_9 (lv_at hl 5 rfl) ?_
      refine lv_iconst (v := (1 : Int32)) hx hb dX9_spelt_11 (by decide) ?_
      refine lv_icmp_gt (tgt := 125) hx hb dX9_spelt_12 (by decide) (fun c1 => ?_) (fun c1 => ?_)
      · have hf := (if_pos c1).symm.trans hf
        refine lv_iload_n hx hb dX9_spelt_125 rfl (lv_at hl 3 rfl) ?_
        exact W.iret (v := v3) hx hb hr (fun t ht hW => ⟨congrArg (fun z => Outcome.returned (some (Value.int z))) (Option.some.inj hf), ht⟩) (fun _ h => nomatch h) dX9_spelt_126
      · have hf := (if_neg c1).symm.trans hf
        refine lv_iload_n hx hb dX9_spelt_15 rfl (lv_at hl 1 rfl) ?_
        refine lv_iload hx hb dX9_spelt_16 (lv_at hl 5 rfl) ?_
        obtain ⟨r2, hc3, hf⟩ := of_bind_some hf
        refine W.callR (r := r2) (W.runS (As := [.int v1, .int v5]) (rest := []) ⟨hx, hb, hml, hown, hts⟩ (mX9_letterOf l v1 v5 r2 hc3) (va_cwS 2 hts gX9_spelt_X9_letterOf rfl rfl rfl (by decide +kernel) ⟨Nat.le_of_ble_eq_true rfl, Nat.le_of_ble_eq_true rfl⟩) ⟨fun _ _ _ _ q => q, fun U hU hW => ⟨rfl, trivial⟩⟩ rfl rfl hl.1 rfl (lv_room (Nat.le_of_ble_eq_true rfl)) dX9_spelt_18 ⟨Nat.zero_le _, Nat.zero_le _⟩) ?_
        refine W.eq (g2 := F0 m 21 ls [.int r2]) rfl ?_
        refine lv_istore (lv' := [(6, .int r2), (0, .ref (Q 100)), (1, .int v1), (2, .int v2), (3, .int v3), (4, .int v4), (5, .int v5)]) hx hb dX9_spelt_21 hl (by decide) rfl (fun ls hl => ?_)
        refine lv_iload hx hb dX9_spelt_23 (lv_at hl 0 rfl) ?_
        refine lv_bipush (v := (-2 : Int32)) hx hb dX9_spelt_25 (by decide) ?_
        refine lv_icmp_ne (tgt := 33) hx hb dX9_spelt_27 (by decide) (fun c4 => ?_) (fun c4 => ?_)
        · have hf := (if_neg c4).symm.trans hf
          refine lv_iload hx hb dX9_spelt_33 (lv_at hl 6 rfl) ?_
          refine W.callR (r := (fX9_size v5)) (W.runS (As := [.int v5]) (rest := []) ⟨hx, hb, hml, hown, hts⟩ (mX9_size l v5 (fX9_size v5) rfl) (va_cwS 1 hts gX9_spelt_X9_size rfl rfl rfl (by decide +kernel) ⟨Nat.le_of_ble_eq_true rfl, Nat.le_of_ble_eq_true rfl⟩) ⟨fun _ _ _ _ q => q, fun U hU hW => ⟨rfl, trivial⟩⟩ rfl rfl hl.1 rfl (lv_room (Nat.le_of_ble_eq_true rfl)) dX9_spelt_35 ⟨Nat.zero_le _, Nat.zero_le _⟩) ?_
          refine W.eq (g2 := F0 m 38 ls [.int (fX9_size v5)]) rfl ?_
          refine lv_istore (lv' := [(7, .int (fX9_size v5)), (6, .int r2), (0, .ref (Q 100)), (1, .int v1), (2, .int v2), (3, .int v3), (4, .int v4), (5, .int v5)]) hx hb dX9_spelt_38 hl (by decide) rfl (fun ls hl => ?_)
          refine lv_iconst (v := (0 : Int32)) hx hb dX9_spelt_40 (by decide) ?_
          refine lv_istore (lv' := [(8, .int (0 : Int32)), (7, .int (fX9_size v5)), (6, .int r2), (0, .ref (Q 100)), (1, .int v1), (2, .int v2), (3, .int v3), (4, .int v4), (5, .int v5)]) hx hb dX9_spelt_41 hl (by decide) rfl (fun ls hl => ?_)
          exact sg43 _ ih9 FU v1 v2 v3 v4 v5 r2 (fX9_size v5) (0 : Int32) ls hf (lv_sub hl [3, 4, 5, 6, 7, 8, 2, 1, 0] rfl)
        · have hf := (if_pos c4).symm.trans hf
          refine lv_goto (tgt := 119) hx hb dX9_spelt_30 (by decide) ?_
          refine lv_iinc (v := (v5 + (1 : Int32))) (lv' := [(5, .int (v5 + (1 : Int32))), (6, .int r2), (0, .ref (Q 100)), (1, .int v1), (2, .int v2), (3, .int v3), (4, .int v4)]) hx hb dX9_spelt_119 hl (k := 6) rfl rfl (by decide) rfl (fun ls hl => ?_)
          refine lv_goto (tgt := 9) hx hb dX9_spelt_122 (by decide) ?_
          exact ih9 v1 v2 v3 v4 (v5 + (1 : Int32)) ls hf (lv_sub hl [2, 3, 4, 5, 6, 0] rfl)
  have hl := lv_entry ([.ref (Q 100), .int x1, .int x2]) (n := 9) (Nat.le_of_ble_eq_true rfl)
  rw [lg_entry_eq]
  generalize (lg_sl ([.ref (Q 100), .int x1, .int x2]) ++ List.replicate (9 - (lg_sl ([.ref (Q 100), .int x1, .int x2])).length) Slot.unset).toArray = ls at hl ⊢
  have hl : lv_has ls 9 [(0, .ref (Q 100)), (1, .int x1), (2, .int x2)] := hl
  unfold fX9_spelt at hf
  refine lv_bipush (v := (-2 : Int32)) hx hb dX9_spelt_0 (by decide) ?_
  refine lv_istore_n (lv' := [(3, .int (-2 : Int32)), (0, .ref (Q 100)), (1, .int x1), (2, .int x2)]) hx hb dX9_spelt_2 rfl hl (by decide) rfl (fun ls hl => ?_)
  refine lv_iconst (v := (0 : Int32)) hx hb dX9_spelt_3 (by decide) ?_
  refine lv_istore (lv' := [(4, .int (0 : Int32)), (3, .int (-2 : Int32)), (0, .ref (Q 100)), (1, .int x1), (2, .int x2)]) hx hb dX9_spelt_4 hl (by decide) rfl (fun ls hl => ?_)
  refine lv_iconst (v := (-1 : Int32)) hx hb dX9_spelt_6 (by decide) ?_
  refine lv_istore (lv' := [(5, .int (-1 : Int32)), (4, .int (0 : Int32)), (3, .int (-2 : Int32)), (0, .ref (Q 100)), (1, .int x1), (2, .int x2)]) hx hb dX9_spelt_7 hl (by decide) rfl (fun ls hl => ?_)
  exact sg9  FU x1 x2 (-2 : Int32) (0 : Int32) (-1 : Int32) ls hf (lv_sub hl [3, 4, 5, 2, 1, 0] rfl)
def fX9_setOfBody_5B (B : Nat → Nat → Int64) (I : Nat → Int32) (A : Nat → Nat → Int32)  (k5 : Int32 → Int32 → Int32 → Int32 → Option Int32)  (v1 : Int32) (v2 : Int32) (v3 : Int32) (v4 : Int32) : Option Int32 :=
  (if gd v1 20 then (if ((A 15) v1.toNatClampNeg) ≤ v4 then (some v3) else (if gd (((8 : Int32) * v1) + v4) 160 then (k5 v1 v2 (v3 ||| ((1 : Int32) <<< ((jrem (v2 + ((A 13) (((8 : Int32) * v1) + v4).toNatClampNeg)) (12 : Int32)) &&& 31))) (v4 + (1 : Int32))) else none)) else none)
def fX9_setOfBody_5 (B : Nat → Nat → Int64) (I : Nat → Int32) (A : Nat → Nat → Int32)  : Nat → (Int32 → Int32 → Int32 → Int32 → Option Int32)
  | 0 => fun _ _ _ _ => none
  | n + 1 => fX9_setOfBody_5B B I A  (fX9_setOfBody_5 B I A  n)
def fX9_setOfBody (B : Nat → Nat → Int64) (I : Nat → Int32) (A : Nat → Nat → Int32)  (x1 : Int32) (x2 : Int32) : Option Int32 :=
  (fX9_setOfBody_5 B I A  FU x1 x2 (0 : Int32) (0 : Int32))
set_option maxRecDepth 100000 in
set_option maxHeartbeats 4000000 in
theorem mX9_setOfBody (l : Launch) (dC : Nat → ClassId) (dI : Nat → Nat → Nat) (cI cB cJ : ClassId) (Q : Nat → Nat) (B : Nat → Nat → Int64) (I : Nat → Int32) (A : Nat → Nat → Int32)  (x1 : Int32) (x2 : Int32) (r : Int32) (hf : fX9_setOfBody B I A x1 x2 = some r) : Met l yX9_setOfBody wsX9_setOfBody ({ frames := 0, cells := 0, slots := 0, locals := 0 }) (va_Pc [.ref (Q 100), .int x1, .int x2] (fun U => va_P (dC, dI) vwCl (wM cI cB cJ Q B I A) U.heap ∧ va_K (dC, dI) vwCl (tM cI cB cJ) U)) (QcRead r) 0 0 (fun _ => False) := by
  refine Met.ofW (cc := cX9_setOfBody) (maxL := 5) (ret := (some .int)) (by decide) rfl ?_
  intro p e s m args below meth c s₁ BL hml hv
  obtain ⟨rfl, hP, hK⟩ := hv
  have hx := BL.exec
  have hb := BL.bytes
  have hr := BL.returns
  have hts := atoms_spec (ws := wsX9_setOfBody) BL.pre
  have hown : s.vm.findClass RX9 = some m.cls := findClass_of_methodNamed BL.named
  have hlocks := BL.notSynchronized
  have hinX9 : ∀ w ∈ u_ws RX9 TX9 36, w ∈ wsX9_setOfBody := by decide +kernel
  have hk35 := hts (.fieldLink RX9 35 "LeadSheetsModel" "bodyHalves" "[I") (by decide +kernel)
  have hk41 := hts (.fieldLink RX9 41 "LeadSheetsModel" "bodyMany" "[I") (by decide +kernel)
  have sg5 : ∀ n : Nat, ∀  (v1 : Int32) (v2 : Int32) (v3 : Int32) (v4 : Int32) (ls : Array Slot), fX9_setOfBody_5 B I A  n  v1 v2 v3 v4 = some r → lv_has ls 5 [(0, .ref (Q 100)), (1, .int v1), (2, .int v2), (3, .int v3), (4, .int v4)] → W p l e (headSpec wsX9_setOfBody ({ frames := 0, cells := 0, slots := 0, locals := 0 })).room s m (([.ref (Q 100), .int x1, .int x2] : List Value).toArray) below meth c s.heap [] 0 0 (MQ below (QcRead r) (([.ref (Q 100), .int x1, .int x2] : List Value).toArray) s 0 0 (fun _ => False)) (F0 m 5 ls []) := by
    intro n
    induction n with
    | zero => intro v1 v2 v3 v4 ls hf hl; exact of_none hf
    | succ n ih5 =>
      intro v1 v2 v3 v4 ls hf hl
      change fX9_setOfBody_5B B I A  (fX9_setOfBody_5 B I A  n) v1 v2 v3 v4 = _ at hf
      unfold fX9_setOfBody_5B at hf
      refine lv_iload hx hb dX9_setOfBody_5 (lv_at hl 4 rfl) ?_
      refine lv_aload_n hx hb dX9_setOfBody_7 rfl (lv_at hl 0 rfl) ?_
      refine va_get (D := (dC, dI)) (ci := 6) (v := .ref (Q 15)) (C := RX9) (T := TX9) (N := 36) hx hb hts hinX9 hown hK hP 0 rfl rfl 15 (by decide) hk41 (fun _ h9 => h9) rfl dX9_setOfBody_8 ?_
      refine lv_iload_n hx hb dX9_setOfBody_11 rfl (lv_at hl 1 rfl) ?_
      obtain ⟨g1, hf⟩ := of_ite_some hf
      refine va_iald hx hb hK hP 11 0 (n := 20) (f := (A 15)) rfl rfl g1 dX9_setOfBody_12 ?_
      refine lv_icmp_ge (tgt := 44) hx hb dX9_setOfBody_13 (by decide) (fun c2 => ?_) (fun c2 => ?_)
      · have hf := (if_pos c2).symm.trans hf
        refine lv_iload_n hx hb dX9_setOfBody_44 rfl (lv_at hl 3 rfl) ?_
        exact W.iret (v := v3) hx hb hr (fun t ht hW => ⟨congrArg (fun z => Outcome.returned (some (Value.int z))) (Option.some.inj hf), ht⟩) (fun _ h => nomatch h) dX9_setOfBody_45
      · have hf := (if_neg c2).symm.trans hf
        refine lv_iload_n hx hb dX9_setOfBody_16 rfl (lv_at hl 3 rfl) ?_
        refine lv_iconst (v := (1 : Int32)) hx hb dX9_setOfBody_17 (by decide) ?_
        refine lv_iload_n hx hb dX9_setOfBody_18 rfl (lv_at hl 2 rfl) ?_
        refine lv_aload_n hx hb dX9_setOfBody_19 rfl (lv_at hl 0 rfl) ?_
        refine va_get (D := (dC, dI)) (ci := 6) (v := .ref (Q 13)) (C := RX9) (T := TX9) (N := 36) hx hb hts hinX9 hown hK hP 0 rfl rfl 13 (by decide) hk35 (fun _ h9 => h9) rfl dX9_setOfBody_20 ?_
        refine lv_bipush (v := (8 : Int32)) hx hb dX9_setOfBody_23 (by decide) ?_
        refine lv_iload_n hx hb dX9_setOfBody_25 rfl (lv_at hl 1 rfl) ?_
        refine lv_imul hx hb dX9_setOfBody_26 ?_
        refine lv_iload hx hb dX9_setOfBody_27 (lv_at hl 4 rfl) ?_
        refine lv_iadd hx hb dX9_setOfBody_29 ?_
        obtain ⟨g3, hf⟩ := of_ite_some hf
        refine va_iald hx hb hK hP 9 0 (n := 160) (f := (A 13)) rfl rfl g3 dX9_setOfBody_30 ?_
        refine lv_iadd hx hb dX9_setOfBody_31 ?_
        refine lv_bipush (v := (12 : Int32)) hx hb dX9_setOfBody_32 (by decide) ?_
        refine lv_irem hx hb dX9_setOfBody_34 (by decide) ?_
        refine W.eq (g2 := F0 m 35 ls [.int (jrem (v2 + ((A 13) (((8 : Int32) * v1) + v4).toNatClampNeg)) (12 : Int32)), .int (1 : Int32), .int v3]) rfl ?_
        refine lv_ishl hx hb dX9_setOfBody_35 ?_
        refine lv_ior hx hb dX9_setOfBody_36 ?_
        refine lv_istore_n (lv' := [(3, .int (v3 ||| ((1 : Int32) <<< ((jrem (v2 + ((A 13) (((8 : Int32) * v1) + v4).toNatClampNeg)) (12 : Int32)) &&& 31)))), (0, .ref (Q 100)), (1, .int v1), (2, .int v2), (4, .int v4)]) hx hb dX9_setOfBody_37 rfl hl (by decide) rfl (fun ls hl => ?_)
        refine lv_iinc (v := (v4 + (1 : Int32))) (lv' := [(4, .int (v4 + (1 : Int32))), (3, .int (v3 ||| ((1 : Int32) <<< ((jrem (v2 + ((A 13) (((8 : Int32) * v1) + v4).toNatClampNeg)) (12 : Int32)) &&& 31)))), (0, .ref (Q 100)), (1, .int v1), (2, .int v2)]) hx hb dX9_setOfBody_38 hl (k := 4) rfl rfl (by decide) rfl (fun ls hl => ?_)
        refine lv_goto (tgt := 5) hx hb dX9_setOfBody_41 (by decide) ?_
        exact ih5 v1 v2 (v3 ||| ((1 : Int32) <<< ((jrem (v2 + ((A 13) (((8 : Int32) * v1) + v4).toNatClampNeg)) (12 : Int32)) &&& 31))) (v4 + (1 : Int32)) ls hf (lv_sub hl [2, 3, 4, 1, 0] rfl)
  have hl := lv_entry ([.ref (Q 100), .int x1, .int x2]) (n := 5) (Nat.le_of_ble_eq_true rfl)
  rw [lg_entry_eq]
  generalize (lg_sl ([.ref (Q 100), .int x1, .int x2]) ++ List.replicate (5 - (lg_sl ([.ref (Q 100), .int x1, .int x2])).length) Slot.unset).toArray = ls at hl ⊢
  have hl : lv_has ls 5 [(0, .ref (Q 100)), (1, .int x1), (2, .int x2)] := hl
  unfold fX9_setOfBody at hf
  refine lv_iconst (v := (0 : Int32)) hx hb dX9_setOfBody_0 (by decide) ?_
  refine lv_istore_n (lv' := [(3, .int (0 : Int32)), (0, .ref (Q 100)), (1, .int x1), (2, .int x2)]) hx hb dX9_setOfBody_1 rfl hl (by decide) rfl (fun ls hl => ?_)
  refine lv_iconst (v := (0 : Int32)) hx hb dX9_setOfBody_2 (by decide) ?_
  refine lv_istore (lv' := [(4, .int (0 : Int32)), (3, .int (0 : Int32)), (0, .ref (Q 100)), (1, .int x1), (2, .int x2)]) hx hb dX9_setOfBody_3 hl (by decide) rfl (fun ls hl => ?_)
  exact sg5  FU x1 x2 (0 : Int32) (0 : Int32) ls hf (lv_sub hl [2, 3, 4, 1, 0] rfl)
def fX9_rest_179 (B : Nat → Nat → Int64) (I : Nat → Int32) (A : Nat → Nat → Int32) (k57 : Int32 → Int32 → Int32 → Int32 → Int32 → Int32 → Option Int32) (k83 : Int32 → Int32 → Int32 → Int32 → Int32 → Int32 → Int32 → Int32 → Int32 → Option Int32)  (v1 : Int32) (v2 : Int32) (v3 : Int32) (v4 : Int32) (v5 : Int32) (v6 : Int32) (v7 : Int32) (v9 : Int32) (v10 : Int32) (t0 : Int32) (t1 : Int32) : Option Int32 :=
  (k83 v1 v2 v3 v4 v5 v6 (v7 + v10) (t1 &&& t0) (v9 + (1 : Int32)))
def fX9_rest_145 (B : Nat → Nat → Int64) (I : Nat → Int32) (A : Nat → Nat → Int32) (k57 : Int32 → Int32 → Int32 → Int32 → Int32 → Int32 → Option Int32) (k83 : Int32 → Int32 → Int32 → Int32 → Int32 → Int32 → Int32 → Int32 → Int32 → Option Int32) (k109 : Int32 → Int32 → Int32 → Int32 → Int32 → Int32 → Int32 → Int32 → Int32 → Int32 → Int32 → Option Int32)  (v1 : Int32) (v2 : Int32) (v3 : Int32) (v4 : Int32) (v5 : Int32) (v6 : Int32) (v7 : Int32) (v8 : Int32) (v9 : Int32) (v11 : Int32) : Option Int32 :=
  (if gd v11 128 then (k109 v1 v2 v3 v4 v5 v6 v7 v8 v9 ((A 33) v11.toNatClampNeg) (v11 + (1 : Int32))) else none)
def fX9_rest_109B (B : Nat → Nat → Int64) (I : Nat → Int32) (A : Nat → Nat → Int32) (k57 : Int32 → Int32 → Int32 → Int32 → Int32 → Int32 → Option Int32) (k83 : Int32 → Int32 → Int32 → Int32 → Int32 → Int32 → Int32 → Int32 → Int32 → Option Int32) (k109 : Int32 → Int32 → Int32 → Int32 → Int32 → Int32 → Int32 → Int32 → Int32 → Int32 → Int32 → Option Int32)  (v1 : Int32) (v2 : Int32) (v3 : Int32) (v4 : Int32) (v5 : Int32) (v6 : Int32) (v7 : Int32) (v8 : Int32) (v9 : Int32) (v10 : Int32) (v11 : Int32) : Option Int32 :=
  (if v6 < v11 then (if v10 = (-2 : Int32) then (fX9_rest_179 B I A k57 k83 v1 v2 v3 v4 v5 v6 v7 v9 v10 (0 : Int32) v8) else (fX9_rest_179 B I A k57 k83 v1 v2 v3 v4 v5 v6 v7 v9 v10 (1 : Int32) v8)) else (if (jrem v11 (12 : Int32)) = v9 then (if v10 = (-2 : Int32) then (fX9_rest_145 B I A k57 k83 k109 v1 v2 v3 v4 v5 v6 v7 v8 v9 v11) else (if gd v11 128 then (if v10 ≤ ((A 33) v11.toNatClampNeg) then (k109 v1 v2 v3 v4 v5 v6 v7 v8 v9 v10 (v11 + (1 : Int32))) else (fX9_rest_145 B I A k57 k83 k109 v1 v2 v3 v4 v5 v6 v7 v8 v9 v11)) else none)) else (k109 v1 v2 v3 v4 v5 v6 v7 v8 v9 v10 (v11 + (1 : Int32)))))
def fX9_rest_109 (B : Nat → Nat → Int64) (I : Nat → Int32) (A : Nat → Nat → Int32) (k57 : Int32 → Int32 → Int32 → Int32 → Int32 → Int32 → Option Int32) (k83 : Int32 → Int32 → Int32 → Int32 → Int32 → Int32 → Int32 → Int32 → Int32 → Option Int32) : Nat → (Int32 → Int32 → Int32 → Int32 → Int32 → Int32 → Int32 → Int32 → Int32 → Int32 → Int32 → Option Int32)
  | 0 => fun _ _ _ _ _ _ _ _ _ _ _ => none
  | n + 1 => fX9_rest_109B B I A k57 k83 (fX9_rest_109 B I A k57 k83 n)
def fX9_rest_83B (B : Nat → Nat → Int64) (I : Nat → Int32) (A : Nat → Nat → Int32) (k57 : Int32 → Int32 → Int32 → Int32 → Int32 → Int32 → Option Int32) (k83 : Int32 → Int32 → Int32 → Int32 → Int32 → Int32 → Int32 → Int32 → Int32 → Option Int32)  (v1 : Int32) (v2 : Int32) (v3 : Int32) (v4 : Int32) (v5 : Int32) (v6 : Int32) (v7 : Int32) (v8 : Int32) (v9 : Int32) : Option Int32 :=
  (if (12 : Int32) ≤ v9 then (if v8 = 0 then (k57 v1 v2 v3 v4 v5 (v6 + (1 : Int32))) else (if v5 = (-2 : Int32) then (k57 v1 v2 v3 v4 v7 (v6 + (1 : Int32))) else (if v5 ≤ v7 then (k57 v1 v2 v3 v4 v5 (v6 + (1 : Int32))) else (k57 v1 v2 v3 v4 v7 (v6 + (1 : Int32)))))) else (if ((v1 >>> (v9 &&& 31)) &&& (1 : Int32)) = (1 : Int32) then (fX9_rest_109 B I A k57 k83 FU v1 v2 v3 v4 v5 v6 v7 v8 v9 (-2 : Int32) (v3 + (1 : Int32))) else (k83 v1 v2 v3 v4 v5 v6 v7 v8 (v9 + (1 : Int32)))))
def fX9_rest_83 (B : Nat → Nat → Int64) (I : Nat → Int32) (A : Nat → Nat → Int32) (k57 : Int32 → Int32 → Int32 → Int32 → Int32 → Int32 → Option Int32) : Nat → (Int32 → Int32 → Int32 → Int32 → Int32 → Int32 → Int32 → Int32 → Int32 → Option Int32)
  | 0 => fun _ _ _ _ _ _ _ _ _ => none
  | n + 1 => fX9_rest_83B B I A k57 (fX9_rest_83 B I A k57 n)
def fX9_rest_57B (B : Nat → Nat → Int64) (I : Nat → Int32) (A : Nat → Nat → Int32)  (k57 : Int32 → Int32 → Int32 → Int32 → Int32 → Int32 → Option Int32)  (v1 : Int32) (v2 : Int32) (v3 : Int32) (v4 : Int32) (v5 : Int32) (v6 : Int32) : Option Int32 :=
  (if v2 < v6 then (some v5) else (if gd (0 : Int32) 12 then (fX9_rest_83 B I A k57 FU v1 v2 v3 v4 v5 v6 ((v4 + v6) - ((A 34) (0 : Int32).toNatClampNeg)) (1 : Int32) (0 : Int32)) else none))
def fX9_rest_57 (B : Nat → Nat → Int64) (I : Nat → Int32) (A : Nat → Nat → Int32)  : Nat → (Int32 → Int32 → Int32 → Int32 → Int32 → Int32 → Option Int32)
  | 0 => fun _ _ _ _ _ _ => none
  | n + 1 => fX9_rest_57B B I A  (fX9_rest_57 B I A  n)
def fX9_rest_18B (B : Nat → Nat → Int64) (I : Nat → Int32) (A : Nat → Nat → Int32)  (k18 : Int32 → Int32 → Int32 → Int32 → Int32 → Option Int32)  (v1 : Int32) (v2 : Int32) (v3 : Int32) (v4 : Int32) (v5 : Int32) : Option Int32 :=
  (if (I 35) ≤ v5 then (fX9_rest_57 B I A  FU v1 v2 v3 v4 (-2 : Int32) v3) else (if gd v5 12 then (if gd ((A 34) v5.toNatClampNeg) 128 then (k18 v1 v2 v3 (v4 + ((A 33) ((A 34) v5.toNatClampNeg).toNatClampNeg)) (v5 + (1 : Int32))) else none) else none))
def fX9_rest_18 (B : Nat → Nat → Int64) (I : Nat → Int32) (A : Nat → Nat → Int32)  : Nat → (Int32 → Int32 → Int32 → Int32 → Int32 → Option Int32)
  | 0 => fun _ _ _ _ _ => none
  | n + 1 => fX9_rest_18B B I A  (fX9_rest_18 B I A  n)
def fX9_rest (B : Nat → Nat → Int64) (I : Nat → Int32) (A : Nat → Nat → Int32)  (x1 : Int32) (x2 : Int32) : Option Int32 :=
  (if gd ((I 35) - (1 : Int32)) 12 then (fX9_rest_18 B I A  FU x1 x2 ((A 34) ((I 35) - (1 : Int32)).toNatClampNeg) (0 : Int32) (0 : Int32)) else none)
set_option maxRecDepth 100000 in
set_option maxHeartbeats 4000000 in
theorem mX9_rest (l : Launch) (dC : Nat → ClassId) (dI : Nat → Nat → Nat) (cI cB cJ : ClassId) (Q : Nat → Nat) (B : Nat → Nat → Int64) (I : Nat → Int32) (A : Nat → Nat → Int32)  (x1 : Int32) (x2 : Int32) (r : Int32) (hf : fX9_rest B I A x1 x2 = some r) : Met l yX9_rest wsX9_rest ({ frames := 0, cells := 0, slots := 0, locals := 0 }) (va_Pc [.ref (Q 100), .int x1, .int x2] (fun U => va_P (dC, dI) vwCl (wM cI cB cJ Q B I A) U.heap ∧ va_K (dC, dI) vwCl (tM cI cB cJ) U)) (QcRead r) 0 0 (fun _ => False) := by
  refine Met.ofW (cc := cX9_rest) (maxL := 12) (ret := (some .int)) (by decide) rfl ?_
  intro p e s m args below meth c s₁ BL hml hv
  obtain ⟨rfl, hP, hK⟩ := hv
  have hx := BL.exec
  have hb := BL.bytes
  have hr := BL.returns
  have hts := atoms_spec (ws := wsX9_rest) BL.pre
  have hown : s.vm.findClass RX9 = some m.cls := findClass_of_methodNamed BL.named
  have hlocks := BL.notSynchronized
  have hinX9 : ∀ w ∈ u_ws RX9 TX9 36, w ∈ wsX9_rest := by decide +kernel
  have hk184 := hts (.fieldLink RX9 184 "LeadSheetsModel" "near" "[I") (by decide +kernel)
  have hk187 := hts (.fieldLink RX9 187 "LeadSheetsModel" "made" "[I") (by decide +kernel)
  have hk347 := hts (.fieldLink RX9 347 "LeadSheetsModel" "madeMany" "I") (by decide +kernel)
  have sg179 : ∀ (k57 : Int32 → Int32 → Int32 → Int32 → Int32 → Int32 → Option Int32), (∀  (v1 : Int32) (v2 : Int32) (v3 : Int32) (v4 : Int32) (v5 : Int32) (v6 : Int32) (ls : Array Slot), k57  v1 v2 v3 v4 v5 v6 = some r → lv_has ls 12 [(0, .ref (Q 100)), (1, .int v1), (2, .int v2), (3, .int v3), (4, .int v4), (5, .int v5), (6, .int v6)] → W p l e (headSpec wsX9_rest ({ frames := 0, cells := 0, slots := 0, locals := 0 })).room s m (([.ref (Q 100), .int x1, .int x2] : List Value).toArray) below meth c s.heap [] 0 0 (MQ below (QcRead r) (([.ref (Q 100), .int x1, .int x2] : List Value).toArray) s 0 0 (fun _ => False)) (F0 m 57 ls [])) → ∀ (k83 : Int32 → Int32 → Int32 → Int32 → Int32 → Int32 → Int32 → Int32 → Int32 → Option Int32), (∀  (v1 : Int32) (v2 : Int32) (v3 : Int32) (v4 : Int32) (v5 : Int32) (v6 : Int32) (v7 : Int32) (v8 : Int32) (v9 : Int32) (ls : Array Slot), k83  v1 v2 v3 v4 v5 v6 v7 v8 v9 = some r → lv_has ls 12 [(0, .ref (Q 100)), (1, .int v1), (2, .int v2), (3, .int v3), (4, .int v4), (5, .int v5), (6, .int v6), (7, .int v7), (8, .int v8), (9, .int v9)] → W p l e (headSpec wsX9_rest ({ frames := 0, cells := 0, slots := 0, locals := 0 })).room s m (([.ref (Q 100), .int x1, .int x2] : List Value).toArray) below meth c s.heap [] 0 0 (MQ below (QcRead r) (([.ref (Q 100), .int x1, .int x2] : List Value).toArray) s 0 0 (fun _ => False)) (F0 m 83 ls [])) → ∀  (v1 : Int32) (v2 : Int32) (v3 : Int32) (v4 : Int32) (v5 : Int32) (v6 : Int32) (v7 : Int32) (v9 : Int32) (v10 : Int32) (t0 : Int32) (t1 : Int32) (ls : Array Slot), fX9_rest_179 B I A k57 k83  v1 v2 v3 v4 v5 v6 v7 v9 v10 t0 t1 = some r → lv_has ls 12 [(0, .ref (Q 100)), (1, .int v1), (2, .int v2), (3, .int v3), (4, .int v4), (5, .int v5), (6, .int v6), (7, .int v7), (9, .int v9), (10, .int v10)] → W p l e (headSpec wsX9_rest ({ frames := 0, cells := 0, slots := 0, locals := 0 })).room s m (([.ref (Q 100), .int x1, .int x2] : List Value).toArray) below meth c s.heap [] 0 0 (MQ below (QcRead r) (([.ref (Q 100), .int x1, .int x2] : List Value).toArray) s 0 0 (fun _ => False)) (F0 m 179 ls [.int t0, .int t1]) := by
    intro k57 ih57 k83 ih83
    intro v1 v2 v3 v4 v5 v6 v7 v9 v10 t0 t1 ls hf hl
    unfold fX9_rest_179 at hf
    refine lv_iand hx hb dX9_rest_179 ?_
    refine lv_istore (lv' := [(8, .int (t1 &&& t0)), (0, .ref (Q 100)), (1, .int v1), (2, .int v2), (3, .int v3), (4, .int v4), (5, .int v5), (6, .int v6), (7, .int v7), (9, .int v9), (10, .int v10)]) hx hb dX9_rest_180 hl (by decide) rfl (fun ls hl => ?_)
    refine lv_iload hx hb dX9_rest_182 (lv_at hl 8 rfl) ?_
    refine lv_iload hx hb dX9_rest_184 (lv_at hl 10 rfl) ?_
    refine lv_iadd hx hb dX9_rest_186 ?_
    refine lv_istore (lv' := [(7, .int (v7 + v10)), (8, .int (t1 &&& t0)), (0, .ref (Q 100)), (1, .int v1), (2, .int v2), (3, .int v3), (4, .int v4), (5, .int v5), (6, .int v6), (9, .int v9), (10, .int v10)]) hx hb dX9_rest_187 hl (by decide) rfl (fun ls hl => ?_)
    refine lv_iinc (v := (v9 + (1 : Int32))) (lv' := [(9, .int (v9 + (1 : Int32))), (7, .int (v7 + v10)), (8, .int (t1 &&& t0)), (0, .ref (Q 100)), (1, .int v1), (2, .int v2), (3, .int v3), (4, .int v4), (5, .int v5), (6, .int v6), (10, .int v10)]) hx hb dX9_rest_189 hl (k := 9) rfl rfl (by decide) rfl (fun ls hl => ?_)
    refine lv_goto (tgt := 83) hx hb dX9_rest_192 (by decide) ?_
    exact ih83 v1 v2 v3 v4 v5 v6 (v7 + v10) (t1 &&& t0) (v9 + (1 : Int32)) ls hf (lv_sub hl [3, 4, 5, 6, 7, 8, 9, 1, 2, 0] rfl)
  have sg145 : ∀ (k57 : Int32 → Int32 → Int32 → Int32 → Int32 → Int32 → Option Int32), (∀  (v1 : Int32) (v2 : Int32) (v3 : Int32) (v4 : Int32) (v5 : Int32) (v6 : Int32) (ls : Array Slot), k57  v1 v2 v3 v4 v5 v6 = some r → lv_has ls 12 [(0, .ref (Q 100)), (1, .int v1), (2, .int v2), (3, .int v3), (4, .int v4), (5, .int v5), (6, .int v6)] → W p l e (headSpec wsX9_rest ({ frames := 0, cells := 0, slots := 0, locals := 0 })).room s m (([.ref (Q 100), .int x1, .int x2] : List Value).toArray) below meth c s.heap [] 0 0 (MQ below (QcRead r) (([.ref (Q 100), .int x1, .int x2] : List Value).toArray) s 0 0 (fun _ => False)) (F0 m 57 ls [])) → ∀ (k83 : Int32 → Int32 → Int32 → Int32 → Int32 → Int32 → Int32 → Int32 → Int32 → Option Int32), (∀  (v1 : Int32) (v2 : Int32) (v3 : Int32) (v4 : Int32) (v5 : Int32) (v6 : Int32) (v7 : Int32) (v8 : Int32) (v9 : Int32) (ls : Array Slot), k83  v1 v2 v3 v4 v5 v6 v7 v8 v9 = some r → lv_has ls 12 [(0, .ref (Q 100)), (1, .int v1), (2, .int v2), (3, .int v3), (4, .int v4), (5, .int v5), (6, .int v6), (7, .int v7), (8, .int v8), (9, .int v9)] → W p l e (headSpec wsX9_rest ({ frames := 0, cells := 0, slots := 0, locals := 0 })).room s m (([.ref (Q 100), .int x1, .int x2] : List Value).toArray) below meth c s.heap [] 0 0 (MQ below (QcRead r) (([.ref (Q 100), .int x1, .int x2] : List Value).toArray) s 0 0 (fun _ => False)) (F0 m 83 ls [])) → ∀ (k109 : Int32 → Int32 → Int32 → Int32 → Int32 → Int32 → Int32 → Int32 → Int32 → Int32 → Int32 → Option Int32), (∀  (v1 : Int32) (v2 : Int32) (v3 : Int32) (v4 : Int32) (v5 : Int32) (v6 : Int32) (v7 : Int32) (v8 : Int32) (v9 : Int32) (v10 : Int32) (v11 : Int32) (ls : Array Slot), k109  v1 v2 v3 v4 v5 v6 v7 v8 v9 v10 v11 = some r → lv_has ls 12 [(0, .ref (Q 100)), (1, .int v1), (2, .int v2), (3, .int v3), (4, .int v4), (5, .int v5), (6, .int v6), (7, .int v7), (8, .int v8), (9, .int v9), (10, .int v10), (11, .int v11)] → W p l e (headSpec wsX9_rest ({ frames := 0, cells := 0, slots := 0, locals := 0 })).room s m (([.ref (Q 100), .int x1, .int x2] : List Value).toArray) below meth c s.heap [] 0 0 (MQ below (QcRead r) (([.ref (Q 100), .int x1, .int x2] : List Value).toArray) s 0 0 (fun _ => False)) (F0 m 109 ls [])) → ∀  (v1 : Int32) (v2 : Int32) (v3 : Int32) (v4 : Int32) (v5 : Int32) (v6 : Int32) (v7 : Int32) (v8 : Int32) (v9 : Int32) (v11 : Int32) (ls : Array Slot), fX9_rest_145 B I A k57 k83 k109  v1 v2 v3 v4 v5 v6 v7 v8 v9 v11 = some r → lv_has ls 12 [(0, .ref (Q 100)), (1, .int v1), (2, .int v2), (3, .int v3), (4, .int v4), (5, .int v5), (6, .int v6), (7, .int v7), (8, .int v8), (9, .int v9), (11, .int v11)] → W p l e (headSpec wsX9_rest ({ frames := 0, cells := 0, slots := 0, locals := 0 })).room s m (([.ref (Q 100), .int x1, .int x2] : List Value).toArray) below meth c s.heap [] 0 0 (MQ below (QcRead r) (([.ref (Q 100), .int x1, .int x2] : List Value).toArray) s 0 0 (fun _ => False)) (F0 m 145 ls []) := by
    intro k57 ih57 k83 ih83 k109 ih109
    intro v1 v2 v3 v4 v5 v6 v7 v8 v9 v11 ls hf hl
    unfold fX9_rest_145 at hf
    refine lv_aload_n hx hb dX9_rest_145 rfl (lv_at hl 0 rfl) ?_
    refine va_get (D := (dC, dI)) (ci := 6) (v := .ref (Q 33)) (C := RX9) (T := TX9) (N := 36) hx hb hts hinX9 hown hK hP 0 rfl rfl 33 (by decide) hk184 (fun _ h9 => h9) rfl dX9_rest_146 ?_
    refine lv_iload hx hb dX9_rest_149 (lv_at hl 10 rfl) ?_
    obtain ⟨g18, hf⟩ := of_ite_some hf
    refine va_iald hx hb hK hP 23 0 (n := 128) (f := (A 33)) rfl rfl g18 dX9_rest_151 ?_
    refine lv_goto (tgt := 157) hx hb dX9_rest_152 (by decide) ?_
    refine lv_istore (lv' := [(10, .int ((A 33) v11.toNatClampNeg)), (0, .ref (Q 100)), (1, .int v1), (2, .int v2), (3, .int v3), (4, .int v4), (5, .int v5), (6, .int v6), (7, .int v7), (8, .int v8), (9, .int v9), (11, .int v11)]) hx hb dX9_rest_157 hl (by decide) rfl (fun ls hl => ?_)
    refine lv_iinc (v := (v11 + (1 : Int32))) (lv' := [(11, .int (v11 + (1 : Int32))), (10, .int ((A 33) v11.toNatClampNeg)), (0, .ref (Q 100)), (1, .int v1), (2, .int v2), (3, .int v3), (4, .int v4), (5, .int v5), (6, .int v6), (7, .int v7), (8, .int v8), (9, .int v9)]) hx hb dX9_rest_159 hl (k := 11) rfl rfl (by decide) rfl (fun ls hl => ?_)
    refine lv_goto (tgt := 109) hx hb dX9_rest_162 (by decide) ?_
    exact ih109 v1 v2 v3 v4 v5 v6 v7 v8 v9 ((A 33) v11.toNatClampNeg) (v11 + (1 : Int32)) ls hf (lv_sub hl [2, 3, 4, 5, 6, 7, 8, 9, 10, 11, 1, 0] rfl)
  have sg109 : ∀ (k57 : Int32 → Int32 → Int32 → Int32 → Int32 → Int32 → Option Int32), (∀  (v1 : Int32) (v2 : Int32) (v3 : Int32) (v4 : Int32) (v5 : Int32) (v6 : Int32) (ls : Array Slot), k57  v1 v2 v3 v4 v5 v6 = some r → lv_has ls 12 [(0, .ref (Q 100)), (1, .int v1), (2, .int v2), (3, .int v3), (4, .int v4), (5, .int v5), (6, .int v6)] → W p l e (headSpec wsX9_rest ({ frames := 0, cells := 0, slots := 0, locals := 0 })).room s m (([.ref (Q 100), .int x1, .int x2] : List Value).toArray) below meth c s.heap [] 0 0 (MQ below (QcRead r) (([.ref (Q 100), .int x1, .int x2] : List Value).toArray) s 0 0 (fun _ => False)) (F0 m 57 ls [])) → ∀ (k83 : Int32 → Int32 → Int32 → Int32 → Int32 → Int32 → Int32 → Int32 → Int32 → Option Int32), (∀  (v1 : Int32) (v2 : Int32) (v3 : Int32) (v4 : Int32) (v5 : Int32) (v6 : Int32) (v7 : Int32) (v8 : Int32) (v9 : Int32) (ls : Array Slot), k83  v1 v2 v3 v4 v5 v6 v7 v8 v9 = some r → lv_has ls 12 [(0, .ref (Q 100)), (1, .int v1), (2, .int v2), (3, .int v3), (4, .int v4), (5, .int v5), (6, .int v6), (7, .int v7), (8, .int v8), (9, .int v9)] → W p l e (headSpec wsX9_rest ({ frames := 0, cells := 0, slots := 0, locals := 0 })).room s m (([.ref (Q 100), .int x1, .int x2] : List Value).toArray) below meth c s.heap [] 0 0 (MQ below (QcRead r) (([.ref (Q 100), .int x1, .int x2] : List Value).toArray) s 0 0 (fun _ => False)) (F0 m 83 ls [])) → ∀ n : Nat, ∀  (v1 : Int32) (v2 : Int32) (v3 : Int32) (v4 : Int32) (v5 : Int32) (v6 : Int32) (v7 : Int32) (v8 : Int32) (v9 : Int32) (v10 : Int32) (v11 : Int32) (ls : Array Slot), fX9_rest_109 B I A k57 k83 n  v1 v2 v3 v4 v5 v6 v7 v8 v9 v10 v11 = some r → lv_has ls 12 [(0, .ref (Q 100)), (1, .int v1), (2, .int v2), (3, .int v3), (4, .int v4), (5, .int v5), (6, .int v6), (7, .int v7), (8, .int v8), (9, .int v9), (10, .int v10), (11, .int v11)] → W p l e (headSpec wsX9_rest ({ frames := 0, cells := 0, slots := 0, locals := 0 })).room s m (([.ref (Q 100), .int x1, .int x2] : List Value).toArray) below meth c s.heap [] 0 0 (MQ below (QcRead r) (([.ref (Q 100), .int x1, .int x2] : List Value).toArray) s 0 0 (fun _ => False)) (F0 m 109 ls []) := by
    intro k57 ih57 k83 ih83
    intro n
    induction n with
    | zero => intro v1 v2 v3 v4 v5 v6 v7 v8 v9 v10 v11 ls hf hl; exact of_none hf
    | succ n ih109 =>
      intro v1 v2 v3 v4 v5 v6 v7 v8 v9 v10 v11 ls hf hl
      change fX9_rest_109B B I A k57 k83 (fX9_rest_109 B I A k57 k83 n) v1 v2 v3 v4 v5 v6 v7 v8 v9 v10 v11 = _ at hf
      unfold fX9_rest_109B at hf
      refine lv_iload hx hb dX9_rest_109 (lv_at hl 11 rfl) ?_
      refine lv_iload hx hb dX9_rest_111 (lv_at hl 6 rfl) ?_
      refine lv_icmp_gt (tgt := 165) hx hb dX9_rest_113 (by decide) (fun c12 => ?_) (fun c12 => ?_)
      · have hf := (if_pos c12).symm.trans hf
        refine lv_iload hx hb dX9_rest_165 (lv_at hl 8 rfl) ?_
        refine lv_iload hx hb dX9_rest_167 (lv_at hl 10 rfl) ?_
        refine lv_bipush (v := (-2 : Int32)) hx hb dX9_rest_169 (by decide) ?_
        refine lv_icmp_eq (tgt := 178) hx hb dX9_rest_171 (by decide) (fun c13 => ?_) (fun c13 => ?_)
        · have hf := (if_pos c13).symm.trans hf
          refine lv_iconst (v := (0 : Int32)) hx hb dX9_rest_178 (by decide) ?_
          exact sg179 _ ih57 _ ih83 v1 v2 v3 v4 v5 v6 v7 v9 v10 (0 : Int32) v8 ls hf (lv_sub hl [0, 1, 2, 3, 4, 5, 6, 7, 9, 10] rfl)
        · have hf := (if_neg c13).symm.trans hf
          refine lv_iconst (v := (1 : Int32)) hx hb dX9_rest_174 (by decide) ?_
          refine lv_goto (tgt := 179) hx hb dX9_rest_175 (by decide) ?_
          exact sg179 _ ih57 _ ih83 v1 v2 v3 v4 v5 v6 v7 v9 v10 (1 : Int32) v8 ls hf (lv_sub hl [0, 1, 2, 3, 4, 5, 6, 7, 9, 10] rfl)
      · have hf := (if_neg c12).symm.trans hf
        refine lv_iload hx hb dX9_rest_116 (lv_at hl 11 rfl) ?_
        refine lv_bipush (v := (12 : Int32)) hx hb dX9_rest_118 (by decide) ?_
        refine lv_irem hx hb dX9_rest_120 (by decide) ?_
        refine W.eq (g2 := F0 m 121 ls [.int (jrem v11 (12 : Int32))]) rfl ?_
        refine lv_iload hx hb dX9_rest_121 (lv_at hl 9 rfl) ?_
        refine lv_icmp_ne (tgt := 155) hx hb dX9_rest_123 (by decide) (fun c14 => ?_) (fun c14 => ?_)
        · have hf := (if_neg c14).symm.trans hf
          refine lv_iload hx hb dX9_rest_155 (lv_at hl 10 rfl) ?_
          refine lv_istore (lv' := [(10, .int v10), (0, .ref (Q 100)), (1, .int v1), (2, .int v2), (3, .int v3), (4, .int v4), (5, .int v5), (6, .int v6), (7, .int v7), (8, .int v8), (9, .int v9), (11, .int v11)]) hx hb dX9_rest_157 hl (by decide) rfl (fun ls hl => ?_)
          refine lv_iinc (v := (v11 + (1 : Int32))) (lv' := [(11, .int (v11 + (1 : Int32))), (10, .int v10), (0, .ref (Q 100)), (1, .int v1), (2, .int v2), (3, .int v3), (4, .int v4), (5, .int v5), (6, .int v6), (7, .int v7), (8, .int v8), (9, .int v9)]) hx hb dX9_rest_159 hl (k := 11) rfl rfl (by decide) rfl (fun ls hl => ?_)
          refine lv_goto (tgt := 109) hx hb dX9_rest_162 (by decide) ?_
          exact ih109 v1 v2 v3 v4 v5 v6 v7 v8 v9 v10 (v11 + (1 : Int32)) ls hf (lv_sub hl [2, 3, 4, 5, 6, 7, 8, 9, 10, 11, 1, 0] rfl)
        · have hf := (if_pos c14).symm.trans hf
          refine lv_iload hx hb dX9_rest_126 (lv_at hl 10 rfl) ?_
          refine lv_bipush (v := (-2 : Int32)) hx hb dX9_rest_128 (by decide) ?_
          refine lv_icmp_eq (tgt := 145) hx hb dX9_rest_130 (by decide) (fun c15 => ?_) (fun c15 => ?_)
          · have hf := (if_pos c15).symm.trans hf
            exact sg145 _ ih57 _ ih83 _ ih109 v1 v2 v3 v4 v5 v6 v7 v8 v9 v11 ls hf (lv_sub hl [0, 1, 2, 3, 4, 5, 6, 7, 8, 9, 11] rfl)
          · have hf := (if_neg c15).symm.trans hf
            refine lv_aload_n hx hb dX9_rest_133 rfl (lv_at hl 0 rfl) ?_
            refine va_get (D := (dC, dI)) (ci := 6) (v := .ref (Q 33)) (C := RX9) (T := TX9) (N := 36) hx hb hts hinX9 hown hK hP 0 rfl rfl 33 (by decide) hk184 (fun _ h9 => h9) rfl dX9_rest_134 ?_
            refine lv_iload hx hb dX9_rest_137 (lv_at hl 11 rfl) ?_
            obtain ⟨g16, hf⟩ := of_ite_some hf
            refine va_iald hx hb hK hP 23 0 (n := 128) (f := (A 33)) rfl rfl g16 dX9_rest_139 ?_
            refine lv_iload hx hb dX9_rest_140 (lv_at hl 10 rfl) ?_
            refine lv_icmp_ge (tgt := 155) hx hb dX9_rest_142 (by decide) (fun c17 => ?_) (fun c17 => ?_)
            · have hf := (if_pos c17).symm.trans hf
              refine lv_iload hx hb dX9_rest_155 (lv_at hl 10 rfl) ?_
              refine lv_istore (lv' := [(10, .int v10), (0, .ref (Q 100)), (1, .int v1), (2, .int v2), (3, .int v3), (4, .int v4), (5, .int v5), (6, .int v6), (7, .int v7), (8, .int v8), (9, .int v9), (11, .int v11)]) hx hb dX9_rest_157 hl (by decide) rfl (fun ls hl => ?_)
              refine lv_iinc (v := (v11 + (1 : Int32))) (lv' := [(11, .int (v11 + (1 : Int32))), (10, .int v10), (0, .ref (Q 100)), (1, .int v1), (2, .int v2), (3, .int v3), (4, .int v4), (5, .int v5), (6, .int v6), (7, .int v7), (8, .int v8), (9, .int v9)]) hx hb dX9_rest_159 hl (k := 11) rfl rfl (by decide) rfl (fun ls hl => ?_)
              refine lv_goto (tgt := 109) hx hb dX9_rest_162 (by decide) ?_
              exact ih109 v1 v2 v3 v4 v5 v6 v7 v8 v9 v10 (v11 + (1 : Int32)) ls hf (lv_sub hl [2, 3, 4, 5, 6, 7, 8, 9, 10, 11, 1, 0] rfl)
            · have hf := (if_neg c17).symm.trans hf
              exact sg145 _ ih57 _ ih83 _ ih109 v1 v2 v3 v4 v5 v6 v7 v8 v9 v11 ls hf (lv_sub hl [0, 1, 2, 3, 4, 5, 6, 7, 8, 9, 11] rfl)
  have sg83 : ∀ (k57 : Int32 → Int32 → Int32 → Int32 → Int32 → Int32 → Option Int32), (∀  (v1 : Int32) (v2 : Int32) (v3 : Int32) (v4 : Int32) (v5 : Int32) (v6 : Int32) (ls : Array Slot), k57  v1 v2 v3 v4 v5 v6 = some r → lv_has ls 12 [(0, .ref (Q 100)), (1, .int v1), (2, .int v2), (3, .int v3), (4, .int v4), (5, .int v5), (6, .int v6)] → W p l e (headSpec wsX9_rest ({ frames := 0, cells := 0, slots := 0, locals := 0 })).room s m (([.ref (Q 100), .int x1, .int x2] : List Value).toArray) below meth c s.heap [] 0 0 (MQ below (QcRead r) (([.ref (Q 100), .int x1, .int x2] : List Value).toArray) s 0 0 (fun _ => False)) (F0 m 57 ls [])) → ∀ n : Nat, ∀  (v1 : Int32) (v2 : Int32) (v3 : Int32) (v4 : Int32) (v5 : Int32) (v6 : Int32) (v7 : Int32) (v8 : Int32) (v9 : Int32) (ls : Array Slot), fX9_rest_83 B I A k57 n  v1 v2 v3 v4 v5 v6 v7 v8 v9 = some r → lv_has ls 12 [(0, .ref (Q 100)), (1, .int v1), (2, .int v2), (3, .int v3), (4, .int v4), (5, .int v5), (6, .int v6), (7, .int v7), (8, .int v8), (9, .int v9)] → W p l e (headSpec wsX9_rest ({ frames := 0, cells := 0, slots := 0, locals := 0 })).room s m (([.ref (Q 100), .int x1, .int x2] : List Value).toArray) below meth c s.heap [] 0 0 (MQ below (QcRead r) (([.ref (Q 100), .int x1, .int x2] : List Value).toArray) s 0 0 (fun _ => False)) (F0 m 83 ls []) := by
    intro k57 ih57
    intro n
    induction n with
    | zero => intro v1 v2 v3 v4 v5 v6 v7 v8 v9 ls hf hl; exact of_none hf
    | succ n ih83 =>
      intro v1 v2 v3 v4 v5 v6 v7 v8 v9 ls hf hl
      change fX9_rest_83B B I A k57 (fX9_rest_83 B I A k57 n) v1 v2 v3 v4 v5 v6 v7 v8 v9 = _ at hf
      unfold fX9_rest_83B at hf
      refine lv_iload hx hb dX9_rest_83 (lv_at hl 9 rfl) ?_
      refine lv_bipush (v := (12 : Int32)) hx hb dX9_rest_85 (by decide) ?_
      refine lv_icmp_ge (tgt := 195) hx hb dX9_rest_87 (by decide) (fun c7 => ?_) (fun c7 => ?_)
      · have hf := (if_pos c7).symm.trans hf
        refine lv_iload hx hb dX9_rest_195 (lv_at hl 8 rfl) ?_
        refine lv_if_eq (tgt := 219) hx hb dX9_rest_197 (by decide) (fun c8 => ?_) (fun c8 => ?_)
        · have hf := (if_pos c8).symm.trans hf
          refine lv_iload hx hb dX9_rest_219 (lv_at hl 5 rfl) ?_
          refine lv_istore (lv' := [(5, .int v5), (0, .ref (Q 100)), (1, .int v1), (2, .int v2), (3, .int v3), (4, .int v4), (6, .int v6), (7, .int v7), (8, .int v8), (9, .int v9)]) hx hb dX9_rest_221 hl (by decide) rfl (fun ls hl => ?_)
          refine lv_iinc (v := (v6 + (1 : Int32))) (lv' := [(6, .int (v6 + (1 : Int32))), (5, .int v5), (0, .ref (Q 100)), (1, .int v1), (2, .int v2), (3, .int v3), (4, .int v4), (7, .int v7), (8, .int v8), (9, .int v9)]) hx hb dX9_rest_223 hl (k := 6) rfl rfl (by decide) rfl (fun ls hl => ?_)
          refine lv_goto (tgt := 57) hx hb dX9_rest_226 (by decide) ?_
          exact ih57 v1 v2 v3 v4 v5 (v6 + (1 : Int32)) ls hf (lv_sub hl [2, 3, 4, 5, 6, 1, 0] rfl)
        · have hf := (if_neg c8).symm.trans hf
          refine lv_iload hx hb dX9_rest_200 (lv_at hl 5 rfl) ?_
          refine lv_bipush (v := (-2 : Int32)) hx hb dX9_rest_202 (by decide) ?_
          refine lv_icmp_eq (tgt := 214) hx hb dX9_rest_204 (by decide) (fun c9 => ?_) (fun c9 => ?_)
          · have hf := (if_pos c9).symm.trans hf
            refine lv_iload hx hb dX9_rest_214 (lv_at hl 7 rfl) ?_
            refine lv_goto (tgt := 221) hx hb dX9_rest_216 (by decide) ?_
            refine lv_istore (lv' := [(5, .int v7), (0, .ref (Q 100)), (1, .int v1), (2, .int v2), (3, .int v3), (4, .int v4), (6, .int v6), (7, .int v7), (8, .int v8), (9, .int v9)]) hx hb dX9_rest_221 hl (by decide) rfl (fun ls hl => ?_)
            refine lv_iinc (v := (v6 + (1 : Int32))) (lv' := [(6, .int (v6 + (1 : Int32))), (5, .int v7), (0, .ref (Q 100)), (1, .int v1), (2, .int v2), (3, .int v3), (4, .int v4), (7, .int v7), (8, .int v8), (9, .int v9)]) hx hb dX9_rest_223 hl (k := 6) rfl rfl (by decide) rfl (fun ls hl => ?_)
            refine lv_goto (tgt := 57) hx hb dX9_rest_226 (by decide) ?_
            exact ih57 v1 v2 v3 v4 v7 (v6 + (1 : Int32)) ls hf (lv_sub hl [2, 3, 4, 5, 6, 1, 0] rfl)
          · have hf := (if_neg c9).symm.trans hf
            refine lv_iload hx hb dX9_rest_207 (lv_at hl 7 rfl) ?_
            refine lv_iload hx hb dX9_rest_209 (lv_at hl 5 rfl) ?_
            refine lv_icmp_ge (tgt := 219) hx hb dX9_rest_211 (by decide) (fun c10 => ?_) (fun c10 => ?_)
            · have hf := (if_pos c10).symm.trans hf
              refine lv_iload hx hb dX9_rest_219 (lv_at hl 5 rfl) ?_
              refine lv_istore (lv' := [(5, .int v5), (0, .ref (Q 100)), (1, .int v1), (2, .int v2), (3, .int v3), (4, .int v4), (6, .int v6), (7, .int v7), (8, .int v8), (9, .int v9)]) hx hb dX9_rest_221 hl (by decide) rfl (fun ls hl => ?_)
              refine lv_iinc (v := (v6 + (1 : Int32))) (lv' := [(6, .int (v6 + (1 : Int32))), (5, .int v5), (0, .ref (Q 100)), (1, .int v1), (2, .int v2), (3, .int v3), (4, .int v4), (7, .int v7), (8, .int v8), (9, .int v9)]) hx hb dX9_rest_223 hl (k := 6) rfl rfl (by decide) rfl (fun ls hl => ?_)
              refine lv_goto (tgt := 57) hx hb dX9_rest_226 (by decide) ?_
              exact ih57 v1 v2 v3 v4 v5 (v6 + (1 : Int32)) ls hf (lv_sub hl [2, 3, 4, 5, 6, 1, 0] rfl)
            · have hf := (if_neg c10).symm.trans hf
              refine lv_iload hx hb dX9_rest_214 (lv_at hl 7 rfl) ?_
              refine lv_goto (tgt := 221) hx hb dX9_rest_216 (by decide) ?_
              refine lv_istore (lv' := [(5, .int v7), (0, .ref (Q 100)), (1, .int v1), (2, .int v2), (3, .int v3), (4, .int v4), (6, .int v6), (7, .int v7), (8, .int v8), (9, .int v9)]) hx hb dX9_rest_221 hl (by decide) rfl (fun ls hl => ?_)
              refine lv_iinc (v := (v6 + (1 : Int32))) (lv' := [(6, .int (v6 + (1 : Int32))), (5, .int v7), (0, .ref (Q 100)), (1, .int v1), (2, .int v2), (3, .int v3), (4, .int v4), (7, .int v7), (8, .int v8), (9, .int v9)]) hx hb dX9_rest_223 hl (k := 6) rfl rfl (by decide) rfl (fun ls hl => ?_)
              refine lv_goto (tgt := 57) hx hb dX9_rest_226 (by decide) ?_
              exact ih57 v1 v2 v3 v4 v7 (v6 + (1 : Int32)) ls hf (lv_sub hl [2, 3, 4, 5, 6, 1, 0] rfl)
      · have hf := (if_neg c7).symm.trans hf
        refine lv_iload_n hx hb dX9_rest_90 rfl (lv_at hl 1 rfl) ?_
        refine lv_iload hx hb dX9_rest_91 (lv_at hl 9 rfl) ?_
        refine lv_ishr hx hb dX9_rest_93 ?_
        refine lv_iconst (v := (1 : Int32)) hx hb dX9_rest_94 (by decide) ?_
        refine lv_iand hx hb dX9_rest_95 ?_
        refine lv_iconst (v := (1 : Int32)) hx hb dX9_rest_96 (by decide) ?_
        refine lv_icmp_ne (tgt := 189) hx hb dX9_rest_97 (by decide) (fun c11 => ?_) (fun c11 => ?_)
        · have hf := (if_neg c11).symm.trans hf
          refine lv_iinc (v := (v9 + (1 : Int32))) (lv' := [(9, .int (v9 + (1 : Int32))), (0, .ref (Q 100)), (1, .int v1), (2, .int v2), (3, .int v3), (4, .int v4), (5, .int v5), (6, .int v6), (7, .int v7), (8, .int v8)]) hx hb dX9_rest_189 hl (k := 9) rfl rfl (by decide) rfl (fun ls hl => ?_)
          refine lv_goto (tgt := 83) hx hb dX9_rest_192 (by decide) ?_
          exact ih83 v1 v2 v3 v4 v5 v6 v7 v8 (v9 + (1 : Int32)) ls hf (lv_sub hl [1, 2, 3, 4, 5, 6, 7, 8, 9, 0] rfl)
        · have hf := (if_pos c11).symm.trans hf
          refine lv_bipush (v := (-2 : Int32)) hx hb dX9_rest_100 (by decide) ?_
          refine lv_istore (lv' := [(10, .int (-2 : Int32)), (0, .ref (Q 100)), (1, .int v1), (2, .int v2), (3, .int v3), (4, .int v4), (5, .int v5), (6, .int v6), (7, .int v7), (8, .int v8), (9, .int v9)]) hx hb dX9_rest_102 hl (by decide) rfl (fun ls hl => ?_)
          refine lv_iload_n hx hb dX9_rest_104 rfl (lv_at hl 4 rfl) ?_
          refine lv_iconst (v := (1 : Int32)) hx hb dX9_rest_105 (by decide) ?_
          refine lv_iadd hx hb dX9_rest_106 ?_
          refine lv_istore (lv' := [(11, .int (v3 + (1 : Int32))), (10, .int (-2 : Int32)), (0, .ref (Q 100)), (1, .int v1), (2, .int v2), (3, .int v3), (4, .int v4), (5, .int v5), (6, .int v6), (7, .int v7), (8, .int v8), (9, .int v9)]) hx hb dX9_rest_107 hl (by decide) rfl (fun ls hl => ?_)
          exact sg109 _ ih57 _ ih83 FU v1 v2 v3 v4 v5 v6 v7 v8 v9 (-2 : Int32) (v3 + (1 : Int32)) ls hf (lv_sub hl [2, 3, 4, 5, 6, 7, 8, 9, 10, 11, 1, 0] rfl)
  have sg57 : ∀ n : Nat, ∀  (v1 : Int32) (v2 : Int32) (v3 : Int32) (v4 : Int32) (v5 : Int32) (v6 : Int32) (ls : Array Slot), fX9_rest_57 B I A  n  v1 v2 v3 v4 v5 v6 = some r → lv_has ls 12 [(0, .ref (Q 100)), (1, .int v1), (2, .int v2), (3, .int v3), (4, .int v4), (5, .int v5), (6, .int v6)] → W p l e (headSpec wsX9_rest ({ frames := 0, cells := 0, slots := 0, locals := 0 })).room s m (([.ref (Q 100), .int x1, .int x2] : List Value).toArray) below meth c s.heap [] 0 0 (MQ below (QcRead r) (([.ref (Q 100), .int x1, .int x2] : List Value).toArray) s 0 0 (fun _ => False)) (F0 m 57 ls []) := by
    intro n
    induction n with
    | zero => intro v1 v2 v3 v4 v5 v6 ls hf hl; exact of_none hf
    | succ n ih57 =>
      intro v1 v2 v3 v4 v5 v6 ls hf hl
      change fX9_rest_57B B I A  (fX9_rest_57 B I A  n) v1 v2 v3 v4 v5 v6 = _ at hf
      unfold fX9_rest_57B at hf
      refine lv_iload hx hb dX9_rest_57 (lv_at hl 6 rfl) ?_
      refine lv_iload_n hx hb dX9_rest_59 rfl (lv_at hl 2 rfl) ?_
      refine lv_icmp_gt (tgt := 229) hx hb dX9_rest_60 (by decide) (fun c5 => ?_) (fun c5 => ?_)
      · have hf := (if_pos c5).symm.trans hf
        refine lv_iload hx hb dX9_rest_229 (lv_at hl 5 rfl) ?_
        exact W.iret (v := v5) hx hb hr (fun t ht hW => ⟨congrArg (fun z => Outcome.returned (some (Value.int z))) (Option.some.inj hf), ht⟩) (fun _ h => nomatch h) dX9_rest_231
      · have hf := (if_neg c5).symm.trans hf
        refine lv_iload hx hb dX9_rest_63 (lv_at hl 4 rfl) ?_
        refine lv_iload hx hb dX9_rest_65 (lv_at hl 6 rfl) ?_
        refine lv_iadd hx hb dX9_rest_67 ?_
        refine lv_aload_n hx hb dX9_rest_68 rfl (lv_at hl 0 rfl) ?_
        refine va_get (D := (dC, dI)) (ci := 6) (v := .ref (Q 34)) (C := RX9) (T := TX9) (N := 36) hx hb hts hinX9 hown hK hP 0 rfl rfl 34 (by decide) hk187 (fun _ h9 => h9) rfl dX9_rest_69 ?_
        refine lv_iconst (v := (0 : Int32)) hx hb dX9_rest_72 (by decide) ?_
        obtain ⟨g6, hf⟩ := of_ite_some hf
        refine va_iald hx hb hK hP 24 0 (n := 12) (f := (A 34)) rfl rfl g6 dX9_rest_73 ?_
        refine lv_isub hx hb dX9_rest_74 ?_
        refine lv_istore (lv' := [(7, .int ((v4 + v6) - ((A 34) (0 : Int32).toNatClampNeg))), (0, .ref (Q 100)), (1, .int v1), (2, .int v2), (3, .int v3), (4, .int v4), (5, .int v5), (6, .int v6)]) hx hb dX9_rest_75 hl (by decide) rfl (fun ls hl => ?_)
        refine lv_iconst (v := (1 : Int32)) hx hb dX9_rest_77 (by decide) ?_
        refine lv_istore (lv' := [(8, .int (1 : Int32)), (7, .int ((v4 + v6) - ((A 34) (0 : Int32).toNatClampNeg))), (0, .ref (Q 100)), (1, .int v1), (2, .int v2), (3, .int v3), (4, .int v4), (5, .int v5), (6, .int v6)]) hx hb dX9_rest_78 hl (by decide) rfl (fun ls hl => ?_)
        refine lv_iconst (v := (0 : Int32)) hx hb dX9_rest_80 (by decide) ?_
        refine lv_istore (lv' := [(9, .int (0 : Int32)), (8, .int (1 : Int32)), (7, .int ((v4 + v6) - ((A 34) (0 : Int32).toNatClampNeg))), (0, .ref (Q 100)), (1, .int v1), (2, .int v2), (3, .int v3), (4, .int v4), (5, .int v5), (6, .int v6)]) hx hb dX9_rest_81 hl (by decide) rfl (fun ls hl => ?_)
        exact sg83 _ ih57 FU v1 v2 v3 v4 v5 v6 ((v4 + v6) - ((A 34) (0 : Int32).toNatClampNeg)) (1 : Int32) (0 : Int32) ls hf (lv_sub hl [3, 4, 5, 6, 7, 8, 9, 2, 1, 0] rfl)
  have sg18 : ∀ n : Nat, ∀  (v1 : Int32) (v2 : Int32) (v3 : Int32) (v4 : Int32) (v5 : Int32) (ls : Array Slot), fX9_rest_18 B I A  n  v1 v2 v3 v4 v5 = some r → lv_has ls 12 [(0, .ref (Q 100)), (1, .int v1), (2, .int v2), (3, .int v3), (4, .int v4), (5, .int v5)] → W p l e (headSpec wsX9_rest ({ frames := 0, cells := 0, slots := 0, locals := 0 })).room s m (([.ref (Q 100), .int x1, .int x2] : List Value).toArray) below meth c s.heap [] 0 0 (MQ below (QcRead r) (([.ref (Q 100), .int x1, .int x2] : List Value).toArray) s 0 0 (fun _ => False)) (F0 m 18 ls []) := by
    intro n
    induction n with
    | zero => intro v1 v2 v3 v4 v5 ls hf hl; exact of_none hf
    | succ n ih18 =>
      intro v1 v2 v3 v4 v5 ls hf hl
      change fX9_rest_18B B I A  (fX9_rest_18 B I A  n) v1 v2 v3 v4 v5 = _ at hf
      unfold fX9_rest_18B at hf
      refine lv_iload hx hb dX9_rest_18 (lv_at hl 5 rfl) ?_
      refine lv_aload_n hx hb dX9_rest_20 rfl (lv_at hl 0 rfl) ?_
      refine va_get (D := (dC, dI)) (ci := 6) (v := .int (I 35)) (C := RX9) (T := TX9) (N := 36) hx hb hts hinX9 hown hK hP 0 rfl rfl 35 (by decide) hk347 (fun _ h9 => h9) rfl dX9_rest_21 ?_
      refine lv_icmp_ge (tgt := 50) hx hb dX9_rest_24 (by decide) (fun c2 => ?_) (fun c2 => ?_)
      · have hf := (if_pos c2).symm.trans hf
        refine lv_bipush (v := (-2 : Int32)) hx hb dX9_rest_50 (by decide) ?_
        refine lv_istore (lv' := [(5, .int (-2 : Int32)), (0, .ref (Q 100)), (1, .int v1), (2, .int v2), (3, .int v3), (4, .int v4)]) hx hb dX9_rest_52 hl (by decide) rfl (fun ls hl => ?_)
        refine lv_iload_n hx hb dX9_rest_54 rfl (lv_at hl 4 rfl) ?_
        refine lv_istore (lv' := [(6, .int v3), (5, .int (-2 : Int32)), (0, .ref (Q 100)), (1, .int v1), (2, .int v2), (3, .int v3), (4, .int v4)]) hx hb dX9_rest_55 hl (by decide) rfl (fun ls hl => ?_)
        exact sg57  FU v1 v2 v3 v4 (-2 : Int32) v3 ls hf (lv_sub hl [2, 3, 4, 5, 6, 1, 0] rfl)
      · have hf := (if_neg c2).symm.trans hf
        refine lv_iload hx hb dX9_rest_27 (lv_at hl 4 rfl) ?_
        refine lv_aload_n hx hb dX9_rest_29 rfl (lv_at hl 0 rfl) ?_
        refine va_get (D := (dC, dI)) (ci := 6) (v := .ref (Q 33)) (C := RX9) (T := TX9) (N := 36) hx hb hts hinX9 hown hK hP 0 rfl rfl 33 (by decide) hk184 (fun _ h9 => h9) rfl dX9_rest_30 ?_
        refine lv_aload_n hx hb dX9_rest_33 rfl (lv_at hl 0 rfl) ?_
        refine va_get (D := (dC, dI)) (ci := 6) (v := .ref (Q 34)) (C := RX9) (T := TX9) (N := 36) hx hb hts hinX9 hown hK hP 0 rfl rfl 34 (by decide) hk187 (fun _ h9 => h9) rfl dX9_rest_34 ?_
        refine lv_iload hx hb dX9_rest_37 (lv_at hl 5 rfl) ?_
        obtain ⟨g3, hf⟩ := of_ite_some hf
        refine va_iald hx hb hK hP 24 0 (n := 12) (f := (A 34)) rfl rfl g3 dX9_rest_39 ?_
        obtain ⟨g4, hf⟩ := of_ite_some hf
        refine va_iald hx hb hK hP 23 0 (n := 128) (f := (A 33)) rfl rfl g4 dX9_rest_40 ?_
        refine lv_iadd hx hb dX9_rest_41 ?_
        refine lv_istore (lv' := [(4, .int (v4 + ((A 33) ((A 34) v5.toNatClampNeg).toNatClampNeg))), (0, .ref (Q 100)), (1, .int v1), (2, .int v2), (3, .int v3), (5, .int v5)]) hx hb dX9_rest_42 hl (by decide) rfl (fun ls hl => ?_)
        refine lv_iinc (v := (v5 + (1 : Int32))) (lv' := [(5, .int (v5 + (1 : Int32))), (4, .int (v4 + ((A 33) ((A 34) v5.toNatClampNeg).toNatClampNeg))), (0, .ref (Q 100)), (1, .int v1), (2, .int v2), (3, .int v3)]) hx hb dX9_rest_44 hl (k := 5) rfl rfl (by decide) rfl (fun ls hl => ?_)
        refine lv_goto (tgt := 18) hx hb dX9_rest_47 (by decide) ?_
        exact ih18 v1 v2 v3 (v4 + ((A 33) ((A 34) v5.toNatClampNeg).toNatClampNeg)) (v5 + (1 : Int32)) ls hf (lv_sub hl [2, 3, 4, 5, 1, 0] rfl)
  have hl := lv_entry ([.ref (Q 100), .int x1, .int x2]) (n := 12) (Nat.le_of_ble_eq_true rfl)
  rw [lg_entry_eq]
  generalize (lg_sl ([.ref (Q 100), .int x1, .int x2]) ++ List.replicate (12 - (lg_sl ([.ref (Q 100), .int x1, .int x2])).length) Slot.unset).toArray = ls at hl ⊢
  have hl : lv_has ls 12 [(0, .ref (Q 100)), (1, .int x1), (2, .int x2)] := hl
  unfold fX9_rest at hf
  refine lv_aload_n hx hb dX9_rest_0 rfl (lv_at hl 0 rfl) ?_
  refine va_get (D := (dC, dI)) (ci := 6) (v := .ref (Q 34)) (C := RX9) (T := TX9) (N := 36) hx hb hts hinX9 hown hK hP 0 rfl rfl 34 (by decide) hk187 (fun _ h9 => h9) rfl dX9_rest_1 ?_
  refine lv_aload_n hx hb dX9_rest_4 rfl (lv_at hl 0 rfl) ?_
  refine va_get (D := (dC, dI)) (ci := 6) (v := .int (I 35)) (C := RX9) (T := TX9) (N := 36) hx hb hts hinX9 hown hK hP 0 rfl rfl 35 (by decide) hk347 (fun _ h9 => h9) rfl dX9_rest_5 ?_
  refine lv_iconst (v := (1 : Int32)) hx hb dX9_rest_8 (by decide) ?_
  refine lv_isub hx hb dX9_rest_9 ?_
  obtain ⟨g1, hf⟩ := of_ite_some hf
  refine va_iald hx hb hK hP 24 0 (n := 12) (f := (A 34)) rfl rfl g1 dX9_rest_10 ?_
  refine lv_istore_n (lv' := [(3, .int ((A 34) ((I 35) - (1 : Int32)).toNatClampNeg)), (0, .ref (Q 100)), (1, .int x1), (2, .int x2)]) hx hb dX9_rest_11 rfl hl (by decide) rfl (fun ls hl => ?_)
  refine lv_iconst (v := (0 : Int32)) hx hb dX9_rest_12 (by decide) ?_
  refine lv_istore (lv' := [(4, .int (0 : Int32)), (3, .int ((A 34) ((I 35) - (1 : Int32)).toNatClampNeg)), (0, .ref (Q 100)), (1, .int x1), (2, .int x2)]) hx hb dX9_rest_13 hl (by decide) rfl (fun ls hl => ?_)
  refine lv_iconst (v := (0 : Int32)) hx hb dX9_rest_15 (by decide) ?_
  refine lv_istore (lv' := [(5, .int (0 : Int32)), (4, .int (0 : Int32)), (3, .int ((A 34) ((I 35) - (1 : Int32)).toNatClampNeg)), (0, .ref (Q 100)), (1, .int x1), (2, .int x2)]) hx hb dX9_rest_16 hl (by decide) rfl (fun ls hl => ?_)
  exact sg18  FU x1 x2 ((A 34) ((I 35) - (1 : Int32)).toNatClampNeg) (0 : Int32) (0 : Int32) ls hf (lv_sub hl [3, 4, 5, 2, 1, 0] rfl)
