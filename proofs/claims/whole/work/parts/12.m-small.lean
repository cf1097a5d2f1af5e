def fX9_feed_29B (B : Nat → Nat → Int64)  (k29 : (Nat → Int32) → (Nat → Nat → Int32) → Int32 → Int64 → Int32 → Option (Int32 × (Nat → Int32) × (Nat → Nat → Int32))) (I : Nat → Int32) (A : Nat → Nat → Int32) (v1 : Int32) (v2 : Int64) (v4 : Int32) : Option (Int32 × (Nat → Int32) × (Nat → Nat → Int32)) :=
  (if v1 ≤ v4 then (some ((I 1), (I, A))) else (if gd (I 1) 40 then (k29 (upd I 1 ((I 1) + (1 : Int32))) (va_up A 0 (upd (A 0) (I 1).toNatClampNeg (vp_nar .byte (((v2 >>> (((8 : Int32) * v4).toInt64 &&& 63)).toInt32).toInt8.toInt32)))) v1 v2 (v4 + (1 : Int32))) else none))
def fX9_feed_29 (B : Nat → Nat → Int64)  : Nat → ((Nat → Int32) → (Nat → Nat → Int32) → Int32 → Int64 → Int32 → Option (Int32 × (Nat → Int32) × (Nat → Nat → Int32)))
  | 0 => fun _ _ _ _ _ => none
  | n + 1 => fX9_feed_29B B  (fX9_feed_29 B  n)
def fX9_feed (B : Nat → Nat → Int64) (I : Nat → Int32) (A : Nat → Nat → Int32) (x1 : Int32) (x2 : Int64) : Option (Int32 × (Nat → Int32) × (Nat → Nat → Int32)) :=
  (if (fX9_isIn x1 (1 : Int32) (8 : Int32)) = 0 then (some ((-1 : Int32), (I, A))) else (if ((I 1) + x1) ≤ (40 : Int32) then (fX9_feed_29 B  FU I A x1 x2 (0 : Int32)) else (some ((-3 : Int32), (I, A)))))
set_option maxRecDepth 100000 in
set_option maxHeartbeats 4000000 in
theorem mX9_feed (l : Launch) (dC : Nat → ClassId) (dI : Nat → Nat → Nat) (cI cB cJ : ClassId) (Q : Nat → Nat) (B : Nat → Nat → Int64) (I : Nat → Int32) (A : Nat → Nat → Int32) (x1 : Int32) (x2 : Int64) (sz : Nat) (z : Int32 × (Nat → Int32) × (Nat → Nat → Int32)) (hf : fX9_feed B I A x1 x2 = some z) : Met l yX9_feed wsX9_feed ({ frames := 1, cells := 0, slots := 0, locals := 22 }) (va_Pc [.ref (Q 100), .int x1, .long x2] (fun U => U.heap.size = sz ∧ va_P (dC, dI) vwCl (wM cI cB cJ Q B I A) U.heap ∧ va_K (dC, dI) vwCl (tM cI cB cJ) U ∧ va_D (fun _ => True) (wM cI cB cJ Q B I A))) (va_Qi (fun (r : Int32) (u : (Nat → Int32) × (Nat → Nat → Int32)) => (r, u) = z) (atM dC dI cI cB cJ Q B (va_A (wM cI cB cJ Q B I A) sz)) (va_A (wM cI cB cJ Q B I A) sz)) 0 0 (va_A (wM cI cB cJ Q B I A) sz) := by
  refine Met.ofW (cc := cX9_feed) (maxL := 5) (ret := (some .int)) (by decide) rfl ?_
  intro p e s m args below meth c s₁ BL hml hv
  obtain ⟨rfl, hsz, hP, hK, hD0⟩ := hv
  have hx := BL.exec
  have hb := BL.bytes
  have hr := BL.returns
  have hts := atoms_spec (ws := wsX9_feed) BL.pre
  have hown : s.vm.findClass RX9 = some m.cls := findClass_of_methodNamed BL.named
  have hlocks := BL.notSynchronized
  have hinX9 : ∀ w ∈ u_ws RX9 TX9 36, w ∈ wsX9_feed := by decide +kernel
  have hk7 := hts (.fieldLink RX9 7 "LeadSheetsModel" "tape" "[B") (by decide +kernel)
  have hk219 := hts (.fieldLink RX9 219 "LeadSheetsModel" "taped" "I") (by decide +kernel)
  subst hsz
  have hD := hD0.self (sz := s.heap.size)
  generalize hAe : va_A (wM cI cB cJ Q B I A) s.heap.size = AA at hD ⊢
  have hA : ∀ q : Nat, s.heap.size ≤ q → AA q := fun q h => by rw [← hAe]; exact Or.inr h
  have hS : va_S AA s.heap s.heap [] := va_S.rf
  have sg29 : ∀ n : Nat, ∀ (I : Nat → Int32) (A : Nat → Nat → Int32) (v1 : Int32) (v2 : Int64) (v4 : Int32) (H : Heap) (locs : List Loc) (ls : Array Slot), fX9_feed_29 B  n I A v1 v2 v4 = some z → va_P (dC, dI) vwCl (wM cI cB cJ Q B I A) H → va_D AA (wM cI cB cJ Q B I A) → va_S AA s.heap H locs → lv_has ls 5 [(0, .ref (Q 100)), (1, .int v1), (2, .long v2), (4, .int v4)] → W p l e (headSpec wsX9_feed ({ frames := 1, cells := 0, slots := 0, locals := 22 })).room s m (([.ref (Q 100), .int x1, .long x2] : List Value).toArray) below meth c H locs 0 0 (MQ below (va_Qi (fun (r : Int32) (u : (Nat → Int32) × (Nat → Nat → Int32)) => (r, u) = z) (atM dC dI cI cB cJ Q B AA) AA) (([.ref (Q 100), .int x1, .long x2] : List Value).toArray) s 0 0 AA) (F0 m 29 ls []) := by
    intro n
    induction n with
    | zero => intro I A v1 v2 v4 H locs ls hf hP hD hS hl; exact of_none hf
    | succ n ih29 =>
      intro I A v1 v2 v4 H locs ls hf hP hD hS hl
      change fX9_feed_29B B  (fX9_feed_29 B  n) I A v1 v2 v4 = _ at hf
      unfold fX9_feed_29B at hf
      refine lv_iload hx hb dX9_feed_29 (lv_at hl 3 rfl) ?_
      refine lv_iload_n hx hb dX9_feed_31 rfl (lv_at hl 1 rfl) ?_
      refine lv_icmp_ge (tgt := 69) hx hb dX9_feed_32 (by decide) (fun c3 => ?_) (fun c3 => ?_)
      · have hf := (if_pos c3).symm.trans hf
        refine lv_aload_n hx hb dX9_feed_69 rfl (lv_at hl 0 rfl) ?_
        refine va_get (D := (dC, dI)) (ci := 6) (v := .int (I 1)) (C := RX9) (T := TX9) (N := 36) hx hb hts hinX9 hown hK hP 0 rfl rfl 1 (by decide) hk219 (fun _ h9 => h9) rfl dX9_feed_70 ?_
        exact W.iret (v := (I 1)) hx hb hr (fun t ht hW => ⟨⟨(I 1), (I, A), rfl, Option.some.inj hf, by rw [ht]; exact hP, va_K.moved hW.alike hK, hD⟩, hS.F ht⟩) hS.2.2 dX9_feed_73
      · have hf := (if_neg c3).symm.trans hf
        refine lv_aload_n hx hb dX9_feed_35 rfl (lv_at hl 0 rfl) ?_
        refine va_get (D := (dC, dI)) (ci := 6) (v := .ref (Q 0)) (C := RX9) (T := TX9) (N := 36) hx hb hts hinX9 hown hK hP 0 rfl rfl 0 (by decide) hk7 (fun _ h9 => h9) rfl dX9_feed_36 ?_
        refine lv_aload_n hx hb dX9_feed_39 rfl (lv_at hl 0 rfl) ?_
        refine va_get (D := (dC, dI)) (ci := 6) (v := .int (I 1)) (C := RX9) (T := TX9) (N := 36) hx hb hts hinX9 hown hK hP 0 rfl rfl 1 (by decide) hk219 (fun _ h9 => h9) rfl dX9_feed_40 ?_
        refine lv_lload_n hx hb dX9_feed_43 rfl (lv_at hl 2 rfl) ?_
        refine lv_bipush (v := (8 : Int32)) hx hb dX9_feed_44 (by decide) ?_
        refine lv_iload hx hb dX9_feed_46 (lv_at hl 3 rfl) ?_
        refine lv_imul hx hb dX9_feed_48 ?_
        refine lv_lshr (v := (v2 >>> (((8 : Int32) * v4).toInt64 &&& 63))) hx hb dX9_feed_49 rfl ?_
        refine lv_l2i (v := ((v2 >>> (((8 : Int32) * v4).toInt64 &&& 63)).toInt32)) hx hb dX9_feed_50 rfl ?_
        refine lv_i2b (v := (((v2 >>> (((8 : Int32) * v4).toInt64 &&& 63)).toInt32).toInt8.toInt32)) hx hb dX9_feed_51 rfl ?_
        obtain ⟨g4, hf⟩ := of_ite_some hf
        refine va_bast hx hb hK hP hD hS 1 1 (n := 40) (f := (A 0)) rfl rfl g4 dX9_feed_52 (fun H locs hP hD hS => ?_)
        have hP : va_P (dC, dI) vwCl (wM cI cB cJ Q B I (va_up A 0 (upd (A 0) (I 1).toNatClampNeg (vp_nar .byte (((v2 >>> (((8 : Int32) * v4).toInt64 &&& 63)).toInt32).toInt8.toInt32))))) H := Eq.mp (congrArg (fun w => va_P (dC, dI) vwCl w H) (wMA_0 cI cB cJ Q B I A (upd (A 0) (I 1).toNatClampNeg (vp_nar .byte (((v2 >>> (((8 : Int32) * v4).toInt64 &&& 63)).toInt32).toInt8.toInt32))))) hP
        have hD : va_D AA (wM cI cB cJ Q B I (va_up A 0 (upd (A 0) (I 1).toNatClampNeg (vp_nar .byte (((v2 >>> (((8 : Int32) * v4).toInt64 &&& 63)).toInt32).toInt8.toInt32))))) := Eq.mp (congrArg (fun w => va_D AA w) (wMA_0 cI cB cJ Q B I A (upd (A 0) (I 1).toNatClampNeg (vp_nar .byte (((v2 >>> (((8 : Int32) * v4).toInt64 &&& 63)).toInt32).toInt8.toInt32))))) hD
        refine lv_aload_n hx hb dX9_feed_53 rfl (lv_at hl 0 rfl) ?_
        refine lv_dup hx hb dX9_feed_54 rfl ?_
        refine va_get (D := (dC, dI)) (ci := 6) (v := .int (I 1)) (C := RX9) (T := TX9) (N := 36) hx hb hts hinX9 hown hK hP 0 rfl rfl 1 (by decide) hk219 (fun _ h9 => h9) rfl dX9_feed_55 ?_
        refine lv_iconst (v := (1 : Int32)) hx hb dX9_feed_58 (by decide) ?_
        refine lv_iadd hx hb dX9_feed_59 ?_
        refine va_put (D := (dC, dI)) (ci := 6) (v := .int ((I 1) + (1 : Int32))) (ty := .int) (C := RX9) (T := TX9) (N := 36) hx hb hts hinX9 tyX9 tyX9_ok nmX9 hown hK hP hD hS 0 (fs := (oM Q I)) rfl rfl 1 (by decide) hk219 (fun _ h9 => h9) rfl (by decide +kernel) rfl rfl (Nat.le_of_ble_eq_true rfl) dX9_feed_60 (fun H locs hP hD hS => ?_)
        have hP : va_P (dC, dI) vwCl (wM cI cB cJ Q B (upd I 1 ((I 1) + (1 : Int32))) (va_up A 0 (upd (A 0) (I 1).toNatClampNeg (vp_nar .byte (((v2 >>> (((8 : Int32) * v4).toInt64 &&& 63)).toInt32).toInt8.toInt32))))) H := Eq.mp (congrArg (fun w => va_P (dC, dI) vwCl w H) (wMI_1 cI cB cJ Q B I (va_up A 0 (upd (A 0) (I 1).toNatClampNeg (vp_nar .byte (((v2 >>> (((8 : Int32) * v4).toInt64 &&& 63)).toInt32).toInt8.toInt32)))) ((I 1) + (1 : Int32)))) hP
        have hD : va_D AA (wM cI cB cJ Q B (upd I 1 ((I 1) + (1 : Int32))) (va_up A 0 (upd (A 0) (I 1).toNatClampNeg (vp_nar .byte (((v2 >>> (((8 : Int32) * v4).toInt64 &&& 63)).toInt32).toInt8.toInt32))))) := Eq.mp (congrArg (fun w => va_D AA w) (wMI_1 cI cB cJ Q B I (va_up A 0 (upd (A 0) (I 1).toNatClampNeg (vp_nar .byte (((v2 >>> (((8 : Int32) * v4).toInt64 &&& 63)).toInt32).toInt8.toInt32)))) ((I 1) + (1 : Int32)))) hD
        refine lv_iinc (v := (v4 + (1 : Int32))) (lv' := [(4, .int (v4 + (1 : Int32))), (0, .ref (Q 100)), (1, .int v1), (2, .long v2)]) hx hb dX9_feed_63 hl (k := 3) rfl rfl (by decide) rfl (fun ls hl => ?_)
        refine lv_goto (tgt := 29) hx hb dX9_feed_66 (by decide) ?_
        exact ih29 (upd I 1 ((I 1) + (1 : Int32))) (va_up A 0 (upd (A 0) (I 1).toNatClampNeg (vp_nar .byte (((v2 >>> (((8 : Int32) * v4).toInt64 &&& 63)).toInt32).toInt8.toInt32)))) v1 v2 (v4 + (1 : Int32)) H locs ls hf hP hD hS (lv_sub hl [1, 2, 3, 0] rfl)
  have hl := lv_entry ([.ref (Q 100), .int x1, .long x2]) (n := 5) (Nat.le_of_ble_eq_true rfl)
  rw [lg_entry_eq]
  generalize (lg_sl ([.ref (Q 100), .int x1, .long x2]) ++ List.replicate (5 - (lg_sl ([.ref (Q 100), .int x1, .long x2])).length) Slot.unset).toArray = ls at hl ⊢
  have hl : lv_has ls 5 [(0, .ref (Q 100)), (1, .int x1), (2, .long x2)] := hl
  unfold fX9_feed at hf
  refine lv_iload_n hx hb dX9_feed_0 rfl (lv_at hl 1 rfl) ?_
  refine lv_iconst (v := (1 : Int32)) hx hb dX9_feed_1 (by decide) ?_
  refine lv_bipush (v := (8 : Int32)) hx hb dX9_feed_2 (by decide) ?_
  refine W.callR (r := (fX9_isIn x1 (1 : Int32) (8 : Int32))) (W.runS (As := [.int x1, .int (1 : Int32), .int (8 : Int32)]) (rest := []) ⟨hx, hb, hml, hown, hts⟩ (mX9_isIn l x1 (1 : Int32) (8 : Int32) (fX9_isIn x1 (1 : Int32) (8 : Int32)) rfl) (va_cwS 3 hts gX9_feed_X9_isIn rfl rfl rfl (by decide +kernel) ⟨Nat.le_of_ble_eq_true rfl, Nat.le_of_ble_eq_true rfl⟩) ⟨fun _ _ _ _ q => q, fun U hU hW => ⟨rfl, trivial⟩⟩ rfl rfl hl.1 rfl (lv_room (Nat.le_of_ble_eq_true rfl)) dX9_feed_4 ⟨Nat.zero_le _, Nat.zero_le _⟩) ?_
  refine W.eq (g2 := F0 m 7 ls [.int (fX9_isIn x1 (1 : Int32) (8 : Int32))]) rfl ?_
  refine lv_if_ne (tgt := 12) hx hb dX9_feed_7 (by decide) (fun c1 => ?_) (fun c1 => ?_)
  · have hf := (if_neg c1).symm.trans hf
    refine lv_aload_n hx hb dX9_feed_12 rfl (lv_at hl 0 rfl) ?_
    refine va_get (D := (dC, dI)) (ci := 6) (v := .int (I 1)) (C := RX9) (T := TX9) (N := 36) hx hb hts hinX9 hown hK hP 0 rfl rfl 1 (by decide) hk219 (fun _ h9 => h9) rfl dX9_feed_13 ?_
    refine lv_iload_n hx hb dX9_feed_16 rfl (lv_at hl 1 rfl) ?_
    refine lv_iadd hx hb dX9_feed_17 ?_
    refine lv_bipush (v := (40 : Int32)) hx hb dX9_feed_18 (by decide) ?_
    refine lv_icmp_le (tgt := 26) hx hb dX9_feed_20 (by decide) (fun c2 => ?_) (fun c2 => ?_)
    · have hf := (if_pos c2).symm.trans hf
      refine lv_iconst (v := (0 : Int32)) hx hb dX9_feed_26 (by decide) ?_
      refine lv_istore (lv' := [(4, .int (0 : Int32)), (0, .ref (Q 100)), (1, .int x1), (2, .long x2)]) hx hb dX9_feed_27 hl (by decide) rfl (fun ls hl => ?_)
      exact sg29  FU I A x1 x2 (0 : Int32) s.heap [] ls hf hP hD hS (lv_sub hl [1, 2, 3, 0] rfl)
    · have hf := (if_neg c2).symm.trans hf
      refine lv_bipush (v := (-3 : Int32)) hx hb dX9_feed_23 (by decide) ?_
      exact W.iret (v := (-3 : Int32)) hx hb hr (fun t ht hW => ⟨⟨(-3 : Int32), (I, A), rfl, Option.some.inj hf, by rw [ht]; exact hP, va_K.moved hW.alike hK, hD⟩, hS.F ht⟩) hS.2.2 dX9_feed_25
  · have hf := (if_pos c1).symm.trans hf
    refine lv_iconst (v := (-1 : Int32)) hx hb dX9_feed_10 (by decide) ?_
    exact W.iret (v := (-1 : Int32)) hx hb hr (fun t ht hW => ⟨⟨(-1 : Int32), (I, A), rfl, Option.some.inj hf, by rw [ht]; exact hP, va_K.moved hW.alike hK, hD⟩, hS.F ht⟩) hS.2.2 dX9_feed_11
def fX9_comes (B : Nat → Nat → Int64) (I : Nat → Int32) (A : Nat → Nat → Int32) (x1 : Int32) (x2 : Int32) : Option ((Nat → Int32) × (Nat → Nat → Int32)) :=
  (if gd (I 26) 16 then (if gd (I 26) 16 then (some ((upd I 26 ((I 26) + (1 : Int32))), (va_up (va_up A 25 (upd (A 25) (I 26).toNatClampNeg x1)) 24 (upd (A 24) (I 26).toNatClampNeg x2)))) else none) else none)
set_option maxRecDepth 100000 in
set_option maxHeartbeats 4000000 in
theorem mX9_comes (l : Launch) (dC : Nat → ClassId) (dI : Nat → Nat → Nat) (cI cB cJ : ClassId) (Q : Nat → Nat) (B : Nat → Nat → Int64) (I : Nat → Int32) (A : Nat → Nat → Int32) (x1 : Int32) (x2 : Int32) (sz : Nat) (z : (Nat → Int32) × (Nat → Nat → Int32)) (hf : fX9_comes B I A x1 x2 = some z) : Met l yX9_comes wsX9_comes ({ frames := 0, cells := 0, slots := 0, locals := 0 }) (va_Pc [.ref (Q 100), .int x1, .int x2] (fun U => U.heap.size = sz ∧ va_P (dC, dI) vwCl (wM cI cB cJ Q B I A) U.heap ∧ va_K (dC, dI) vwCl (tM cI cB cJ) U ∧ va_D (fun _ => True) (wM cI cB cJ Q B I A))) (va_Qv (fun (u : (Nat → Int32) × (Nat → Nat → Int32)) => u = z) (atM dC dI cI cB cJ Q B (va_A (wM cI cB cJ Q B I A) sz)) (va_A (wM cI cB cJ Q B I A) sz)) 0 0 (va_A (wM cI cB cJ Q B I A) sz) := by
  refine Met.ofW (cc := cX9_comes) (maxL := 3) (ret := none) (by decide) rfl ?_
  intro p e s m args below meth c s₁ BL hml hv
  obtain ⟨rfl, hsz, hP, hK, hD0⟩ := hv
  have hx := BL.exec
  have hb := BL.bytes
  have hr := BL.returns
  have hts := atoms_spec (ws := wsX9_comes) BL.pre
  have hown : s.vm.findClass RX9 = some m.cls := findClass_of_methodNamed BL.named
  have hlocks := BL.notSynchronized
  have hinX9 : ∀ w ∈ u_ws RX9 TX9 36, w ∈ wsX9_comes := by decide +kernel
  have hk169 := hts (.fieldLink RX9 169 "LeadSheetsModel" "half" "[I") (by decide +kernel)
  have hk172 := hts (.fieldLink RX9 172 "LeadSheetsModel" "degree" "[I") (by decide +kernel)
  have hk212 := hts (.fieldLink RX9 212 "LeadSheetsModel" "many" "I") (by decide +kernel)
  subst hsz
  have hD := hD0.self (sz := s.heap.size)
  generalize hAe : va_A (wM cI cB cJ Q B I A) s.heap.size = AA at hD ⊢
  have hA : ∀ q : Nat, s.heap.size ≤ q → AA q := fun q h => by rw [← hAe]; exact Or.inr h
  have hS : va_S AA s.heap s.heap [] := va_S.rf
  have hl := lv_entry ([.ref (Q 100), .int x1, .int x2]) (n := 3) (Nat.le_of_ble_eq_true rfl)
  rw [lg_entry_eq]
  generalize (lg_sl ([.ref (Q 100), .int x1, .int x2]) ++ List.replicate (3 - (lg_sl ([.ref (Q 100), .int x1, .int x2])).length) Slot.unset).toArray = ls at hl ⊢
  have hl : lv_has ls 3 [(0, .ref (Q 100)), (1, .int x1), (2, .int x2)] := hl
  unfold fX9_comes at hf
  refine lv_aload_n hx hb dX9_comes_0 rfl (lv_at hl 0 rfl) ?_
  refine va_get (D := (dC, dI)) (ci := 6) (v := .ref (Q 25)) (C := RX9) (T := TX9) (N := 36) hx hb hts hinX9 hown hK hP 0 rfl rfl 25 (by decide) hk172 (fun _ h9 => h9) rfl dX9_comes_1 ?_
  refine lv_aload_n hx hb dX9_comes_4 rfl (lv_at hl 0 rfl) ?_
  refine va_get (D := (dC, dI)) (ci := 6) (v := .int (I 26)) (C := RX9) (T := TX9) (N := 36) hx hb hts hinX9 hown hK hP 0 rfl rfl 26 (by decide) hk212 (fun _ h9 => h9) rfl dX9_comes_5 ?_
  refine lv_iload_n hx hb dX9_comes_8 rfl (lv_at hl 1 rfl) ?_
  obtain ⟨g1, hf⟩ := of_ite_some hf
  refine va_iast hx hb hK hP hD hS 19 0 (n := 16) (f := (A 25)) rfl rfl g1 dX9_comes_9 (fun H locs hP hD hS => ?_)
  have hP : va_P (dC, dI) vwCl (wM cI cB cJ Q B I (va_up A 25 (upd (A 25) (I 26).toNatClampNeg x1))) H := Eq.mp (congrArg (fun w => va_P (dC, dI) vwCl w H) (wMA_25 cI cB cJ Q B I A (upd (A 25) (I 26).toNatClampNeg x1))) hP
  have hD : va_D AA (wM cI cB cJ Q B I (va_up A 25 (upd (A 25) (I 26).toNatClampNeg x1))) := Eq.mp (congrArg (fun w => va_D AA w) (wMA_25 cI cB cJ Q B I A (upd (A 25) (I 26).toNatClampNeg x1))) hD
  refine lv_aload_n hx hb dX9_comes_10 rfl (lv_at hl 0 rfl) ?_
  refine va_get (D := (dC, dI)) (ci := 6) (v := .ref (Q 24)) (C := RX9) (T := TX9) (N := 36) hx hb hts hinX9 hown hK hP 0 rfl rfl 24 (by decide) hk169 (fun _ h9 => h9) rfl dX9_comes_11 ?_
  refine lv_aload_n hx hb dX9_comes_14 rfl (lv_at hl 0 rfl) ?_
  refine va_get (D := (dC, dI)) (ci := 6) (v := .int (I 26)) (C := RX9) (T := TX9) (N := 36) hx hb hts hinX9 hown hK hP 0 rfl rfl 26 (by decide) hk212 (fun _ h9 => h9) rfl dX9_comes_15 ?_
  refine lv_iload_n hx hb dX9_comes_18 rfl (lv_at hl 2 rfl) ?_
  obtain ⟨g2, hf⟩ := of_ite_some hf
  refine va_iast hx hb hK hP hD hS 18 0 (n := 16) (f := (A 24)) rfl rfl g2 dX9_comes_19 (fun H locs hP hD hS => ?_)
  have hP : va_P (dC, dI) vwCl (wM cI cB cJ Q B I (va_up (va_up A 25 (upd (A 25) (I 26).toNatClampNeg x1)) 24 (upd (A 24) (I 26).toNatClampNeg x2))) H := Eq.mp (congrArg (fun w => va_P (dC, dI) vwCl w H) (wMA_24 cI cB cJ Q B I (va_up A 25 (upd (A 25) (I 26).toNatClampNeg x1)) (upd (A 24) (I 26).toNatClampNeg x2))) hP
  have hD : va_D AA (wM cI cB cJ Q B I (va_up (va_up A 25 (upd (A 25) (I 26).toNatClampNeg x1)) 24 (upd (A 24) (I 26).toNatClampNeg x2))) := Eq.mp (congrArg (fun w => va_D AA w) (wMA_24 cI cB cJ Q B I (va_up A 25 (upd (A 25) (I 26).toNatClampNeg x1)) (upd (A 24) (I 26).toNatClampNeg x2))) hD
  refine lv_aload_n hx hb dX9_comes_20 rfl (lv_at hl 0 rfl) ?_
  refine lv_dup hx hb dX9_comes_21 rfl ?_
  refine va_get (D := (dC, dI)) (ci := 6) (v := .int (I 26)) (C := RX9) (T := TX9) (N := 36) hx hb hts hinX9 hown hK hP 0 rfl rfl 26 (by decide) hk212 (fun _ h9 => h9) rfl dX9_comes_22 ?_
  refine lv_iconst (v := (1 : Int32)) hx hb dX9_comes_25 (by decide) ?_
  refine lv_iadd hx hb dX9_comes_26 ?_
  refine va_put (D := (dC, dI)) (ci := 6) (v := .int ((I 26) + (1 : Int32))) (ty := .int) (C := RX9) (T := TX9) (N := 36) hx hb hts hinX9 tyX9 tyX9_ok nmX9 hown hK hP hD hS 0 (fs := (oM Q I)) rfl rfl 26 (by decide) hk212 (fun _ h9 => h9) rfl (by decide +kernel) rfl rfl (Nat.le_of_ble_eq_true rfl) dX9_comes_27 (fun H locs hP hD hS => ?_)
  have hP : va_P (dC, dI) vwCl (wM cI cB cJ Q B (upd I 26 ((I 26) + (1 : Int32))) (va_up (va_up A 25 (upd (A 25) (I 26).toNatClampNeg x1)) 24 (upd (A 24) (I 26).toNatClampNeg x2))) H := Eq.mp (congrArg (fun w => va_P (dC, dI) vwCl w H) (wMI_26 cI cB cJ Q B I (va_up (va_up A 25 (upd (A 25) (I 26).toNatClampNeg x1)) 24 (upd (A 24) (I 26).toNatClampNeg x2)) ((I 26) + (1 : Int32)))) hP
  have hD : va_D AA (wM cI cB cJ Q B (upd I 26 ((I 26) + (1 : Int32))) (va_up (va_up A 25 (upd (A 25) (I 26).toNatClampNeg x1)) 24 (upd (A 24) (I 26).toNatClampNeg x2))) := Eq.mp (congrArg (fun w => va_D AA w) (wMI_26 cI cB cJ Q B I (va_up (va_up A 25 (upd (A 25) (I 26).toNatClampNeg x1)) 24 (upd (A 24) (I 26).toNatClampNeg x2)) ((I 26) + (1 : Int32)))) hD
  exact W.vret hx hb hr (fun t ht hW => ⟨⟨((upd I 26 ((I 26) + (1 : Int32))), (va_up (va_up A 25 (upd (A 25) (I 26).toNatClampNeg x1)) 24 (upd (A 24) (I 26).toNatClampNeg x2))), rfl, Option.some.inj hf, by rw [ht]; exact hP, va_K.moved hW.alike hK, hD⟩, hS.F ht⟩) hS.2.2 dX9_comes_30
def fX9_goes (B : Nat → Nat → Int64) (I : Nat → Int32) (A : Nat → Nat → Int32) (x1 : Int32) : Option ((Nat → Int32) × (Nat → Nat → Int32)) :=
  (if gd ((I 26) - (1 : Int32)) 16 then (if gd x1 16 then (if gd ((I 26) - (1 : Int32)) 16 then (if gd x1 16 then (some ((upd I 26 ((I 26) - (1 : Int32))), (va_up (va_up A 25 (upd (A 25) x1.toNatClampNeg ((A 25) ((I 26) - (1 : Int32)).toNatClampNeg))) 24 (upd (A 24) x1.toNatClampNeg ((A 24) ((I 26) - (1 : Int32)).toNatClampNeg))))) else none) else none) else none) else none)
set_option maxRecDepth 100000 in
set_option maxHeartbeats 4000000 in
theorem mX9_goes (l : Launch) (dC : Nat → ClassId) (dI : Nat → Nat → Nat) (cI cB cJ : ClassId) (Q : Nat → Nat) (B : Nat → Nat → Int64) (I : Nat → Int32) (A : Nat → Nat → Int32) (x1 : Int32) (sz : Nat) (z : (Nat → Int32) × (Nat → Nat → Int32)) (hf : fX9_goes B I A x1 = some z) : Met l yX9_goes wsX9_goes ({ frames := 0, cells := 0, slots := 0, locals := 0 }) (va_Pc [.ref (Q 100), .int x1] (fun U => U.heap.size = sz ∧ va_P (dC, dI) vwCl (wM cI cB cJ Q B I A) U.heap ∧ va_K (dC, dI) vwCl (tM cI cB cJ) U ∧ va_D (fun _ => True) (wM cI cB cJ Q B I A))) (va_Qv (fun (u : (Nat → Int32) × (Nat → Nat → Int32)) => u = z) (atM dC dI cI cB cJ Q B (va_A (wM cI cB cJ Q B I A) sz)) (va_A (wM cI cB cJ Q B I A) sz)) 0 0 (va_A (wM cI cB cJ Q B I A) sz) := by
  refine Met.ofW (cc := cX9_goes) (maxL := 2) (ret := none) (by decide) rfl ?_
  intro p e s m args below meth c s₁ BL hml hv
  obtain ⟨rfl, hsz, hP, hK, hD0⟩ := hv
  have hx := BL.exec
  have hb := BL.bytes
  have hr := BL.returns
  have hts := atoms_spec (ws := wsX9_goes) BL.pre
  have hown : s.vm.findClass RX9 = some m.cls := findClass_of_methodNamed BL.named
  have hlocks := BL.notSynchronized
  have hinX9 : ∀ w ∈ u_ws RX9 TX9 36, w ∈ wsX9_goes := by decide +kernel
  have hk169 := hts (.fieldLink RX9 169 "LeadSheetsModel" "half" "[I") (by decide +kernel)
  have hk172 := hts (.fieldLink RX9 172 "LeadSheetsModel" "degree" "[I") (by decide +kernel)
  have hk212 := hts (.fieldLink RX9 212 "LeadSheetsModel" "many" "I") (by decide +kernel)
  subst hsz
  have hD := hD0.self (sz := s.heap.size)
  generalize hAe : va_A (wM cI cB cJ Q B I A) s.heap.size = AA at hD ⊢
  have hA : ∀ q : Nat, s.heap.size ≤ q → AA q := fun q h => by rw [← hAe]; exact Or.inr h
  have hS : va_S AA s.heap s.heap [] := va_S.rf
  have hl := lv_entry ([.ref (Q 100), .int x1]) (n := 2) (Nat.le_of_ble_eq_true rfl)
  rw [lg_entry_eq]
  generalize (lg_sl ([.ref (Q 100), .int x1]) ++ List.replicate (2 - (lg_sl ([.ref (Q 100), .int x1])).length) Slot.unset).toArray = ls at hl ⊢
  have hl : lv_has ls 2 [(0, .ref (Q 100)), (1, .int x1)] := hl
  unfold fX9_goes at hf
  refine lv_aload_n hx hb dX9_goes_0 rfl (lv_at hl 0 rfl) ?_
  refine lv_dup hx hb dX9_goes_1 rfl ?_
  refine va_get (D := (dC, dI)) (ci := 6) (v := .int (I 26)) (C := RX9) (T := TX9) (N := 36) hx hb hts hinX9 hown hK hP 0 rfl rfl 26 (by decide) hk212 (fun _ h9 => h9) rfl dX9_goes_2 ?_
  refine lv_iconst (v := (1 : Int32)) hx hb dX9_goes_5 (by decide) ?_
  refine lv_isub hx hb dX9_goes_6 ?_
  refine va_put (D := (dC, dI)) (ci := 6) (v := .int ((I 26) - (1 : Int32))) (ty := .int) (C := RX9) (T := TX9) (N := 36) hx hb hts hinX9 tyX9 tyX9_ok nmX9 hown hK hP hD hS 0 (fs := (oM Q I)) rfl rfl 26 (by decide) hk212 (fun _ h9 => h9) rfl (by decide +kernel) rfl rfl (Nat.le_of_ble_eq_true rfl) dX9_goes_7 (fun H locs hP hD hS => ?_)
  have hP : va_P (dC, dI) vwCl (wM cI cB cJ Q B (upd I 26 ((I 26) - (1 : Int32))) A) H := Eq.mp (congrArg (fun w => va_P (dC, dI) vwCl w H) (wMI_26 cI cB cJ Q B I A ((I 26) - (1 : Int32)))) hP
  have hD : va_D AA (wM cI cB cJ Q B (upd I 26 ((I 26) - (1 : Int32))) A) := Eq.mp (congrArg (fun w => va_D AA w) (wMI_26 cI cB cJ Q B I A ((I 26) - (1 : Int32)))) hD
  refine lv_aload_n hx hb dX9_goes_10 rfl (lv_at hl 0 rfl) ?_
  refine va_get (D := (dC, dI)) (ci := 6) (v := .ref (Q 25)) (C := RX9) (T := TX9) (N := 36) hx hb hts hinX9 hown hK hP 0 rfl rfl 25 (by decide) hk172 (fun _ h9 => h9) rfl dX9_goes_11 ?_
  refine lv_iload_n hx hb dX9_goes_14 rfl (lv_at hl 1 rfl) ?_
  refine lv_aload_n hx hb dX9_goes_15 rfl (lv_at hl 0 rfl) ?_
  refine va_get (D := (dC, dI)) (ci := 6) (v := .ref (Q 25)) (C := RX9) (T := TX9) (N := 36) hx hb hts hinX9 hown hK hP 0 rfl rfl 25 (by decide) hk172 (fun _ h9 => h9) rfl dX9_goes_16 ?_
  refine lv_aload_n hx hb dX9_goes_19 rfl (lv_at hl 0 rfl) ?_
  refine va_get (D := (dC, dI)) (ci := 6) (v := .int ((I 26) - (1 : Int32))) (C := RX9) (T := TX9) (N := 36) hx hb hts hinX9 hown hK hP 0 rfl rfl 26 (by decide) hk212 (fun _ h9 => h9) rfl dX9_goes_20 ?_
  obtain ⟨g1, hf⟩ := of_ite_some hf
  refine va_iald hx hb hK hP 19 0 (n := 16) (f := (A 25)) rfl rfl g1 dX9_goes_23 ?_
  obtain ⟨g2, hf⟩ := of_ite_some hf
  refine va_iast hx hb hK hP hD hS 19 0 (n := 16) (f := (A 25)) rfl rfl g2 dX9_goes_24 (fun H locs hP hD hS => ?_)
  have hP : va_P (dC, dI) vwCl (wM cI cB cJ Q B (upd I 26 ((I 26) - (1 : Int32))) (va_up A 25 (upd (A 25) x1.toNatClampNeg ((A 25) ((I 26) - (1 : Int32)).toNatClampNeg)))) H := Eq.mp (congrArg (fun w => va_P (dC, dI) vwCl w H) (wMA_25 cI cB cJ Q B (upd I 26 ((I 26) - (1 : Int32))) A (upd (A 25) x1.toNatClampNeg ((A 25) ((I 26) - (1 : Int32)).toNatClampNeg)))) hP
  have hD : va_D AA (wM cI cB cJ Q B (upd I 26 ((I 26) - (1 : Int32))) (va_up A 25 (upd (A 25) x1.toNatClampNeg ((A 25) ((I 26) - (1 : Int32)).toNatClampNeg)))) := Eq.mp (congrArg (fun w => va_D AA w) (wMA_25 cI cB cJ Q B (upd I 26 ((I 26) - (1 : Int32))) A (upd (A 25) x1.toNatClampNeg ((A 25) ((I 26) - (1 : Int32)).toNatClampNeg)))) hD
  refine lv_aload_n hx hb dX9_goes_25 rfl (lv_at hl 0 rfl) ?_
  refine va_get (D := (dC, dI)) (ci := 6) (v := .ref (Q 24)) (C := RX9) (T := TX9) (N := 36) hx hb hts hinX9 hown hK hP 0 rfl rfl 24 (by decide) hk169 (fun _ h9 => h9) rfl dX9_goes_26 ?_
  refine lv_iload_n hx hb dX9_goes_29 rfl (lv_at hl 1 rfl) ?_
  refine lv_aload_n hx hb dX9_goes_30 rfl (lv_at hl 0 rfl) ?_
  refine va_get (D := (dC, dI)) (ci := 6) (v := .ref (Q 24)) (C := RX9) (T := TX9) (N := 36) hx hb hts hinX9 hown hK hP 0 rfl rfl 24 (by decide) hk169 (fun _ h9 => h9) rfl dX9_goes_31 ?_
  refine lv_aload_n hx hb dX9_goes_34 rfl (lv_at hl 0 rfl) ?_
  refine va_get (D := (dC, dI)) (ci := 6) (v := .int ((I 26) - (1 : Int32))) (C := RX9) (T := TX9) (N := 36) hx hb hts hinX9 hown hK hP 0 rfl rfl 26 (by decide) hk212 (fun _ h9 => h9) rfl dX9_goes_35 ?_
  obtain ⟨g3, hf⟩ := of_ite_some hf
  refine va_iald hx hb hK hP 18 0 (n := 16) (f := (A 24)) rfl rfl g3 dX9_goes_38 ?_
  obtain ⟨g4, hf⟩ := of_ite_some hf
  refine va_iast hx hb hK hP hD hS 18 0 (n := 16) (f := (A 24)) rfl rfl g4 dX9_goes_39 (fun H locs hP hD hS => ?_)
  have hP : va_P (dC, dI) vwCl (wM cI cB cJ Q B (upd I 26 ((I 26) - (1 : Int32))) (va_up (va_up A 25 (upd (A 25) x1.toNatClampNeg ((A 25) ((I 26) - (1 : Int32)).toNatClampNeg))) 24 (upd (A 24) x1.toNatClampNeg ((A 24) ((I 26) - (1 : Int32)).toNatClampNeg)))) H := Eq.mp (congrArg (fun w => va_P (dC, dI) vwCl w H) (wMA_24 cI cB cJ Q B (upd I 26 ((I 26) - (1 : Int32))) (va_up A 25 (upd (A 25) x1.toNatClampNeg ((A 25) ((I 26) - (1 : Int32)).toNatClampNeg))) (upd (A 24) x1.toNatClampNeg ((A 24) ((I 26) - (1 : Int32)).toNatClampNeg)))) hP
  have hD : va_D AA (wM cI cB cJ Q B (upd I 26 ((I 26) - (1 : Int32))) (va_up (va_up A 25 (upd (A 25) x1.toNatClampNeg ((A 25) ((I 26) - (1 : Int32)).toNatClampNeg))) 24 (upd (A 24) x1.toNatClampNeg ((A 24) ((I 26) - (1 : Int32)).toNatClampNeg)))) := Eq.mp (congrArg (fun w => va_D AA w) (wMA_24 cI cB cJ Q B (upd I 26 ((I 26) - (1 : Int32))) (va_up A 25 (upd (A 25) x1.toNatClampNeg ((A 25) ((I 26) - (1 : Int32)).toNatClampNeg))) (upd (A 24) x1.toNatClampNeg ((A 24) ((I 26) - (1 : Int32)).toNatClampNeg)))) hD
  exact W.vret hx hb hr (fun t ht hW => ⟨⟨((upd I 26 ((I 26) - (1 : Int32))), (va_up (va_up A 25 (upd (A 25) x1.toNatClampNeg ((A 25) ((I 26) - (1 : Int32)).toNatClampNeg))) 24 (upd (A 24) x1.toNatClampNeg ((A 24) ((I 26) - (1 : Int32)).toNatClampNeg)))), rfl, Option.some.inj hf, by rw [ht]; exact hP, va_K.moved hW.alike hK, hD⟩, hS.F ht⟩) hS.2.2 dX9_goes_40
def fX9_becomes (B : Nat → Nat → Int64) (I : Nat → Int32) (A : Nat → Nat → Int32) (x1 : Int32) (x2 : Int32) (x3 : Int32) : Option (Int32 × (Nat → Int32) × (Nat → Nat → Int32)) :=
  ((fX9_placeOfDegree B I A x1).bind fun r1 => (if r1 = (-2 : Int32) then (some ((0 : Int32), (I, A))) else ((fX9_placeOf B I A x2 x3).bind fun r4 => (if r4 = (-2 : Int32) then (if gd r1 16 then (if gd r1 16 then (some ((1 : Int32), (I, (va_up (va_up A 25 (upd (A 25) r1.toNatClampNeg x2)) 24 (upd (A 24) r1.toNatClampNeg x3))))) else none) else none) else (some ((0 : Int32), (I, A)))))))
set_option maxRecDepth 100000 in
set_option maxHeartbeats 4000000 in
theorem mX9_becomes (l : Launch) (dC : Nat → ClassId) (dI : Nat → Nat → Nat) (cI cB cJ : ClassId) (Q : Nat → Nat) (B : Nat → Nat → Int64) (I : Nat → Int32) (A : Nat → Nat → Int32) (x1 : Int32) (x2 : Int32) (x3 : Int32) (sz : Nat) (z : Int32 × (Nat → Int32) × (Nat → Nat → Int32)) (hf : fX9_becomes B I A x1 x2 x3 = some z) : Met l yX9_becomes wsX9_becomes ({ frames := 1, cells := 0, slots := 0, locals := 23 }) (va_Pc [.ref (Q 100), .int x1, .int x2, .int x3] (fun U => U.heap.size = sz ∧ va_P (dC, dI) vwCl (wM cI cB cJ Q B I A) U.heap ∧ va_K (dC, dI) vwCl (tM cI cB cJ) U ∧ va_D (fun _ => True) (wM cI cB cJ Q B I A))) (va_Qi (fun (r : Int32) (u : (Nat → Int32) × (Nat → Nat → Int32)) => (r, u) = z) (atM dC dI cI cB cJ Q B (va_A (wM cI cB cJ Q B I A) sz)) (va_A (wM cI cB cJ Q B I A) sz)) 0 0 (va_A (wM cI cB cJ Q B I A) sz) := by
  refine Met.ofW (cc := cX9_becomes) (maxL := 5) (ret := (some .boolean)) (by decide) rfl ?_
  intro p e s m args below meth c s₁ BL hml hv
  obtain ⟨rfl, hsz, hP, hK, hD0⟩ := hv
  have hx := BL.exec
  have hb := BL.bytes
  have hr := BL.returns
  have hts := atoms_spec (ws := wsX9_becomes) BL.pre
  have hown : s.vm.findClass RX9 = some m.cls := findClass_of_methodNamed BL.named
  have hlocks := BL.notSynchronized
  have hinX9 : ∀ w ∈ u_ws RX9 TX9 36, w ∈ wsX9_becomes := by decide +kernel
  have hk169 := hts (.fieldLink RX9 169 "LeadSheetsModel" "half" "[I") (by decide +kernel)
  have hk172 := hts (.fieldLink RX9 172 "LeadSheetsModel" "degree" "[I") (by decide +kernel)
  subst hsz
  have hD := hD0.self (sz := s.heap.size)
  generalize hAe : va_A (wM cI cB cJ Q B I A) s.heap.size = AA at hD ⊢
  have hA : ∀ q : Nat, s.heap.size ≤ q → AA q := fun q h => by rw [← hAe]; exact Or.inr h
  have hS : va_S AA s.heap s.heap [] := va_S.rf
  have hl := lv_entry ([.ref (Q 100), .int x1, .int x2, .int x3]) (n := 5) (Nat.le_of_ble_eq_true rfl)
  rw [lg_entry_eq]
  generalize (lg_sl ([.ref (Q 100), .int x1, .int x2, .int x3]) ++ List.replicate (5 - (lg_sl ([.ref (Q 100), .int x1, .int x2, .int x3])).length) Slot.unset).toArray = ls at hl ⊢
  have hl : lv_has ls 5 [(0, .ref (Q 100)), (1, .int x1), (2, .int x2), (3, .int x3)] := hl
  unfold fX9_becomes at hf
  refine lv_aload_n hx hb dX9_becomes_0 rfl (lv_at hl 0 rfl) ?_
  refine lv_iload_n hx hb dX9_becomes_1 rfl (lv_at hl 1 rfl) ?_
  obtain ⟨r1, hc2, hf⟩ := of_bind_some hf
  refine W.callR (r := r1) (W.runV (As := [.int x1]) (rest := []) ⟨hx, hb, hml, hown, hts⟩ (mX9_placeOfDegree l dC dI cI cB cJ Q B I A x1 r1 hc2) (cwV 1 hts gX9_becomes_X9_placeOfDegree rfl rfl rfl (by decide +kernel) ⟨Nat.le_of_ble_eq_true rfl, Nat.le_of_ble_eq_true rfl⟩) ⟨blindR, va_recv hK hP (ci := 6) (q0 := 0) rfl rfl, fun U hU hW => ⟨rfl, by rw [hU]; exact hP, va_K.moved hW.alike hK⟩⟩ rfl rfl hl.1 rfl (lv_room (Nat.le_of_ble_eq_true rfl)) dX9_becomes_2 ⟨Nat.zero_le _, Nat.zero_le _⟩) ?_
  refine W.eq (g2 := F0 m 5 ls [.int r1]) rfl ?_
  refine lv_istore (lv' := [(4, .int r1), (0, .ref (Q 100)), (1, .int x1), (2, .int x2), (3, .int x3)]) hx hb dX9_becomes_5 hl (by decide) rfl (fun ls hl => ?_)
  refine lv_iload hx hb dX9_becomes_7 (lv_at hl 0 rfl) ?_
  refine lv_bipush (v := (-2 : Int32)) hx hb dX9_becomes_9 (by decide) ?_
  refine lv_icmp_eq (tgt := 25) hx hb dX9_becomes_11 (by decide) (fun c3 => ?_) (fun c3 => ?_)
  · have hf := (if_pos c3).symm.trans hf
    refine lv_iconst (v := (0 : Int32)) hx hb dX9_becomes_25 (by decide) ?_
    exact W.zret (v := (0 : Int32)) hx hb hr rfl (fun t ht hW => ⟨⟨(0 : Int32), (I, A), rfl, Option.some.inj hf, by rw [ht]; exact hP, va_K.moved hW.alike hK, hD⟩, hS.F ht⟩) hS.2.2 dX9_becomes_26
  · have hf := (if_neg c3).symm.trans hf
    refine lv_aload_n hx hb dX9_becomes_14 rfl (lv_at hl 1 rfl) ?_
    refine lv_iload_n hx hb dX9_becomes_15 rfl (lv_at hl 3 rfl) ?_
    refine lv_iload_n hx hb dX9_becomes_16 rfl (lv_at hl 4 rfl) ?_
    obtain ⟨r4, hc5, hf⟩ := of_bind_some hf
    refine W.callR (r := r4) (W.runV (As := [.int x2, .int x3]) (rest := []) ⟨hx, hb, hml, hown, hts⟩ (mX9_placeOf l dC dI cI cB cJ Q B I A x2 x3 r4 hc5) (cwV 2 hts gX9_becomes_X9_placeOf rfl rfl rfl (by decide +kernel) ⟨Nat.le_of_ble_eq_true rfl, Nat.le_of_ble_eq_true rfl⟩) ⟨blindR, va_recv hK hP (ci := 6) (q0 := 0) rfl rfl, fun U hU hW => ⟨rfl, by rw [hU]; exact hP, va_K.moved hW.alike hK⟩⟩ rfl rfl hl.1 rfl (lv_room (Nat.le_of_ble_eq_true rfl)) dX9_becomes_17 ⟨Nat.zero_le _, Nat.zero_le _⟩) ?_
    refine W.eq (g2 := F0 m 20 ls [.int r4]) rfl ?_
    refine lv_bipush (v := (-2 : Int32)) hx hb dX9_becomes_20 (by decide) ?_
    refine lv_icmp_eq (tgt := 27) hx hb dX9_becomes_22 (by decide) (fun c6 => ?_) (fun c6 => ?_)
    · have hf := (if_pos c6).symm.trans hf
      refine lv_aload_n hx hb dX9_becomes_27 rfl (lv_at hl 1 rfl) ?_
      refine va_get (D := (dC, dI)) (ci := 6) (v := .ref (Q 25)) (C := RX9) (T := TX9) (N := 36) hx hb hts hinX9 hown hK hP 0 rfl rfl 25 (by decide) hk172 (fun _ h9 => h9) rfl dX9_becomes_28 ?_
      refine lv_iload hx hb dX9_becomes_31 (lv_at hl 0 rfl) ?_
      refine lv_iload_n hx hb dX9_becomes_33 rfl (lv_at hl 3 rfl) ?_
      obtain ⟨g7, hf⟩ := of_ite_some hf
      refine va_iast hx hb hK hP hD hS 19 0 (n := 16) (f := (A 25)) rfl rfl g7 dX9_becomes_34 (fun H locs hP hD hS => ?_)
      have hP : va_P (dC, dI) vwCl (wM cI cB cJ Q B I (va_up A 25 (upd (A 25) r1.toNatClampNeg x2))) H := Eq.mp (congrArg (fun w => va_P (dC, dI) vwCl w H) (wMA_25 cI cB cJ Q B I A (upd (A 25) r1.toNatClampNeg x2))) hP
      have hD : va_D AA (wM cI cB cJ Q B I (va_up A 25 (upd (A 25) r1.toNatClampNeg x2))) := Eq.mp (congrArg (fun w => va_D AA w) (wMA_25 cI cB cJ Q B I A (upd (A 25) r1.toNatClampNeg x2))) hD
      refine lv_aload_n hx hb dX9_becomes_35 rfl (lv_at hl 1 rfl) ?_
      refine va_get (D := (dC, dI)) (ci := 6) (v := .ref (Q 24)) (C := RX9) (T := TX9) (N := 36) hx hb hts hinX9 hown hK hP 0 rfl rfl 24 (by decide) hk169 (fun _ h9 => h9) rfl dX9_becomes_36 ?_
      refine lv_iload hx hb dX9_becomes_39 (lv_at hl 0 rfl) ?_
      refine lv_iload_n hx hb dX9_becomes_41 rfl (lv_at hl 4 rfl) ?_
      obtain ⟨g8, hf⟩ := of_ite_some hf
      refine va_iast hx hb hK hP hD hS 18 0 (n := 16) (f := (A 24)) rfl rfl g8 dX9_becomes_42 (fun H locs hP hD hS => ?_)
      have hP : va_P (dC, dI) vwCl (wM cI cB cJ Q B I (va_up (va_up A 25 (upd (A 25) r1.toNatClampNeg x2)) 24 (upd (A 24) r1.toNatClampNeg x3))) H := Eq.mp (congrArg (fun w => va_P (dC, dI) vwCl w H) (wMA_24 cI cB cJ Q B I (va_up A 25 (upd (A 25) r1.toNatClampNeg x2)) (upd (A 24) r1.toNatClampNeg x3))) hP
      have hD : va_D AA (wM cI cB cJ Q B I (va_up (va_up A 25 (upd (A 25) r1.toNatClampNeg x2)) 24 (upd (A 24) r1.toNatClampNeg x3))) := Eq.mp (congrArg (fun w => va_D AA w) (wMA_24 cI cB cJ Q B I (va_up A 25 (upd (A 25) r1.toNatClampNeg x2)) (upd (A 24) r1.toNatClampNeg x3))) hD
      refine lv_iconst (v := (1 : Int32)) hx hb dX9_becomes_43 (by decide) ?_
      exact W.zret (v := (1 : Int32)) hx hb hr rfl (fun t ht hW => ⟨⟨(1 : Int32), (I, (va_up (va_up A 25 (upd (A 25) r1.toNatClampNeg x2)) 24 (upd (A 24) r1.toNatClampNeg x3))), rfl, Option.some.inj hf, by rw [ht]; exact hP, va_K.moved hW.alike hK, hD⟩, hS.F ht⟩) hS.2.2 dX9_becomes_44
    · have hf := (if_neg c6).symm.trans hf
      refine lv_iconst (v := (0 : Int32)) hx hb dX9_becomes_25 (by decide) ?_
      exact W.zret (v := (0 : Int32)) hx hb hr rfl (fun t ht hW => ⟨⟨(0 : Int32), (I, A), rfl, Option.some.inj hf, by rw [ht]; exact hP, va_K.moved hW.alike hK, hD⟩, hS.F ht⟩) hS.2.2 dX9_becomes_26
def fX9_brings_34 (B : Nat → Nat → Int64)  (I : Nat → Int32) (A : Nat → Nat → Int32) (v1 : Int32) (v2 : Int32) : Option (Int32 × (Nat → Int32) × (Nat → Nat → Int32)) :=
  ((fX9_comes B I A v1 v2).bind fun (I12, A13) => (some ((1 : Int32), (I12, A13))))
def fX9_brings (B : Nat → Nat → Int64) (I : Nat → Int32) (A : Nat → Nat → Int32) (x1 : Int32) (x2 : Int32) (x3 : Int32) : Option (Int32 × (Nat → Int32) × (Nat → Nat → Int32)) :=
  ((fX9_placeOf B I A x1 x2).bind fun r1 => (if r1 = (-2 : Int32) then ((fX9_placeOf B I A x1 x3).bind fun r4 => (if r4 = (-2 : Int32) then (fX9_brings_34 B  I A x1 x2) else ((fX9_goes B I A r4).bind fun (I8, A9) => (fX9_brings_34 B  I8 A9 x1 x2)))) else (some ((0 : Int32), (I, A)))))
set_option maxRecDepth 100000 in
set_option maxHeartbeats 4000000 in
theorem mX9_brings (l : Launch) (dC : Nat → ClassId) (dI : Nat → Nat → Nat) (cI cB cJ : ClassId) (Q : Nat → Nat) (B : Nat → Nat → Int64) (I : Nat → Int32) (A : Nat → Nat → Int32) (x1 : Int32) (x2 : Int32) (x3 : Int32) (sz : Nat) (z : Int32 × (Nat → Int32) × (Nat → Nat → Int32)) (hf : fX9_brings B I A x1 x2 x3 = some z) : Met l yX9_brings wsX9_brings ({ frames := 1, cells := 0, slots := 0, locals := 23 }) (va_Pc [.ref (Q 100), .int x1, .int x2, .int x3] (fun U => U.heap.size = sz ∧ va_P (dC, dI) vwCl (wM cI cB cJ Q B I A) U.heap ∧ va_K (dC, dI) vwCl (tM cI cB cJ) U ∧ va_D (fun _ => True) (wM cI cB cJ Q B I A))) (va_Qi (fun (r : Int32) (u : (Nat → Int32) × (Nat → Nat → Int32)) => (r, u) = z) (atM dC dI cI cB cJ Q B (va_A (wM cI cB cJ Q B I A) sz)) (va_A (wM cI cB cJ Q B I A) sz)) 0 0 (va_A (wM cI cB cJ Q B I A) sz) := by
  refine Met.ofW (cc := cX9_brings) (maxL := 5) (ret := (some .boolean)) (by decide) rfl ?_
  intro p e s m args below meth c s₁ BL hml hv
  obtain ⟨rfl, hsz, hP, hK, hD0⟩ := hv
  have hx := BL.exec
  have hb := BL.bytes
  have hr := BL.returns
  have hts := atoms_spec (ws := wsX9_brings) BL.pre
  have hown : s.vm.findClass RX9 = some m.cls := findClass_of_methodNamed BL.named
  have hlocks := BL.notSynchronized
  subst hsz
  have hD := hD0.self (sz := s.heap.size)
  generalize hAe : va_A (wM cI cB cJ Q B I A) s.heap.size = AA at hD ⊢
  have hA : ∀ q : Nat, s.heap.size ≤ q → AA q := fun q h => by rw [← hAe]; exact Or.inr h
  have hS : va_S AA s.heap s.heap [] := va_S.rf
  have sg34 : ∀ (I : Nat → Int32) (A : Nat → Nat → Int32) (v1 : Int32) (v2 : Int32) (H : Heap) (locs : List Loc) (ls : Array Slot), fX9_brings_34 B  I A v1 v2 = some z → va_P (dC, dI) vwCl (wM cI cB cJ Q B I A) H → va_D AA (wM cI cB cJ Q B I A) → va_S AA s.heap H locs → lv_has ls 5 [(0, .ref (Q 100)), (1, .int v1), (2, .int v2)] → W p l e (headSpec wsX9_brings ({ frames := 1, cells := 0, slots := 0, locals := 23 })).room s m (([.ref (Q 100), .int x1, .int x2, .int x3] : List Value).toArray) below meth c H locs 0 0 (MQ below (va_Qi (fun (r : Int32) (u : (Nat → Int32) × (Nat → Nat → Int32)) => (r, u) = z) (atM dC dI cI cB cJ Q B AA) AA) (([.ref (Q 100), .int x1, .int x2, .int x3] : List Value).toArray) s 0 0 AA) (F0 m 34 ls []) := by
    intro I A v1 v2 H locs ls hf hP hD hS hl
    unfold fX9_brings_34 at hf
    refine lv_aload_n hx hb dX9_brings_34 rfl (lv_at hl 0 rfl) ?_
    refine lv_iload_n hx hb dX9_brings_35 rfl (lv_at hl 1 rfl) ?_
    refine lv_iload_n hx hb dX9_brings_36 rfl (lv_at hl 2 rfl) ?_
    obtain ⟨⟨I12, A13⟩, hc11, hf⟩ := of_bind_some hf
    have hF14 := va_freeAll hD hS hA
    refine va_callv (va_runV (As := [.int v1, .int v2]) (rest := []) ⟨hx, hb, hml, hown, hts⟩ (mX9_comes l dC dI cI cB cJ Q B I A v1 v2 H.size _ hc11) (cwV 2 hts gX9_brings_X9_comes rfl rfl rfl (by decide +kernel) ⟨Nat.le_of_ble_eq_true rfl, Nat.le_of_ble_eq_true rfl⟩) ⟨blindW, va_recv hK hP (ci := 6) (q0 := 0) rfl rfl, fun U hU hW => ⟨rfl, by rw [hU], by rw [hU]; exact hP, va_K.moved hW.alike hK, hD.weaken (fun _ _ _ _ => trivial)⟩⟩ rfl rfl hl.1 rfl (lv_room (Nat.le_of_ble_eq_true rfl)) dX9_brings_37 ⟨Nat.zero_le _, Nat.zero_le _⟩) hS (fun q _ h => hF14 q h) hF14 (fun u t H locs ht hvm hw hB hz1 hk1 hS => ?_)
    cases hw
    obtain ⟨hP, hK9, hD⟩ := hB
    rw [ht] at hP
    have hP : va_P (dC, dI) vwCl (wM cI cB cJ Q B I12 A13) H := hP
    have hD : va_D AA (wM cI cB cJ Q B I12 A13) := hD.weaken (fun _ _ _ h => hF14 _ h)
    refine lv_iconst (v := (1 : Int32)) hx hb dX9_brings_40 (by decide) ?_
    exact W.zret (v := (1 : Int32)) hx hb hr rfl (fun t ht hW => ⟨⟨(1 : Int32), (I12, A13), rfl, Option.some.inj hf, by rw [ht]; exact hP, va_K.moved hW.alike hK, hD⟩, hS.F ht⟩) hS.2.2 dX9_brings_41
  have hl := lv_entry ([.ref (Q 100), .int x1, .int x2, .int x3]) (n := 5) (Nat.le_of_ble_eq_true rfl)
  rw [lg_entry_eq]
  generalize (lg_sl ([.ref (Q 100), .int x1, .int x2, .int x3]) ++ List.replicate (5 - (lg_sl ([.ref (Q 100), .int x1, .int x2, .int x3])).length) Slot.unset).toArray = ls at hl ⊢
  have hl : lv_has ls 5 [(0, .ref (Q 100)), (1, .int x1), (2, .int x2), (3, .int x3)] := hl
  unfold fX9_brings at hf
  refine lv_aload_n hx hb dX9_brings_0 rfl (lv_at hl 0 rfl) ?_
  refine lv_iload_n hx hb dX9_brings_1 rfl (lv_at hl 1 rfl) ?_
  refine lv_iload_n hx hb dX9_brings_2 rfl (lv_at hl 2 rfl) ?_
  obtain ⟨r1, hc2, hf⟩ := of_bind_some hf
  refine W.callR (r := r1) (W.runV (As := [.int x1, .int x2]) (rest := []) ⟨hx, hb, hml, hown, hts⟩ (mX9_placeOf l dC dI cI cB cJ Q B I A x1 x2 r1 hc2) (cwV 2 hts gX9_brings_X9_placeOf rfl rfl rfl (by decide +kernel) ⟨Nat.le_of_ble_eq_true rfl, Nat.le_of_ble_eq_true rfl⟩) ⟨blindR, va_recv hK hP (ci := 6) (q0 := 0) rfl rfl, fun U hU hW => ⟨rfl, by rw [hU]; exact hP, va_K.moved hW.alike hK⟩⟩ rfl rfl hl.1 rfl (lv_room (Nat.le_of_ble_eq_true rfl)) dX9_brings_3 ⟨Nat.zero_le _, Nat.zero_le _⟩) ?_
  refine W.eq (g2 := F0 m 6 ls [.int r1]) rfl ?_
  refine lv_bipush (v := (-2 : Int32)) hx hb dX9_brings_6 (by decide) ?_
  refine lv_icmp_eq (tgt := 13) hx hb dX9_brings_8 (by decide) (fun c3 => ?_) (fun c3 => ?_)
  · have hf := (if_pos c3).symm.trans hf
    refine lv_aload_n hx hb dX9_brings_13 rfl (lv_at hl 0 rfl) ?_
    refine lv_iload_n hx hb dX9_brings_14 rfl (lv_at hl 1 rfl) ?_
    refine lv_iload_n hx hb dX9_brings_15 rfl (lv_at hl 3 rfl) ?_
    obtain ⟨r4, hc5, hf⟩ := of_bind_some hf
    refine W.callR (r := r4) (W.runV (As := [.int x1, .int x3]) (rest := []) ⟨hx, hb, hml, hown, hts⟩ (mX9_placeOf l dC dI cI cB cJ Q B I A x1 x3 r4 hc5) (cwV 2 hts gX9_brings_X9_placeOf rfl rfl rfl (by decide +kernel) ⟨Nat.le_of_ble_eq_true rfl, Nat.le_of_ble_eq_true rfl⟩) ⟨blindR, va_recv hK hP (ci := 6) (q0 := 0) rfl rfl, fun U hU hW => ⟨rfl, by rw [hU]; exact hP, va_K.moved hW.alike hK⟩⟩ rfl rfl hl.1 rfl (lv_room (Nat.le_of_ble_eq_true rfl)) dX9_brings_16 ⟨Nat.zero_le _, Nat.zero_le _⟩) ?_
    refine W.eq (g2 := F0 m 19 ls [.int r4]) rfl ?_
    refine lv_istore (lv' := [(4, .int r4), (0, .ref (Q 100)), (1, .int x1), (2, .int x2), (3, .int x3)]) hx hb dX9_brings_19 hl (by decide) rfl (fun ls hl => ?_)
    refine lv_iload hx hb dX9_brings_21 (lv_at hl 0 rfl) ?_
    refine lv_bipush (v := (-2 : Int32)) hx hb dX9_brings_23 (by decide) ?_
    refine lv_icmp_eq (tgt := 34) hx hb dX9_brings_25 (by decide) (fun c6 => ?_) (fun c6 => ?_)
    · have hf := (if_pos c6).symm.trans hf
      exact sg34  I A x1 x2 s.heap [] ls hf hP hD hS (lv_sub hl [1, 2, 3] rfl)
    · have hf := (if_neg c6).symm.trans hf
      refine lv_aload_n hx hb dX9_brings_28 rfl (lv_at hl 1 rfl) ?_
      refine lv_iload hx hb dX9_brings_29 (lv_at hl 0 rfl) ?_
      obtain ⟨⟨I8, A9⟩, hc7, hf⟩ := of_bind_some hf
      have hF10 := va_freeAll hD hS hA
      refine va_callv (va_runV (As := [.int r4]) (rest := []) ⟨hx, hb, hml, hown, hts⟩ (mX9_goes l dC dI cI cB cJ Q B I A r4 s.heap.size _ hc7) (cwV 1 hts gX9_brings_X9_goes rfl rfl rfl (by decide +kernel) ⟨Nat.le_of_ble_eq_true rfl, Nat.le_of_ble_eq_true rfl⟩) ⟨blindW, va_recv hK hP (ci := 6) (q0 := 0) rfl rfl, fun U hU hW => ⟨rfl, by rw [hU], by rw [hU]; exact hP, va_K.moved hW.alike hK, hD.weaken (fun _ _ _ _ => trivial)⟩⟩ rfl rfl hl.1 rfl (lv_room (Nat.le_of_ble_eq_true rfl)) dX9_brings_31 ⟨Nat.zero_le _, Nat.zero_le _⟩) hS (fun q _ h => hF10 q h) hF10 (fun u t H locs ht hvm hw hB hz1 hk1 hS => ?_)
      cases hw
      obtain ⟨hP, hK9, hD⟩ := hB
      rw [ht] at hP
      have hP : va_P (dC, dI) vwCl (wM cI cB cJ Q B I8 A9) H := hP
      have hD : va_D AA (wM cI cB cJ Q B I8 A9) := hD.weaken (fun _ _ _ h => hF10 _ h)
      exact sg34  I8 A9 x1 x2 H locs ls hf hP hD hS (lv_sub hl [1, 2, 3] rfl)
  · have hf := (if_neg c3).symm.trans hf
    refine lv_iconst (v := (0 : Int32)) hx hb dX9_brings_11 (by decide) ?_
    exact W.zret (v := (0 : Int32)) hx hb hr rfl (fun t ht hW => ⟨⟨(0 : Int32), (I, A), rfl, Option.some.inj hf, by rw [ht]; exact hP, va_K.moved hW.alike hK, hD⟩, hS.F ht⟩) hS.2.2 dX9_brings_12
def fX9_changes_179 (B : Nat → Nat → Int64)  (I : Nat → Int32) (A : Nat → Nat → Int32) (v2 : Int32) : Option (Int32 × (Nat → Int32) × (Nat → Nat → Int32)) :=
  (if v2 = (-2 : Int32) then (some ((0 : Int32), (I, A))) else (some ((1 : Int32), (I, A))))
def fX9_changes_164 (B : Nat → Nat → Int64)  (I : Nat → Int32) (A : Nat → Nat → Int32) (t0 : Int32) : Option (Int32 × (Nat → Int32) × (Nat → Nat → Int32)) :=
  ((fX9_placeOfDegree B I A t0).bind fun r60 => (if r60 = (-2 : Int32) then (fX9_changes_179 B  I A r60) else ((fX9_goes B I A r60).bind fun (I64, A65) => (fX9_changes_179 B  I64 A65 r60))))
def fX9_changes_16 (B : Nat → Nat → Int64)  (I : Nat → Int32) (A : Nat → Nat → Int32) (v1 : Int32) (t0 : Int32) (t1 : Int32) : Option (Int32 × (Nat → Int32) × (Nat → Nat → Int32)) :=
  (if v1 = 0 then ((fX9_becomes B I A t1 t0 (2 : Int32)).bind fun (r77, I75, A76) => (if r77 = 0 ∨ r77 = 1 then (some (r77, (I75, A76))) else none)) else ((fX9_becomes B I A t1 t0 (5 : Int32)).bind fun (r71, I69, A70) => (if r71 = 0 ∨ r71 = 1 then (some (r71, (I69, A70))) else none)))
def fX9_changes (B : Nat → Nat → Int64) (I : Nat → Int32) (A : Nat → Nat → Int32) (x1 : Int32) : Option (Int32 × (Nat → Int32) × (Nat → Nat → Int32)) :=
  (if (3 : Int32) ≤ x1 then (if (5 : Int32) ≤ x1 then (if (7 : Int32) ≤ x1 then (if (9 : Int32) ≤ x1 then (if (11 : Int32) ≤ x1 then (if x1 = (11 : Int32) then (fX9_changes_164 B  I A (3 : Int32)) else (fX9_changes_164 B  I A (5 : Int32))) else (if x1 = (9 : Int32) then ((fX9_brings B I A (9 : Int32) (14 : Int32) (-2 : Int32)).bind fun (r17, I15, A16) => (if r17 = 0 ∨ r17 = 1 then (some (r17, (I15, A16))) else none)) else ((fX9_brings B I A (11 : Int32) (17 : Int32) (-2 : Int32)).bind fun (r11, I9, A10) => (if r11 = 0 ∨ r11 = 1 then (some (r11, (I9, A10))) else none)))) else (if x1 = (7 : Int32) then ((fX9_brings B I A (11 : Int32) (18 : Int32) (17 : Int32)).bind fun (r30, I28, A29) => (if r30 = 0 ∨ r30 = 1 then (some (r30, (I28, A29))) else none)) else ((fX9_brings B I A (13 : Int32) (20 : Int32) (21 : Int32)).bind fun (r24, I22, A23) => (if r24 = 0 ∨ r24 = 1 then (some (r24, (I22, A23))) else none)))) else (if x1 = (5 : Int32) then ((fX9_brings B I A (9 : Int32) (13 : Int32) (14 : Int32)).bind fun (r43, I41, A42) => (if r43 = 0 ∨ r43 = 1 then (some (r43, (I41, A42))) else none)) else ((fX9_brings B I A (9 : Int32) (15 : Int32) (14 : Int32)).bind fun (r37, I35, A36) => (if r37 = 0 ∨ r37 = 1 then (some (r37, (I35, A36))) else none)))) else (if x1 = (3 : Int32) then ((fX9_becomes B I A (5 : Int32) (5 : Int32) (6 : Int32)).bind fun (r56, I54, A55) => (if r56 = 0 ∨ r56 = 1 then (some (r56, (I54, A55))) else none)) else ((fX9_becomes B I A (5 : Int32) (5 : Int32) (8 : Int32)).bind fun (r50, I48, A49) => (if r50 = 0 ∨ r50 = 1 then (some (r50, (I48, A49))) else none)))) else (if x1 = 0 then (fX9_changes_16 B  I A x1 (2 : Int32) (3 : Int32)) else (fX9_changes_16 B  I A x1 (4 : Int32) (3 : Int32))))
set_option maxRecDepth 100000 in
set_option maxHeartbeats 4000000 in
theorem mX9_changes (l : Launch) (dC : Nat → ClassId) (dI : Nat → Nat → Nat) (cI cB cJ : ClassId) (Q : Nat → Nat) (B : Nat → Nat → Int64) (I : Nat → Int32) (A : Nat → Nat → Int32) (x1 : Int32) (sz : Nat) (z : Int32 × (Nat → Int32) × (Nat → Nat → Int32)) (hf : fX9_changes B I A x1 = some z) : Met l yX9_changes wsX9_changes ({ frames := 2, cells := 0, slots := 0, locals := 47 }) (va_Pc [.ref (Q 100), .int x1] (fun U => U.heap.size = sz ∧ va_P (dC, dI) vwCl (wM cI cB cJ Q B I A) U.heap ∧ va_K (dC, dI) vwCl (tM cI cB cJ) U ∧ va_D (fun _ => True) (wM cI cB cJ Q B I A))) (va_Qi (fun (r : Int32) (u : (Nat → Int32) × (Nat → Nat → Int32)) => (r, u) = z) (atM dC dI cI cB cJ Q B (va_A (wM cI cB cJ Q B I A) sz)) (va_A (wM cI cB cJ Q B I A) sz)) 0 0 (va_A (wM cI cB cJ Q B I A) sz) := by
  refine Met.ofW (cc := cX9_changes) (maxL := 3) (ret := (some .boolean)) (by decide) rfl ?_
  intro p e s m args below meth c s₁ BL hml hv
  obtain ⟨rfl, hsz, hP, hK, hD0⟩ := hv
  have hx := BL.exec
  have hb := BL.bytes
  have hr := BL.returns
  have hts := atoms_spec (ws := wsX9_changes) BL.pre
  have hown : s.vm.findClass RX9 = some m.cls := findClass_of_methodNamed BL.named
  have hlocks := BL.notSynchronized
  subst hsz
  have hD := hD0.self (sz := s.heap.size)
  generalize hAe : va_A (wM cI cB cJ Q B I A) s.heap.size = AA at hD ⊢
  have hA : ∀ q : Nat, s.heap.size ≤ q → AA q := fun q h => by rw [← hAe]; exact Or.inr h
  have hS : va_S AA s.heap s.heap [] := va_S.rf
  have sg179 : ∀ (I : Nat → Int32) (A : Nat → Nat → Int32) (v2 : Int32) (H : Heap) (locs : List Loc) (ls : Array Slot), fX9_changes_179 B  I A v2 = some z → va_P (dC, dI) vwCl (wM cI cB cJ Q B I A) H → va_D AA (wM cI cB cJ Q B I A) → va_S AA s.heap H locs → lv_has ls 3 [(2, .int v2)] → W p l e (headSpec wsX9_changes ({ frames := 2, cells := 0, slots := 0, locals := 47 })).room s m (([.ref (Q 100), .int x1] : List Value).toArray) below meth c H locs 0 0 (MQ below (va_Qi (fun (r : Int32) (u : (Nat → Int32) × (Nat → Nat → Int32)) => (r, u) = z) (atM dC dI cI cB cJ Q B AA) AA) (([.ref (Q 100), .int x1] : List Value).toArray) s 0 0 AA) (F0 m 179 ls []) := by
    intro I A v2 H locs ls hf hP hD hS hl
    unfold fX9_changes_179 at hf
    refine lv_iload_n hx hb dX9_changes_179 rfl (lv_at hl 0 rfl) ?_
    refine lv_bipush (v := (-2 : Int32)) hx hb dX9_changes_180 (by decide) ?_
    refine lv_icmp_eq (tgt := 189) hx hb dX9_changes_182 (by decide) (fun c80 => ?_) (fun c80 => ?_)
    · have hf := (if_pos c80).symm.trans hf
      refine lv_iconst (v := (0 : Int32)) hx hb dX9_changes_189 (by decide) ?_
      exact W.zret (v := (0 : Int32)) hx hb hr rfl (fun t ht hW => ⟨⟨(0 : Int32), (I, A), rfl, Option.some.inj hf, by rw [ht]; exact hP, va_K.moved hW.alike hK, hD⟩, hS.F ht⟩) hS.2.2 dX9_changes_190
    · have hf := (if_neg c80).symm.trans hf
      refine lv_iconst (v := (1 : Int32)) hx hb dX9_changes_185 (by decide) ?_
      refine lv_goto (tgt := 190) hx hb dX9_changes_186 (by decide) ?_
      exact W.zret (v := (1 : Int32)) hx hb hr rfl (fun t ht hW => ⟨⟨(1 : Int32), (I, A), rfl, Option.some.inj hf, by rw [ht]; exact hP, va_K.moved hW.alike hK, hD⟩, hS.F ht⟩) hS.2.2 dX9_changes_190
  have sg164 : ∀ (I : Nat → Int32) (A : Nat → Nat → Int32) (t0 : Int32) (H : Heap) (locs : List Loc) (ls : Array Slot), fX9_changes_164 B  I A t0 = some z → va_P (dC, dI) vwCl (wM cI cB cJ Q B I A) H → va_D AA (wM cI cB cJ Q B I A) → va_S AA s.heap H locs → lv_has ls 3 [(0, .ref (Q 100))] → W p l e (headSpec wsX9_changes ({ frames := 2, cells := 0, slots := 0, locals := 47 })).room s m (([.ref (Q 100), .int x1] : List Value).toArray) below meth c H locs 0 0 (MQ below (va_Qi (fun (r : Int32) (u : (Nat → Int32) × (Nat → Nat → Int32)) => (r, u) = z) (atM dC dI cI cB cJ Q B AA) AA) (([.ref (Q 100), .int x1] : List Value).toArray) s 0 0 AA) (F0 m 164 ls [.int t0, .ref (Q 100)]) := by
    intro I A t0 H locs ls hf hP hD hS hl
    unfold fX9_changes_164 at hf
    obtain ⟨r60, hc61, hf⟩ := of_bind_some hf
    refine W.callR (r := r60) (W.runV (As := [.int t0]) (rest := []) ⟨hx, hb, hml, hown, hts⟩ (mX9_placeOfDegree l dC dI cI cB cJ Q B I A t0 r60 hc61) (cwV 1 hts gX9_changes_X9_placeOfDegree rfl rfl rfl (by decide +kernel) ⟨Nat.le_of_ble_eq_true rfl, Nat.le_of_ble_eq_true rfl⟩) ⟨blindR, va_recv hK hP (ci := 6) (q0 := 0) rfl rfl, fun U hU hW => ⟨rfl, by rw [hU]; exact hP, va_K.moved hW.alike hK⟩⟩ rfl rfl hl.1 rfl (lv_room (Nat.le_of_ble_eq_true rfl)) dX9_changes_164 ⟨Nat.zero_le _, Nat.zero_le _⟩) ?_
    refine W.eq (g2 := F0 m 167 ls [.int r60]) rfl ?_
    refine lv_istore_n (lv' := [(2, .int r60), (0, .ref (Q 100))]) hx hb dX9_changes_167 rfl hl (by decide) rfl (fun ls hl => ?_)
    refine lv_iload_n hx hb dX9_changes_168 rfl (lv_at hl 0 rfl) ?_
    refine lv_bipush (v := (-2 : Int32)) hx hb dX9_changes_169 (by decide) ?_
    refine lv_icmp_eq (tgt := 179) hx hb dX9_changes_171 (by decide) (fun c62 => ?_) (fun c62 => ?_)
    · have hf := (if_pos c62).symm.trans hf
      exact sg179  I A r60 H locs ls hf hP hD hS (lv_sub hl [0] rfl)
    · have hf := (if_neg c62).symm.trans hf
      refine lv_aload_n hx hb dX9_changes_174 rfl (lv_at hl 1 rfl) ?_
      refine lv_iload_n hx hb dX9_changes_175 rfl (lv_at hl 0 rfl) ?_
      obtain ⟨⟨I64, A65⟩, hc63, hf⟩ := of_bind_some hf
      have hF66 := va_freeAll hD hS hA
      refine va_callv (va_runV (As := [.int r60]) (rest := []) ⟨hx, hb, hml, hown, hts⟩ (mX9_goes l dC dI cI cB cJ Q B I A r60 H.size _ hc63) (cwV 1 hts gX9_changes_X9_goes rfl rfl rfl (by decide +kernel) ⟨Nat.le_of_ble_eq_true rfl, Nat.le_of_ble_eq_true rfl⟩) ⟨blindW, va_recv hK hP (ci := 6) (q0 := 0) rfl rfl, fun U hU hW => ⟨rfl, by rw [hU], by rw [hU]; exact hP, va_K.moved hW.alike hK, hD.weaken (fun _ _ _ _ => trivial)⟩⟩ rfl rfl hl.1 rfl (lv_room (Nat.le_of_ble_eq_true rfl)) dX9_changes_176 ⟨Nat.zero_le _, Nat.zero_le _⟩) hS (fun q _ h => hF66 q h) hF66 (fun u t H locs ht hvm hw hB hz1 hk1 hS => ?_)
      cases hw
      obtain ⟨hP, hK9, hD⟩ := hB
      rw [ht] at hP
      have hP : va_P (dC, dI) vwCl (wM cI cB cJ Q B I64 A65) H := hP
      have hD : va_D AA (wM cI cB cJ Q B I64 A65) := hD.weaken (fun _ _ _ h => hF66 _ h)
      exact sg179  I64 A65 r60 H locs ls hf hP hD hS (lv_sub hl [0] rfl)
  have sg16 : ∀ (I : Nat → Int32) (A : Nat → Nat → Int32) (v1 : Int32) (t0 : Int32) (t1 : Int32) (H : Heap) (locs : List Loc) (ls : Array Slot), fX9_changes_16 B  I A v1 t0 t1 = some z → va_P (dC, dI) vwCl (wM cI cB cJ Q B I A) H → va_D AA (wM cI cB cJ Q B I A) → va_S AA s.heap H locs → lv_has ls 3 [(1, .int v1)] → W p l e (headSpec wsX9_changes ({ frames := 2, cells := 0, slots := 0, locals := 47 })).room s m (([.ref (Q 100), .int x1] : List Value).toArray) below meth c H locs 0 0 (MQ below (va_Qi (fun (r : Int32) (u : (Nat → Int32) × (Nat → Nat → Int32)) => (r, u) = z) (atM dC dI cI cB cJ Q B AA) AA) (([.ref (Q 100), .int x1] : List Value).toArray) s 0 0 AA) (F0 m 16 ls [.int t0, .int t1, .ref (Q 100)]) := by
    intro I A v1 t0 t1 H locs ls hf hP hD hS hl
    unfold fX9_changes_16 at hf
    refine lv_iload_n hx hb dX9_changes_16 rfl (lv_at hl 0 rfl) ?_
    refine lv_if_ne (tgt := 24) hx hb dX9_changes_17 (by decide) (fun c67 => ?_) (fun c67 => ?_)
    · have hf := (if_neg c67).symm.trans hf
      refine lv_iconst (v := (5 : Int32)) hx hb dX9_changes_24 (by decide) ?_
      obtain ⟨⟨r71, I69, A70⟩, hc68, hf⟩ := of_bind_some hf
      have hF72 := va_freeAll hD hS hA
      refine va_calli (va_runV (As := [.int t1, .int t0, .int (5 : Int32)]) (rest := []) ⟨hx, hb, hml, hown, hts⟩ (mX9_becomes l dC dI cI cB cJ Q B I A t1 t0 (5 : Int32) H.size _ hc68) (cwV 3 hts gX9_changes_X9_becomes rfl rfl rfl (by decide +kernel) ⟨Nat.le_of_ble_eq_true rfl, Nat.le_of_ble_eq_true rfl⟩) ⟨blindW, va_recv hK hP (ci := 6) (q0 := 0) rfl rfl, fun U hU hW => ⟨rfl, by rw [hU], by rw [hU]; exact hP, va_K.moved hW.alike hK, hD.weaken (fun _ _ _ _ => trivial)⟩⟩ rfl rfl hl.1 rfl (lv_room (Nat.le_of_ble_eq_true rfl)) dX9_changes_25 ⟨Nat.zero_le _, Nat.zero_le _⟩) hS (fun q _ h => hF72 q h) hF72 (fun r0 u t H locs ht hvm hw hB hz1 hk1 hS => ?_)
      cases hw
      obtain ⟨hP, hK9, hD⟩ := hB
      rw [ht] at hP
      have hP : va_P (dC, dI) vwCl (wM cI cB cJ Q B I69 A70) H := hP
      have hD : va_D AA (wM cI cB cJ Q B I69 A70) := hD.weaken (fun _ _ _ h => hF72 _ h)
      obtain ⟨z73, hf⟩ := of_ite_some hf
      exact W.zret (v := r71) hx hb hr (zn_of z73) (fun t ht hW => ⟨⟨r71, (I69, A70), rfl, Option.some.inj hf, by rw [ht]; exact hP, va_K.moved hW.alike hK, hD⟩, hS.F ht⟩) hS.2.2 dX9_changes_28
    · have hf := (if_pos c67).symm.trans hf
      refine lv_iconst (v := (2 : Int32)) hx hb dX9_changes_20 (by decide) ?_
      refine lv_goto (tgt := 25) hx hb dX9_changes_21 (by decide) ?_
      obtain ⟨⟨r77, I75, A76⟩, hc74, hf⟩ := of_bind_some hf
      have hF78 := va_freeAll hD hS hA
      refine va_calli (va_runV (As := [.int t1, .int t0, .int (2 : Int32)]) (rest := []) ⟨hx, hb, hml, hown, hts⟩ (mX9_becomes l dC dI cI cB cJ Q B I A t1 t0 (2 : Int32) H.size _ hc74) (cwV 3 hts gX9_changes_X9_becomes rfl rfl rfl (by decide +kernel) ⟨Nat.le_of_ble_eq_true rfl, Nat.le_of_ble_eq_true rfl⟩) ⟨blindW, va_recv hK hP (ci := 6) (q0 := 0) rfl rfl, fun U hU hW => ⟨rfl, by rw [hU], by rw [hU]; exact hP, va_K.moved hW.alike hK, hD.weaken (fun _ _ _ _ => trivial)⟩⟩ rfl rfl hl.1 rfl (lv_room (Nat.le_of_ble_eq_true rfl)) dX9_changes_25 ⟨Nat.zero_le _, Nat.zero_le _⟩) hS (fun q _ h => hF78 q h) hF78 (fun r0 u t H locs ht hvm hw hB hz1 hk1 hS => ?_)
      cases hw
      obtain ⟨hP, hK9, hD⟩ := hB
      rw [ht] at hP
      have hP : va_P (dC, dI) vwCl (wM cI cB cJ Q B I75 A76) H := hP
      have hD : va_D AA (wM cI cB cJ Q B I75 A76) := hD.weaken (fun _ _ _ h => hF78 _ h)
      obtain ⟨z79, hf⟩ := of_ite_some hf
      exact W.zret (v := r77) hx hb hr (zn_of z79) (fun t ht hW => ⟨⟨r77, (I75, A76), rfl, Option.some.inj hf, by rw [ht]; exact hP, va_K.moved hW.alike hK, hD⟩, hS.F ht⟩) hS.2.2 dX9_changes_28
  have hl := lv_entry ([.ref (Q 100), .int x1]) (n := 3) (Nat.le_of_ble_eq_true rfl)
  rw [lg_entry_eq]
  generalize (lg_sl ([.ref (Q 100), .int x1]) ++ List.replicate (3 - (lg_sl ([.ref (Q 100), .int x1])).length) Slot.unset).toArray = ls at hl ⊢
  have hl : lv_has ls 3 [(0, .ref (Q 100)), (1, .int x1)] := hl
  unfold fX9_changes at hf
  refine lv_iload_n hx hb dX9_changes_0 rfl (lv_at hl 1 rfl) ?_
  refine lv_iconst (v := (3 : Int32)) hx hb dX9_changes_1 (by decide) ?_
  refine lv_icmp_ge (tgt := 29) hx hb dX9_changes_2 (by decide) (fun c1 => ?_) (fun c1 => ?_)
  · have hf := (if_pos c1).symm.trans hf
    refine lv_iload_n hx hb dX9_changes_29 rfl (lv_at hl 1 rfl) ?_
    refine lv_iconst (v := (5 : Int32)) hx hb dX9_changes_30 (by decide) ?_
    refine lv_icmp_ge (tgt := 53) hx hb dX9_changes_31 (by decide) (fun c2 => ?_) (fun c2 => ?_)
    · have hf := (if_pos c2).symm.trans hf
      refine lv_iload_n hx hb dX9_changes_53 rfl (lv_at hl 1 rfl) ?_
      refine lv_bipush (v := (7 : Int32)) hx hb dX9_changes_54 (by decide) ?_
      refine lv_icmp_ge (tgt := 80) hx hb dX9_changes_56 (by decide) (fun c3 => ?_) (fun c3 => ?_)
      · have hf := (if_pos c3).symm.trans hf
        refine lv_iload_n hx hb dX9_changes_80 rfl (lv_at hl 1 rfl) ?_
        refine lv_bipush (v := (9 : Int32)) hx hb dX9_changes_81 (by decide) ?_
        refine lv_icmp_ge (tgt := 116) hx hb dX9_changes_83 (by decide) (fun c4 => ?_) (fun c4 => ?_)
        · have hf := (if_pos c4).symm.trans hf
          refine lv_iload_n hx hb dX9_changes_116 rfl (lv_at hl 1 rfl) ?_
          refine lv_bipush (v := (11 : Int32)) hx hb dX9_changes_117 (by decide) ?_
          refine lv_icmp_ge (tgt := 152) hx hb dX9_changes_119 (by decide) (fun c5 => ?_) (fun c5 => ?_)
          · have hf := (if_pos c5).symm.trans hf
            refine lv_aload_n hx hb dX9_changes_152 rfl (lv_at hl 0 rfl) ?_
            refine lv_iload_n hx hb dX9_changes_153 rfl (lv_at hl 1 rfl) ?_
            refine lv_bipush (v := (11 : Int32)) hx hb dX9_changes_154 (by decide) ?_
            refine lv_icmp_ne (tgt := 163) hx hb dX9_changes_156 (by decide) (fun c6 => ?_) (fun c6 => ?_)
            · have hf := (if_neg c6).symm.trans hf
              refine lv_iconst (v := (5 : Int32)) hx hb dX9_changes_163 (by decide) ?_
              exact sg164  I A (5 : Int32) s.heap [] ls hf hP hD hS (lv_sub hl [0] rfl)
            · have hf := (if_pos c6).symm.trans hf
              refine lv_iconst (v := (3 : Int32)) hx hb dX9_changes_159 (by decide) ?_
              refine lv_goto (tgt := 164) hx hb dX9_changes_160 (by decide) ?_
              exact sg164  I A (3 : Int32) s.heap [] ls hf hP hD hS (lv_sub hl [0] rfl)
          · have hf := (if_neg c5).symm.trans hf
            refine lv_iload_n hx hb dX9_changes_122 rfl (lv_at hl 1 rfl) ?_
            refine lv_bipush (v := (9 : Int32)) hx hb dX9_changes_123 (by decide) ?_
            refine lv_icmp_ne (tgt := 141) hx hb dX9_changes_125 (by decide) (fun c7 => ?_) (fun c7 => ?_)
            · have hf := (if_neg c7).symm.trans hf
              refine lv_aload_n hx hb dX9_changes_141 rfl (lv_at hl 0 rfl) ?_
              refine lv_bipush (v := (11 : Int32)) hx hb dX9_changes_142 (by decide) ?_
              refine lv_bipush (v := (17 : Int32)) hx hb dX9_changes_144 (by decide) ?_
              refine lv_bipush (v := (-2 : Int32)) hx hb dX9_changes_146 (by decide) ?_
              obtain ⟨⟨r11, I9, A10⟩, hc8, hf⟩ := of_bind_some hf
              have hF12 := va_freeAll hD hS hA
              refine va_calli (va_runV (As := [.int (11 : Int32), .int (17 : Int32), .int (-2 : Int32)]) (rest := []) ⟨hx, hb, hml, hown, hts⟩ (mX9_brings l dC dI cI cB cJ Q B I A (11 : Int32) (17 : Int32) (-2 : Int32) s.heap.size _ hc8) (cwV 3 hts gX9_changes_X9_brings rfl rfl rfl (by decide +kernel) ⟨Nat.le_of_ble_eq_true rfl, Nat.le_of_ble_eq_true rfl⟩) ⟨blindW, va_recv hK hP (ci := 6) (q0 := 0) rfl rfl, fun U hU hW => ⟨rfl, by rw [hU], by rw [hU]; exact hP, va_K.moved hW.alike hK, hD.weaken (fun _ _ _ _ => trivial)⟩⟩ rfl rfl hl.1 rfl (lv_room (Nat.le_of_ble_eq_true rfl)) dX9_changes_148 ⟨Nat.zero_le _, Nat.zero_le _⟩) hS (fun q _ h => hF12 q h) hF12 (fun r0 u t H locs ht hvm hw hB hz1 hk1 hS => ?_)
              cases hw
              obtain ⟨hP, hK9, hD⟩ := hB
              rw [ht] at hP
              have hP : va_P (dC, dI) vwCl (wM cI cB cJ Q B I9 A10) H := hP
              have hD : va_D AA (wM cI cB cJ Q B I9 A10) := hD.weaken (fun _ _ _ h => hF12 _ h)
              obtain ⟨z13, hf⟩ := of_ite_some hf
              exact W.zret (v := r11) hx hb hr (zn_of z13) (fun t ht hW => ⟨⟨r11, (I9, A10), rfl, Option.some.inj hf, by rw [ht]; exact hP, va_K.moved hW.alike hK, hD⟩, hS.F ht⟩) hS.2.2 dX9_changes_151
            · have hf := (if_pos c7).symm.trans hf
              refine lv_aload_n hx hb dX9_changes_128 rfl (lv_at hl 0 rfl) ?_
              refine lv_bipush (v := (9 : Int32)) hx hb dX9_changes_129 (by decide) ?_
              refine lv_bipush (v := (14 : Int32)) hx hb dX9_changes_131 (by decide) ?_
              refine lv_bipush (v := (-2 : Int32)) hx hb dX9_changes_133 (by decide) ?_
              obtain ⟨⟨r17, I15, A16⟩, hc14, hf⟩ := of_bind_some hf
              have hF18 := va_freeAll hD hS hA
              refine va_calli (va_runV (As := [.int (9 : Int32), .int (14 : Int32), .int (-2 : Int32)]) (rest := []) ⟨hx, hb, hml, hown, hts⟩ (mX9_brings l dC dI cI cB cJ Q B I A (9 : Int32) (14 : Int32) (-2 : Int32) s.heap.size _ hc14) (cwV 3 hts gX9_changes_X9_brings rfl rfl rfl (by decide +kernel) ⟨Nat.le_of_ble_eq_true rfl, Nat.le_of_ble_eq_true rfl⟩) ⟨blindW, va_recv hK hP (ci := 6) (q0 := 0) rfl rfl, fun U hU hW => ⟨rfl, by rw [hU], by rw [hU]; exact hP, va_K.moved hW.alike hK, hD.weaken (fun _ _ _ _ => trivial)⟩⟩ rfl rfl hl.1 rfl (lv_room (Nat.le_of_ble_eq_true rfl)) dX9_changes_135 ⟨Nat.zero_le _, Nat.zero_le _⟩) hS (fun q _ h => hF18 q h) hF18 (fun r0 u t H locs ht hvm hw hB hz1 hk1 hS => ?_)
              cases hw
              obtain ⟨hP, hK9, hD⟩ := hB
              rw [ht] at hP
              have hP : va_P (dC, dI) vwCl (wM cI cB cJ Q B I15 A16) H := hP
              have hD : va_D AA (wM cI cB cJ Q B I15 A16) := hD.weaken (fun _ _ _ h => hF18 _ h)
              refine lv_goto (tgt := 151) hx hb dX9_changes_138 (by decide) ?_
              obtain ⟨z19, hf⟩ := of_ite_some hf
              exact W.zret (v := r17) hx hb hr (zn_of z19) (fun t ht hW => ⟨⟨r17, (I15, A16), rfl, Option.some.inj hf, by rw [ht]; exact hP, va_K.moved hW.alike hK, hD⟩, hS.F ht⟩) hS.2.2 dX9_changes_151
        · have hf := (if_neg c4).symm.trans hf
          refine lv_iload_n hx hb dX9_changes_86 rfl (lv_at hl 1 rfl) ?_
          refine lv_bipush (v := (7 : Int32)) hx hb dX9_changes_87 (by decide) ?_
          refine lv_icmp_ne (tgt := 105) hx hb dX9_changes_89 (by decide) (fun c20 => ?_) (fun c20 => ?_)
          · have hf := (if_neg c20).symm.trans hf
            refine lv_aload_n hx hb dX9_changes_105 rfl (lv_at hl 0 rfl) ?_
            refine lv_bipush (v := (13 : Int32)) hx hb dX9_changes_106 (by decide) ?_
            refine lv_bipush (v := (20 : Int32)) hx hb dX9_changes_108 (by decide) ?_
            refine lv_bipush (v := (21 : Int32)) hx hb dX9_changes_110 (by decide) ?_
            obtain ⟨⟨r24, I22, A23⟩, hc21, hf⟩ := of_bind_some hf
            have hF25 := va_freeAll hD hS hA
            refine va_calli (va_runV (As := [.int (13 : Int32), .int (20 : Int32), .int (21 : Int32)]) (rest := []) ⟨hx, hb, hml, hown, hts⟩ (mX9_brings l dC dI cI cB cJ Q B I A (13 : Int32) (20 : Int32) (21 : Int32) s.heap.size _ hc21) (cwV 3 hts gX9_changes_X9_brings rfl rfl rfl (by decide +kernel) ⟨Nat.le_of_ble_eq_true rfl, Nat.le_of_ble_eq_true rfl⟩) ⟨blindW, va_recv hK hP (ci := 6) (q0 := 0) rfl rfl, fun U hU hW => ⟨rfl, by rw [hU], by rw [hU]; exact hP, va_K.moved hW.alike hK, hD.weaken (fun _ _ _ _ => trivial)⟩⟩ rfl rfl hl.1 rfl (lv_room (Nat.le_of_ble_eq_true rfl)) dX9_changes_112 ⟨Nat.zero_le _, Nat.zero_le _⟩) hS (fun q _ h => hF25 q h) hF25 (fun r0 u t H locs ht hvm hw hB hz1 hk1 hS => ?_)
            cases hw
            obtain ⟨hP, hK9, hD⟩ := hB
            rw [ht] at hP
            have hP : va_P (dC, dI) vwCl (wM cI cB cJ Q B I22 A23) H := hP
            have hD : va_D AA (wM cI cB cJ Q B I22 A23) := hD.weaken (fun _ _ _ h => hF25 _ h)
            obtain ⟨z26, hf⟩ := of_ite_some hf
            exact W.zret (v := r24) hx hb hr (zn_of z26) (fun t ht hW => ⟨⟨r24, (I22, A23), rfl, Option.some.inj hf, by rw [ht]; exact hP, va_K.moved hW.alike hK, hD⟩, hS.F ht⟩) hS.2.2 dX9_changes_115
          · have hf := (if_pos c20).symm.trans hf
            refine lv_aload_n hx hb dX9_changes_92 rfl (lv_at hl 0 rfl) ?_
            refine lv_bipush (v := (11 : Int32)) hx hb dX9_changes_93 (by decide) ?_
            refine lv_bipush (v := (18 : Int32)) hx hb dX9_changes_95 (by decide) ?_
            refine lv_bipush (v := (17 : Int32)) hx hb dX9_changes_97 (by decide) ?_
            obtain ⟨⟨r30, I28, A29⟩, hc27, hf⟩ := of_bind_some hf
            have hF31 := va_freeAll hD hS hA
            refine va_calli (va_runV (As := [.int (11 : Int32), .int (18 : Int32), .int (17 : Int32)]) (rest := []) ⟨hx, hb, hml, hown, hts⟩ (mX9_brings l dC dI cI cB cJ Q B I A (11 : Int32) (18 : Int32) (17 : Int32) s.heap.size _ hc27) (cwV 3 hts gX9_changes_X9_brings rfl rfl rfl (by decide +kernel) ⟨Nat.le_of_ble_eq_true rfl, Nat.le_of_ble_eq_true rfl⟩) ⟨blindW, va_recv hK hP (ci := 6) (q0 := 0) rfl rfl, fun U hU hW => ⟨rfl, by rw [hU], by rw [hU]; exact hP, va_K.moved hW.alike hK, hD.weaken (fun _ _ _ _ => trivial)⟩⟩ rfl rfl hl.1 rfl (lv_room (Nat.le_of_ble_eq_true rfl)) dX9_changes_99 ⟨Nat.zero_le _, Nat.zero_le _⟩) hS (fun q _ h => hF31 q h) hF31 (fun r0 u t H locs ht hvm hw hB hz1 hk1 hS => ?_)
            cases hw
            obtain ⟨hP, hK9, hD⟩ := hB
            rw [ht] at hP
            have hP : va_P (dC, dI) vwCl (wM cI cB cJ Q B I28 A29) H := hP
            have hD : va_D AA (wM cI cB cJ Q B I28 A29) := hD.weaken (fun _ _ _ h => hF31 _ h)
            refine lv_goto (tgt := 115) hx hb dX9_changes_102 (by decide) ?_
            obtain ⟨z32, hf⟩ := of_ite_some hf
            exact W.zret (v := r30) hx hb hr (zn_of z32) (fun t ht hW => ⟨⟨r30, (I28, A29), rfl, Option.some.inj hf, by rw [ht]; exact hP, va_K.moved hW.alike hK, hD⟩, hS.F ht⟩) hS.2.2 dX9_changes_115
      · have hf := (if_neg c3).symm.trans hf
        refine lv_aload_n hx hb dX9_changes_59 rfl (lv_at hl 0 rfl) ?_
        refine lv_bipush (v := (9 : Int32)) hx hb dX9_changes_60 (by decide) ?_
        refine lv_iload_n hx hb dX9_changes_62 rfl (lv_at hl 1 rfl) ?_
        refine lv_iconst (v := (5 : Int32)) hx hb dX9_changes_63 (by decide) ?_
        refine lv_icmp_ne (tgt := 72) hx hb dX9_changes_64 (by decide) (fun c33 => ?_) (fun c33 => ?_)
        · have hf := (if_neg c33).symm.trans hf
          refine lv_bipush (v := (15 : Int32)) hx hb dX9_changes_72 (by decide) ?_
          refine lv_bipush (v := (14 : Int32)) hx hb dX9_changes_74 (by decide) ?_
          obtain ⟨⟨r37, I35, A36⟩, hc34, hf⟩ := of_bind_some hf
          have hF38 := va_freeAll hD hS hA
          refine va_calli (va_runV (As := [.int (9 : Int32), .int (15 : Int32), .int (14 : Int32)]) (rest := []) ⟨hx, hb, hml, hown, hts⟩ (mX9_brings l dC dI cI cB cJ Q B I A (9 : Int32) (15 : Int32) (14 : Int32) s.heap.size _ hc34) (cwV 3 hts gX9_changes_X9_brings rfl rfl rfl (by decide +kernel) ⟨Nat.le_of_ble_eq_true rfl, Nat.le_of_ble_eq_true rfl⟩) ⟨blindW, va_recv hK hP (ci := 6) (q0 := 0) rfl rfl, fun U hU hW => ⟨rfl, by rw [hU], by rw [hU]; exact hP, va_K.moved hW.alike hK, hD.weaken (fun _ _ _ _ => trivial)⟩⟩ rfl rfl hl.1 rfl (lv_room (Nat.le_of_ble_eq_true rfl)) dX9_changes_76 ⟨Nat.zero_le _, Nat.zero_le _⟩) hS (fun q _ h => hF38 q h) hF38 (fun r0 u t H locs ht hvm hw hB hz1 hk1 hS => ?_)
          cases hw
          obtain ⟨hP, hK9, hD⟩ := hB
          rw [ht] at hP
          have hP : va_P (dC, dI) vwCl (wM cI cB cJ Q B I35 A36) H := hP
          have hD : va_D AA (wM cI cB cJ Q B I35 A36) := hD.weaken (fun _ _ _ h => hF38 _ h)
          obtain ⟨z39, hf⟩ := of_ite_some hf
          exact W.zret (v := r37) hx hb hr (zn_of z39) (fun t ht hW => ⟨⟨r37, (I35, A36), rfl, Option.some.inj hf, by rw [ht]; exact hP, va_K.moved hW.alike hK, hD⟩, hS.F ht⟩) hS.2.2 dX9_changes_79
        · have hf := (if_pos c33).symm.trans hf
          refine lv_bipush (v := (13 : Int32)) hx hb dX9_changes_67 (by decide) ?_
          refine lv_goto (tgt := 74) hx hb dX9_changes_69 (by decide) ?_
          refine lv_bipush (v := (14 : Int32)) hx hb dX9_changes_74 (by decide) ?_
          obtain ⟨⟨r43, I41, A42⟩, hc40, hf⟩ := of_bind_some hf
          have hF44 := va_freeAll hD hS hA
          refine va_calli (va_runV (As := [.int (9 : Int32), .int (13 : Int32), .int (14 : Int32)]) (rest := []) ⟨hx, hb, hml, hown, hts⟩ (mX9_brings l dC dI cI cB cJ Q B I A (9 : Int32) (13 : Int32) (14 : Int32) s.heap.size _ hc40) (cwV 3 hts gX9_changes_X9_brings rfl rfl rfl (by decide +kernel) ⟨Nat.le_of_ble_eq_true rfl, Nat.le_of_ble_eq_true rfl⟩) ⟨blindW, va_recv hK hP (ci := 6) (q0 := 0) rfl rfl, fun U hU hW => ⟨rfl, by rw [hU], by rw [hU]; exact hP, va_K.moved hW.alike hK, hD.weaken (fun _ _ _ _ => trivial)⟩⟩ rfl rfl hl.1 rfl (lv_room (Nat.le_of_ble_eq_true rfl)) dX9_changes_76 ⟨Nat.zero_le _, Nat.zero_le _⟩) hS (fun q _ h => hF44 q h) hF44 (fun r0 u t H locs ht hvm hw hB hz1 hk1 hS => ?_)
          cases hw
          obtain ⟨hP, hK9, hD⟩ := hB
          rw [ht] at hP
          have hP : va_P (dC, dI) vwCl (wM cI cB cJ Q B I41 A42) H := hP
          have hD : va_D AA (wM cI cB cJ Q B I41 A42) := hD.weaken (fun _ _ _ h => hF44 _ h)
          obtain ⟨z45, hf⟩ := of_ite_some hf
          exact W.zret (v := r43) hx hb hr (zn_of z45) (fun t ht hW => ⟨⟨r43, (I41, A42), rfl, Option.some.inj hf, by rw [ht]; exact hP, va_K.moved hW.alike hK, hD⟩, hS.F ht⟩) hS.2.2 dX9_changes_79
    · have hf := (if_neg c2).symm.trans hf
      refine lv_aload_n hx hb dX9_changes_34 rfl (lv_at hl 0 rfl) ?_
      refine lv_iconst (v := (5 : Int32)) hx hb dX9_changes_35 (by decide) ?_
      refine lv_iconst (v := (5 : Int32)) hx hb dX9_changes_36 (by decide) ?_
      refine lv_iload_n hx hb dX9_changes_37 rfl (lv_at hl 1 rfl) ?_
      refine lv_iconst (v := (3 : Int32)) hx hb dX9_changes_38 (by decide) ?_
      refine lv_icmp_ne (tgt := 47) hx hb dX9_changes_39 (by decide) (fun c46 => ?_) (fun c46 => ?_)
      · have hf := (if_neg c46).symm.trans hf
        refine lv_bipush (v := (8 : Int32)) hx hb dX9_changes_47 (by decide) ?_
        obtain ⟨⟨r50, I48, A49⟩, hc47, hf⟩ := of_bind_some hf
        have hF51 := va_freeAll hD hS hA
        refine va_calli (va_runV (As := [.int (5 : Int32), .int (5 : Int32), .int (8 : Int32)]) (rest := []) ⟨hx, hb, hml, hown, hts⟩ (mX9_becomes l dC dI cI cB cJ Q B I A (5 : Int32) (5 : Int32) (8 : Int32) s.heap.size _ hc47) (cwV 3 hts gX9_changes_X9_becomes rfl rfl rfl (by decide +kernel) ⟨Nat.le_of_ble_eq_true rfl, Nat.le_of_ble_eq_true rfl⟩) ⟨blindW, va_recv hK hP (ci := 6) (q0 := 0) rfl rfl, fun U hU hW => ⟨rfl, by rw [hU], by rw [hU]; exact hP, va_K.moved hW.alike hK, hD.weaken (fun _ _ _ _ => trivial)⟩⟩ rfl rfl hl.1 rfl (lv_room (Nat.le_of_ble_eq_true rfl)) dX9_changes_49 ⟨Nat.zero_le _, Nat.zero_le _⟩) hS (fun q _ h => hF51 q h) hF51 (fun r0 u t H locs ht hvm hw hB hz1 hk1 hS => ?_)
        cases hw
        obtain ⟨hP, hK9, hD⟩ := hB
        rw [ht] at hP
        have hP : va_P (dC, dI) vwCl (wM cI cB cJ Q B I48 A49) H := hP
        have hD : va_D AA (wM cI cB cJ Q B I48 A49) := hD.weaken (fun _ _ _ h => hF51 _ h)
        obtain ⟨z52, hf⟩ := of_ite_some hf
        exact W.zret (v := r50) hx hb hr (zn_of z52) (fun t ht hW => ⟨⟨r50, (I48, A49), rfl, Option.some.inj hf, by rw [ht]; exact hP, va_K.moved hW.alike hK, hD⟩, hS.F ht⟩) hS.2.2 dX9_changes_52
      · have hf := (if_pos c46).symm.trans hf
        refine lv_bipush (v := (6 : Int32)) hx hb dX9_changes_42 (by decide) ?_
        refine lv_goto (tgt := 49) hx hb dX9_changes_44 (by decide) ?_
        obtain ⟨⟨r56, I54, A55⟩, hc53, hf⟩ := of_bind_some hf
        have hF57 := va_freeAll hD hS hA
        refine va_calli (va_runV (As := [.int (5 : Int32), .int (5 : Int32), .int (6 : Int32)]) (rest := []) ⟨hx, hb, hml, hown, hts⟩ (mX9_becomes l dC dI cI cB cJ Q B I A (5 : Int32) (5 : Int32) (6 : Int32) s.heap.size _ hc53) (cwV 3 hts gX9_changes_X9_becomes rfl rfl rfl (by decide +kernel) ⟨Nat.le_of_ble_eq_true rfl, Nat.le_of_ble_eq_true rfl⟩) ⟨blindW, va_recv hK hP (ci := 6) (q0 := 0) rfl rfl, fun U hU hW => ⟨rfl, by rw [hU], by rw [hU]; exact hP, va_K.moved hW.alike hK, hD.weaken (fun _ _ _ _ => trivial)⟩⟩ rfl rfl hl.1 rfl (lv_room (Nat.le_of_ble_eq_true rfl)) dX9_changes_49 ⟨Nat.zero_le _, Nat.zero_le _⟩) hS (fun q _ h => hF57 q h) hF57 (fun r0 u t H locs ht hvm hw hB hz1 hk1 hS => ?_)
        cases hw
        obtain ⟨hP, hK9, hD⟩ := hB
        rw [ht] at hP
        have hP : va_P (dC, dI) vwCl (wM cI cB cJ Q B I54 A55) H := hP
        have hD : va_D AA (wM cI cB cJ Q B I54 A55) := hD.weaken (fun _ _ _ h => hF57 _ h)
        obtain ⟨z58, hf⟩ := of_ite_some hf
        exact W.zret (v := r56) hx hb hr (zn_of z58) (fun t ht hW => ⟨⟨r56, (I54, A55), rfl, Option.some.inj hf, by rw [ht]; exact hP, va_K.moved hW.alike hK, hD⟩, hS.F ht⟩) hS.2.2 dX9_changes_52
  · have hf := (if_neg c1).symm.trans hf
    refine lv_aload_n hx hb dX9_changes_5 rfl (lv_at hl 0 rfl) ?_
    refine lv_iconst (v := (3 : Int32)) hx hb dX9_changes_6 (by decide) ?_
    refine lv_iload_n hx hb dX9_changes_7 rfl (lv_at hl 1 rfl) ?_
    refine lv_if_ne (tgt := 15) hx hb dX9_changes_8 (by decide) (fun c59 => ?_) (fun c59 => ?_)
    · have hf := (if_neg c59).symm.trans hf
      refine lv_iconst (v := (4 : Int32)) hx hb dX9_changes_15 (by decide) ?_
      exact sg16  I A x1 (4 : Int32) (3 : Int32) s.heap [] ls hf hP hD hS (lv_sub hl [1] rfl)
    · have hf := (if_pos c59).symm.trans hf
      refine lv_iconst (v := (2 : Int32)) hx hb dX9_changes_11 (by decide) ?_
      refine lv_goto (tgt := 16) hx hb dX9_changes_12 (by decide) ?_
      exact sg16  I A x1 (2 : Int32) (3 : Int32) s.heap [] ls hf hP hD hS (lv_sub hl [1] rfl)
def fX9_sort_109 (B : Nat → Nat → Int64) (k2 : (Nat → Int32) → (Nat → Nat → Int32) → Int32 → Option ((Nat → Int32) × (Nat → Nat → Int32))) (I : Nat → Int32) (A : Nat → Nat → Int32) (v1 : Int32) (v2 : Int32) (v3 : Int32) (v4 : Int32) : Option ((Nat → Int32) × (Nat → Nat → Int32)) :=
  (if gd v4 16 then (if gd v4 16 then (k2 I (va_up (va_up A 24 (upd (A 24) v4.toNatClampNeg v2)) 25 (upd (A 25) v4.toNatClampNeg v3)) (v1 + (1 : Int32))) else none) else none)
def fX9_sort_71 (B : Nat → Nat → Int64) (k2 : (Nat → Int32) → (Nat → Nat → Int32) → Int32 → Option ((Nat → Int32) × (Nat → Nat → Int32))) (k27 : (Nat → Int32) → (Nat → Nat → Int32) → Int32 → Int32 → Int32 → Int32 → Option ((Nat → Int32) × (Nat → Nat → Int32))) (I : Nat → Int32) (A : Nat → Nat → Int32) (v1 : Int32) (v2 : Int32) (v3 : Int32) (v4 : Int32) : Option ((Nat → Int32) × (Nat → Nat → Int32)) :=
  (if gd (v4 - (1 : Int32)) 16 then (if gd v4 16 then (if gd (v4 - (1 : Int32)) 16 then (if gd v4 16 then (k27 I (va_up (va_up A 24 (upd (A 24) v4.toNatClampNeg ((A 24) (v4 - (1 : Int32)).toNatClampNeg))) 25 (upd (A 25) v4.toNatClampNeg ((A 25) (v4 - (1 : Int32)).toNatClampNeg))) v1 v2 v3 (v4 + (-1 : Int32))) else none) else none) else none) else none)
def fX9_sort_27B (B : Nat → Nat → Int64) (k2 : (Nat → Int32) → (Nat → Nat → Int32) → Int32 → Option ((Nat → Int32) × (Nat → Nat → Int32))) (k27 : (Nat → Int32) → (Nat → Nat → Int32) → Int32 → Int32 → Int32 → Int32 → Option ((Nat → Int32) × (Nat → Nat → Int32))) (I : Nat → Int32) (A : Nat → Nat → Int32) (v1 : Int32) (v2 : Int32) (v3 : Int32) (v4 : Int32) : Option ((Nat → Int32) × (Nat → Nat → Int32)) :=
  (if v4 ≤ 0 then (fX9_sort_109 B k2 I A v1 v2 v3 v4) else (if gd (v4 - (1 : Int32)) 16 then (if v2 < ((A 24) (v4 - (1 : Int32)).toNatClampNeg) then (fX9_sort_71 B k2 k27 I A v1 v2 v3 v4) else (if gd (v4 - (1 : Int32)) 16 then (if ((A 24) (v4 - (1 : Int32)).toNatClampNeg) = v2 then (if gd (v4 - (1 : Int32)) 16 then (if ((A 25) (v4 - (1 : Int32)).toNatClampNeg) ≤ v3 then (fX9_sort_109 B k2 I A v1 v2 v3 v4) else (fX9_sort_71 B k2 k27 I A v1 v2 v3 v4)) else none) else (fX9_sort_109 B k2 I A v1 v2 v3 v4)) else none)) else none))
def fX9_sort_27 (B : Nat → Nat → Int64) (k2 : (Nat → Int32) → (Nat → Nat → Int32) → Int32 → Option ((Nat → Int32) × (Nat → Nat → Int32))) : Nat → ((Nat → Int32) → (Nat → Nat → Int32) → Int32 → Int32 → Int32 → Int32 → Option ((Nat → Int32) × (Nat → Nat → Int32)))
  | 0 => fun _ _ _ _ _ _ => none
  | n + 1 => fX9_sort_27B B k2 (fX9_sort_27 B k2 n)
def fX9_sort_2B (B : Nat → Nat → Int64)  (k2 : (Nat → Int32) → (Nat → Nat → Int32) → Int32 → Option ((Nat → Int32) × (Nat → Nat → Int32))) (I : Nat → Int32) (A : Nat → Nat → Int32) (v1 : Int32) : Option ((Nat → Int32) × (Nat → Nat → Int32)) :=
  (if (I 26) ≤ v1 then (some (I, A)) else (if gd v1 16 then (if gd v1 16 then (fX9_sort_27 B k2 FU I A v1 ((A 24) v1.toNatClampNeg) ((A 25) v1.toNatClampNeg) v1) else none) else none))
def fX9_sort_2 (B : Nat → Nat → Int64)  : Nat → ((Nat → Int32) → (Nat → Nat → Int32) → Int32 → Option ((Nat → Int32) × (Nat → Nat → Int32)))
  | 0 => fun _ _ _ => none
  | n + 1 => fX9_sort_2B B  (fX9_sort_2 B  n)
def fX9_sort (B : Nat → Nat → Int64) (I : Nat → Int32) (A : Nat → Nat → Int32)  : Option ((Nat → Int32) × (Nat → Nat → Int32)) :=
  (fX9_sort_2 B  FU I A (1 : Int32))
set_option maxRecDepth 100000 in
set_option maxHeartbeats 4000000 in
theorem mX9_sort (l : Launch) (dC : Nat → ClassId) (dI : Nat → Nat → Nat) (cI cB cJ : ClassId) (Q : Nat → Nat) (B : Nat → Nat → Int64) (I : Nat → Int32) (A : Nat → Nat → Int32)  (sz : Nat) (z : (Nat → Int32) × (Nat → Nat → Int32)) (hf : fX9_sort B I A = some z) : Met l yX9_sort wsX9_sort ({ frames := 0, cells := 0, slots := 0, locals := 0 }) (va_Pc [.ref (Q 100)] (fun U => U.heap.size = sz ∧ va_P (dC, dI) vwCl (wM cI cB cJ Q B I A) U.heap ∧ va_K (dC, dI) vwCl (tM cI cB cJ) U ∧ va_D (fun _ => True) (wM cI cB cJ Q B I A))) (va_Qv (fun (u : (Nat → Int32) × (Nat → Nat → Int32)) => u = z) (atM dC dI cI cB cJ Q B (va_A (wM cI cB cJ Q B I A) sz)) (va_A (wM cI cB cJ Q B I A) sz)) 0 0 (va_A (wM cI cB cJ Q B I A) sz) := by
  refine Met.ofW (cc := cX9_sort) (maxL := 5) (ret := none) (by decide) rfl ?_
  intro p e s m args below meth c s₁ BL hml hv
  obtain ⟨rfl, hsz, hP, hK, hD0⟩ := hv
  have hx := BL.exec
  have hb := BL.bytes
  have hr := BL.returns
  have hts := atoms_spec (ws := wsX9_sort) BL.pre
  have hown : s.vm.findClass RX9 = some m.cls := findClass_of_methodNamed BL.named
  have hlocks := BL.notSynchronized
  have hinX9 : ∀ w ∈ u_ws RX9 TX9 36, w ∈ wsX9_sort := by decide +kernel
  have hk169 := hts (.fieldLink RX9 169 "LeadSheetsModel" "half" "[I") (by decide +kernel)
  have hk172 := hts (.fieldLink RX9 172 "LeadSheetsModel" "degree" "[I") (by decide +kernel)
  have hk212 := hts (.fieldLink RX9 212 "LeadSheetsModel" "many" "I") (by decide +kernel)
  subst hsz
  have hD := hD0.self (sz := s.heap.size)
  generalize hAe : va_A (wM cI cB cJ Q B I A) s.heap.size = AA at hD ⊢
  have hA : ∀ q : Nat, s.heap.size ≤ q → AA q := fun q h => by rw [← hAe]; exact Or.inr h
  have hS : va_S AA s.heap s.heap [] := va_S.rf
  have sg109 : ∀ (k2 : (Nat → Int32) → (Nat → Nat → Int32) → Int32 → Option ((Nat → Int32) × (Nat → Nat → Int32))), (∀ (I : Nat → Int32) (A : Nat → Nat → Int32) (v1 : Int32) (H : Heap) (locs : List Loc) (ls : Array Slot), k2 I A v1 = some z → va_P (dC, dI) vwCl (wM cI cB cJ Q B I A) H → va_D AA (wM cI cB cJ Q B I A) → va_S AA s.heap H locs → lv_has ls 5 [(0, .ref (Q 100)), (1, .int v1)] → W p l e (headSpec wsX9_sort ({ frames := 0, cells := 0, slots := 0, locals := 0 })).room s m (([.ref (Q 100)] : List Value).toArray) below meth c H locs 0 0 (MQ below (va_Qv (fun (u : (Nat → Int32) × (Nat → Nat → Int32)) => u = z) (atM dC dI cI cB cJ Q B AA) AA) (([.ref (Q 100)] : List Value).toArray) s 0 0 AA) (F0 m 2 ls [])) → ∀ (I : Nat → Int32) (A : Nat → Nat → Int32) (v1 : Int32) (v2 : Int32) (v3 : Int32) (v4 : Int32) (H : Heap) (locs : List Loc) (ls : Array Slot), fX9_sort_109 B k2 I A v1 v2 v3 v4 = some z → va_P (dC, dI) vwCl (wM cI cB cJ Q B I A) H → va_D AA (wM cI cB cJ Q B I A) → va_S AA s.heap H locs → lv_has ls 5 [(0, .ref (Q 100)), (1, .int v1), (2, .int v2), (3, .int v3), (4, .int v4)] → W p l e (headSpec wsX9_sort ({ frames := 0, cells := 0, slots := 0, locals := 0 })).room s m (([.ref (Q 100)] : List Value).toArray) below meth c H locs 0 0 (MQ below (va_Qv (fun (u : (Nat → Int32) × (Nat → Nat → Int32)) => u = z) (atM dC dI cI cB cJ Q B AA) AA) (([.ref (Q 100)] : List Value).toArray) s 0 0 AA) (F0 m 109 ls []) := by
    intro k2 ih2
    intro I A v1 v2 v3 v4 H locs ls hf hP hD hS hl
    unfold fX9_sort_109 at hf
    refine lv_aload_n hx hb dX9_sort_109 rfl (lv_at hl 0 rfl) ?_
    refine va_get (D := (dC, dI)) (ci := 6) (v := .ref (Q 24)) (C := RX9) (T := TX9) (N := 36) hx hb hts hinX9 hown hK hP 0 rfl rfl 24 (by decide) hk169 (fun _ h9 => h9) rfl dX9_sort_110 ?_
    refine lv_iload hx hb dX9_sort_113 (lv_at hl 4 rfl) ?_
    refine lv_iload_n hx hb dX9_sort_115 rfl (lv_at hl 2 rfl) ?_
    obtain ⟨g11, hf⟩ := of_ite_some hf
    refine va_iast hx hb hK hP hD hS 18 0 (n := 16) (f := (A 24)) rfl rfl g11 dX9_sort_116 (fun H locs hP hD hS => ?_)
    have hP : va_P (dC, dI) vwCl (wM cI cB cJ Q B I (va_up A 24 (upd (A 24) v4.toNatClampNeg v2))) H := Eq.mp (congrArg (fun w => va_P (dC, dI) vwCl w H) (wMA_24 cI cB cJ Q B I A (upd (A 24) v4.toNatClampNeg v2))) hP
    have hD : va_D AA (wM cI cB cJ Q B I (va_up A 24 (upd (A 24) v4.toNatClampNeg v2))) := Eq.mp (congrArg (fun w => va_D AA w) (wMA_24 cI cB cJ Q B I A (upd (A 24) v4.toNatClampNeg v2))) hD
    refine lv_aload_n hx hb dX9_sort_117 rfl (lv_at hl 0 rfl) ?_
    refine va_get (D := (dC, dI)) (ci := 6) (v := .ref (Q 25)) (C := RX9) (T := TX9) (N := 36) hx hb hts hinX9 hown hK hP 0 rfl rfl 25 (by decide) hk172 (fun _ h9 => h9) rfl dX9_sort_118 ?_
    refine lv_iload hx hb dX9_sort_121 (lv_at hl 4 rfl) ?_
    refine lv_iload_n hx hb dX9_sort_123 rfl (lv_at hl 3 rfl) ?_
    obtain ⟨g12, hf⟩ := of_ite_some hf
    refine va_iast hx hb hK hP hD hS 19 0 (n := 16) (f := (A 25)) rfl rfl g12 dX9_sort_124 (fun H locs hP hD hS => ?_)
    have hP : va_P (dC, dI) vwCl (wM cI cB cJ Q B I (va_up (va_up A 24 (upd (A 24) v4.toNatClampNeg v2)) 25 (upd (A 25) v4.toNatClampNeg v3))) H := Eq.mp (congrArg (fun w => va_P (dC, dI) vwCl w H) (wMA_25 cI cB cJ Q B I (va_up A 24 (upd (A 24) v4.toNatClampNeg v2)) (upd (A 25) v4.toNatClampNeg v3))) hP
    have hD : va_D AA (wM cI cB cJ Q B I (va_up (va_up A 24 (upd (A 24) v4.toNatClampNeg v2)) 25 (upd (A 25) v4.toNatClampNeg v3))) := Eq.mp (congrArg (fun w => va_D AA w) (wMA_25 cI cB cJ Q B I (va_up A 24 (upd (A 24) v4.toNatClampNeg v2)) (upd (A 25) v4.toNatClampNeg v3))) hD
    refine lv_iinc (v := (v1 + (1 : Int32))) (lv' := [(1, .int (v1 + (1 : Int32))), (0, .ref (Q 100)), (2, .int v2), (3, .int v3), (4, .int v4)]) hx hb dX9_sort_125 hl (k := 1) rfl rfl (by decide) rfl (fun ls hl => ?_)
    refine lv_goto (tgt := 2) hx hb dX9_sort_128 (by decide) ?_
    exact ih2 I (va_up (va_up A 24 (upd (A 24) v4.toNatClampNeg v2)) 25 (upd (A 25) v4.toNatClampNeg v3)) (v1 + (1 : Int32)) H locs ls hf hP hD hS (lv_sub hl [1, 0] rfl)
  have sg71 : ∀ (k2 : (Nat → Int32) → (Nat → Nat → Int32) → Int32 → Option ((Nat → Int32) × (Nat → Nat → Int32))), (∀ (I : Nat → Int32) (A : Nat → Nat → Int32) (v1 : Int32) (H : Heap) (locs : List Loc) (ls : Array Slot), k2 I A v1 = some z → va_P (dC, dI) vwCl (wM cI cB cJ Q B I A) H → va_D AA (wM cI cB cJ Q B I A) → va_S AA s.heap H locs → lv_has ls 5 [(0, .ref (Q 100)), (1, .int v1)] → W p l e (headSpec wsX9_sort ({ frames := 0, cells := 0, slots := 0, locals := 0 })).room s m (([.ref (Q 100)] : List Value).toArray) below meth c H locs 0 0 (MQ below (va_Qv (fun (u : (Nat → Int32) × (Nat → Nat → Int32)) => u = z) (atM dC dI cI cB cJ Q B AA) AA) (([.ref (Q 100)] : List Value).toArray) s 0 0 AA) (F0 m 2 ls [])) → ∀ (k27 : (Nat → Int32) → (Nat → Nat → Int32) → Int32 → Int32 → Int32 → Int32 → Option ((Nat → Int32) × (Nat → Nat → Int32))), (∀ (I : Nat → Int32) (A : Nat → Nat → Int32) (v1 : Int32) (v2 : Int32) (v3 : Int32) (v4 : Int32) (H : Heap) (locs : List Loc) (ls : Array Slot), k27 I A v1 v2 v3 v4 = some z → va_P (dC, dI) vwCl (wM cI cB cJ Q B I A) H → va_D AA (wM cI cB cJ Q B I A) → va_S AA s.heap H locs → lv_has ls 5 [(0, .ref (Q 100)), (1, .int v1), (2, .int v2), (3, .int v3), (4, .int v4)] → W p l e (headSpec wsX9_sort ({ frames := 0, cells := 0, slots := 0, locals := 0 })).room s m (([.ref (Q 100)] : List Value).toArray) below meth c H locs 0 0 (MQ below (va_Qv (fun (u : (Nat → Int32) × (Nat → Nat → Int32)) => u = z) (atM dC dI cI cB cJ Q B AA) AA) (([.ref (Q 100)] : List Value).toArray) s 0 0 AA) (F0 m 27 ls [])) → ∀ (I : Nat → Int32) (A : Nat → Nat → Int32) (v1 : Int32) (v2 : Int32) (v3 : Int32) (v4 : Int32) (H : Heap) (locs : List Loc) (ls : Array Slot), fX9_sort_71 B k2 k27 I A v1 v2 v3 v4 = some z → va_P (dC, dI) vwCl (wM cI cB cJ Q B I A) H → va_D AA (wM cI cB cJ Q B I A) → va_S AA s.heap H locs → lv_has ls 5 [(0, .ref (Q 100)), (1, .int v1), (2, .int v2), (3, .int v3), (4, .int v4)] → W p l e (headSpec wsX9_sort ({ frames := 0, cells := 0, slots := 0, locals := 0 })).room s m (([.ref (Q 100)] : List Value).toArray) below meth c H locs 0 0 (MQ below (va_Qv (fun (u : (Nat → Int32) × (Nat → Nat → Int32)) => u = z) (atM dC dI cI cB cJ Q B AA) AA) (([.ref (Q 100)] : List Value).toArray) s 0 0 AA) (F0 m 71 ls []) := by
    intro k2 ih2 k27 ih27
    intro I A v1 v2 v3 v4 H locs ls hf hP hD hS hl
    unfold fX9_sort_71 at hf
    refine lv_aload_n hx hb dX9_sort_71 rfl (lv_at hl 0 rfl) ?_
    refine va_get (D := (dC, dI)) (ci := 6) (v := .ref (Q 24)) (C := RX9) (T := TX9) (N := 36) hx hb hts hinX9 hown hK hP 0 rfl rfl 24 (by decide) hk169 (fun _ h9 => h9) rfl dX9_sort_72 ?_
    refine lv_iload hx hb dX9_sort_75 (lv_at hl 4 rfl) ?_
    refine lv_aload_n hx hb dX9_sort_77 rfl (lv_at hl 0 rfl) ?_
    refine va_get (D := (dC, dI)) (ci := 6) (v := .ref (Q 24)) (C := RX9) (T := TX9) (N := 36) hx hb hts hinX9 hown hK hP 0 rfl rfl 24 (by decide) hk169 (fun _ h9 => h9) rfl dX9_sort_78 ?_
    refine lv_iload hx hb dX9_sort_81 (lv_at hl 4 rfl) ?_
    refine lv_iconst (v := (1 : Int32)) hx hb dX9_sort_83 (by decide) ?_
    refine lv_isub hx hb dX9_sort_84 ?_
    obtain ⟨g13, hf⟩ := of_ite_some hf
    refine va_iald hx hb hK hP 18 0 (n := 16) (f := (A 24)) rfl rfl g13 dX9_sort_85 ?_
    obtain ⟨g14, hf⟩ := of_ite_some hf
    refine va_iast hx hb hK hP hD hS 18 0 (n := 16) (f := (A 24)) rfl rfl g14 dX9_sort_86 (fun H locs hP hD hS => ?_)
    have hP : va_P (dC, dI) vwCl (wM cI cB cJ Q B I (va_up A 24 (upd (A 24) v4.toNatClampNeg ((A 24) (v4 - (1 : Int32)).toNatClampNeg)))) H := Eq.mp (congrArg (fun w => va_P (dC, dI) vwCl w H) (wMA_24 cI cB cJ Q B I A (upd (A 24) v4.toNatClampNeg ((A 24) (v4 - (1 : Int32)).toNatClampNeg)))) hP
    have hD : va_D AA (wM cI cB cJ Q B I (va_up A 24 (upd (A 24) v4.toNatClampNeg ((A 24) (v4 - (1 : Int32)).toNatClampNeg)))) := Eq.mp (congrArg (fun w => va_D AA w) (wMA_24 cI cB cJ Q B I A (upd (A 24) v4.toNatClampNeg ((A 24) (v4 - (1 : Int32)).toNatClampNeg)))) hD
    refine lv_aload_n hx hb dX9_sort_87 rfl (lv_at hl 0 rfl) ?_
    refine va_get (D := (dC, dI)) (ci := 6) (v := .ref (Q 25)) (C := RX9) (T := TX9) (N := 36) hx hb hts hinX9 hown hK hP 0 rfl rfl 25 (by decide) hk172 (fun _ h9 => h9) rfl dX9_sort_88 ?_
    refine lv_iload hx hb dX9_sort_91 (lv_at hl 4 rfl) ?_
    refine lv_aload_n hx hb dX9_sort_93 rfl (lv_at hl 0 rfl) ?_
    refine va_get (D := (dC, dI)) (ci := 6) (v := .ref (Q 25)) (C := RX9) (T := TX9) (N := 36) hx hb hts hinX9 hown hK hP 0 rfl rfl 25 (by decide) hk172 (fun _ h9 => h9) rfl dX9_sort_94 ?_
    refine lv_iload hx hb dX9_sort_97 (lv_at hl 4 rfl) ?_
    refine lv_iconst (v := (1 : Int32)) hx hb dX9_sort_99 (by decide) ?_
    refine lv_isub hx hb dX9_sort_100 ?_
    obtain ⟨g15, hf⟩ := of_ite_some hf
    refine va_iald hx hb hK hP 19 0 (n := 16) (f := (A 25)) rfl rfl g15 dX9_sort_101 ?_
    obtain ⟨g16, hf⟩ := of_ite_some hf
    refine va_iast hx hb hK hP hD hS 19 0 (n := 16) (f := (A 25)) rfl rfl g16 dX9_sort_102 (fun H locs hP hD hS => ?_)
    have hP : va_P (dC, dI) vwCl (wM cI cB cJ Q B I (va_up (va_up A 24 (upd (A 24) v4.toNatClampNeg ((A 24) (v4 - (1 : Int32)).toNatClampNeg))) 25 (upd (A 25) v4.toNatClampNeg ((A 25) (v4 - (1 : Int32)).toNatClampNeg)))) H := Eq.mp (congrArg (fun w => va_P (dC, dI) vwCl w H) (wMA_25 cI cB cJ Q B I (va_up A 24 (upd (A 24) v4.toNatClampNeg ((A 24) (v4 - (1 : Int32)).toNatClampNeg))) (upd (A 25) v4.toNatClampNeg ((A 25) (v4 - (1 : Int32)).toNatClampNeg)))) hP
    have hD : va_D AA (wM cI cB cJ Q B I (va_up (va_up A 24 (upd (A 24) v4.toNatClampNeg ((A 24) (v4 - (1 : Int32)).toNatClampNeg))) 25 (upd (A 25) v4.toNatClampNeg ((A 25) (v4 - (1 : Int32)).toNatClampNeg)))) := Eq.mp (congrArg (fun w => va_D AA w) (wMA_25 cI cB cJ Q B I (va_up A 24 (upd (A 24) v4.toNatClampNeg ((A 24) (v4 - (1 : Int32)).toNatClampNeg))) (upd (A 25) v4.toNatClampNeg ((A 25) (v4 - (1 : Int32)).toNatClampNeg)))) hD
    refine lv_iinc (v := (v4 + (-1 : Int32))) (lv' := [(4, .int (v4 + (-1 : Int32))), (0, .ref (Q 100)), (1, .int v1), (2, .int v2), (3, .int v3)]) hx hb dX9_sort_103 hl (k := 4) rfl rfl (by decide) rfl (fun ls hl => ?_)
    refine lv_goto (tgt := 27) hx hb dX9_sort_106 (by decide) ?_
    exact ih27 I (va_up (va_up A 24 (upd (A 24) v4.toNatClampNeg ((A 24) (v4 - (1 : Int32)).toNatClampNeg))) 25 (upd (A 25) v4.toNatClampNeg ((A 25) (v4 - (1 : Int32)).toNatClampNeg))) v1 v2 v3 (v4 + (-1 : Int32)) H locs ls hf hP hD hS (lv_sub hl [1, 2, 3, 4, 0] rfl)
  have sg27 : ∀ (k2 : (Nat → Int32) → (Nat → Nat → Int32) → Int32 → Option ((Nat → Int32) × (Nat → Nat → Int32))), (∀ (I : Nat → Int32) (A : Nat → Nat → Int32) (v1 : Int32) (H : Heap) (locs : List Loc) (ls : Array Slot), k2 I A v1 = some z → va_P (dC, dI) vwCl (wM cI cB cJ Q B I A) H → va_D AA (wM cI cB cJ Q B I A) → va_S AA s.heap H locs → lv_has ls 5 [(0, .ref (Q 100)), (1, .int v1)] → W p l e (headSpec wsX9_sort ({ frames := 0, cells := 0, slots := 0, locals := 0 })).room s m (([.ref (Q 100)] : List Value).toArray) below meth c H locs 0 0 (MQ below (va_Qv (fun (u : (Nat → Int32) × (Nat → Nat → Int32)) => u = z) (atM dC dI cI cB cJ Q B AA) AA) (([.ref (Q 100)] : List Value).toArray) s 0 0 AA) (F0 m 2 ls [])) → ∀ n : Nat, ∀ (I : Nat → Int32) (A : Nat → Nat → Int32) (v1 : Int32) (v2 : Int32) (v3 : Int32) (v4 : Int32) (H : Heap) (locs : List Loc) (ls : Array Slot), fX9_sort_27 B k2 n I A v1 v2 v3 v4 = some z → va_P (dC, dI) vwCl (wM cI cB cJ Q B I A) H → va_D AA (wM cI cB cJ Q B I A) → va_S AA s.heap H locs → lv_has ls 5 [(0, .ref (Q 100)), (1, .int v1), (2, .int v2), (3, .int v3), (4, .int v4)] → W p l e (headSpec wsX9_sort ({ frames := 0, cells := 0, slots := 0, locals := 0 })).room s m (([.ref (Q 100)] : List Value).toArray) below meth c H locs 0 0 (MQ below (va_Qv (fun (u : (Nat → Int32) × (Nat → Nat → Int32)) => u = z) (atM dC dI cI cB cJ Q B AA) AA) (([.ref (Q 100)] : List Value).toArray) s 0 0 AA) (F0 m 27 ls []) := by
    intro k2 ih2
    intro n
    induction n with
    | zero => intro I A v1 v2 v3 v4 H locs ls hf hP hD hS hl; exact of_none hf
    | succ n ih27 =>
      intro I A v1 v2 v3 v4 H locs ls hf hP hD hS hl
      change fX9_sort_27B B k2 (fX9_sort_27 B k2 n) I A v1 v2 v3 v4 = _ at hf
      unfold fX9_sort_27B at hf
      refine lv_iload hx hb dX9_sort_27 (lv_at hl 4 rfl) ?_
      refine lv_if_le (tgt := 109) hx hb dX9_sort_29 (by decide) (fun c4 => ?_) (fun c4 => ?_)
      · have hf := (if_pos c4).symm.trans hf
        exact sg109 _ ih2 I A v1 v2 v3 v4 H locs ls hf hP hD hS (lv_sub hl [0, 1, 2, 3, 4] rfl)
      · have hf := (if_neg c4).symm.trans hf
        refine lv_aload_n hx hb dX9_sort_32 rfl (lv_at hl 0 rfl) ?_
        refine va_get (D := (dC, dI)) (ci := 6) (v := .ref (Q 24)) (C := RX9) (T := TX9) (N := 36) hx hb hts hinX9 hown hK hP 0 rfl rfl 24 (by decide) hk169 (fun _ h9 => h9) rfl dX9_sort_33 ?_
        refine lv_iload hx hb dX9_sort_36 (lv_at hl 4 rfl) ?_
        refine lv_iconst (v := (1 : Int32)) hx hb dX9_sort_38 (by decide) ?_
        refine lv_isub hx hb dX9_sort_39 ?_
        obtain ⟨g5, hf⟩ := of_ite_some hf
        refine va_iald hx hb hK hP 18 0 (n := 16) (f := (A 24)) rfl rfl g5 dX9_sort_40 ?_
        refine lv_iload_n hx hb dX9_sort_41 rfl (lv_at hl 2 rfl) ?_
        refine lv_icmp_gt (tgt := 71) hx hb dX9_sort_42 (by decide) (fun c6 => ?_) (fun c6 => ?_)
        · have hf := (if_pos c6).symm.trans hf
          exact sg71 _ ih2 _ ih27 I A v1 v2 v3 v4 H locs ls hf hP hD hS (lv_sub hl [0, 1, 2, 3, 4] rfl)
        · have hf := (if_neg c6).symm.trans hf
          refine lv_aload_n hx hb dX9_sort_45 rfl (lv_at hl 0 rfl) ?_
          refine va_get (D := (dC, dI)) (ci := 6) (v := .ref (Q 24)) (C := RX9) (T := TX9) (N := 36) hx hb hts hinX9 hown hK hP 0 rfl rfl 24 (by decide) hk169 (fun _ h9 => h9) rfl dX9_sort_46 ?_
          refine lv_iload hx hb dX9_sort_49 (lv_at hl 4 rfl) ?_
          refine lv_iconst (v := (1 : Int32)) hx hb dX9_sort_51 (by decide) ?_
          refine lv_isub hx hb dX9_sort_52 ?_
          obtain ⟨g7, hf⟩ := of_ite_some hf
          refine va_iald hx hb hK hP 18 0 (n := 16) (f := (A 24)) rfl rfl g7 dX9_sort_53 ?_
          refine lv_iload_n hx hb dX9_sort_54 rfl (lv_at hl 2 rfl) ?_
          refine lv_icmp_ne (tgt := 109) hx hb dX9_sort_55 (by decide) (fun c8 => ?_) (fun c8 => ?_)
          · have hf := (if_neg c8).symm.trans hf
            exact sg109 _ ih2 I A v1 v2 v3 v4 H locs ls hf hP hD hS (lv_sub hl [0, 1, 2, 3, 4] rfl)
          · have hf := (if_pos c8).symm.trans hf
            refine lv_aload_n hx hb dX9_sort_58 rfl (lv_at hl 0 rfl) ?_
            refine va_get (D := (dC, dI)) (ci := 6) (v := .ref (Q 25)) (C := RX9) (T := TX9) (N := 36) hx hb hts hinX9 hown hK hP 0 rfl rfl 25 (by decide) hk172 (fun _ h9 => h9) rfl dX9_sort_59 ?_
            refine lv_iload hx hb dX9_sort_62 (lv_at hl 4 rfl) ?_
            refine lv_iconst (v := (1 : Int32)) hx hb dX9_sort_64 (by decide) ?_
            refine lv_isub hx hb dX9_sort_65 ?_
            obtain ⟨g9, hf⟩ := of_ite_some hf
            refine va_iald hx hb hK hP 19 0 (n := 16) (f := (A 25)) rfl rfl g9 dX9_sort_66 ?_
            refine lv_iload_n hx hb dX9_sort_67 rfl (lv_at hl 3 rfl) ?_
            refine lv_icmp_le (tgt := 109) hx hb dX9_sort_68 (by decide) (fun c10 => ?_) (fun c10 => ?_)
            · have hf := (if_pos c10).symm.trans hf
              exact sg109 _ ih2 I A v1 v2 v3 v4 H locs ls hf hP hD hS (lv_sub hl [0, 1, 2, 3, 4] rfl)
            · have hf := (if_neg c10).symm.trans hf
              exact sg71 _ ih2 _ ih27 I A v1 v2 v3 v4 H locs ls hf hP hD hS (lv_sub hl [0, 1, 2, 3, 4] rfl)
  have sg2 : ∀ n : Nat, ∀ (I : Nat → Int32) (A : Nat → Nat → Int32) (v1 : Int32) (H : Heap) (locs : List Loc) (ls : Array Slot), fX9_sort_2 B  n I A v1 = some z → va_P (dC, dI) vwCl (wM cI cB cJ Q B I A) H → va_D AA (wM cI cB cJ Q B I A) → va_S AA s.heap H locs → lv_has ls 5 [(0, .ref (Q 100)), (1, .int v1)] → W p l e (headSpec wsX9_sort ({ frames := 0, cells := 0, slots := 0, locals := 0 })).room s m (([.ref (Q 100)] : List Value).toArray) below meth c H locs 0 0 (MQ below (va_Qv (fun (u : (Nat → Int32) × (Nat → Nat → Int32)) => u = z) (atM dC dI cI cB cJ Q B AA) AA) (([.ref (Q 100)] : List Value).toArray) s 0 0 AA) (F0 m 2 ls []) := by
    intro n
    induction n with
    | zero => intro I A v1 H locs ls hf hP hD hS hl; exact of_none hf
    | succ n ih2 =>
      intro I A v1 H locs ls hf hP hD hS hl
      change fX9_sort_2B B  (fX9_sort_2 B  n) I A v1 = _ at hf
      unfold fX9_sort_2B at hf
      refine lv_iload_n hx hb dX9_sort_2 rfl (lv_at hl 1 rfl) ?_
      refine lv_aload_n hx hb dX9_sort_3 rfl (lv_at hl 0 rfl) ?_
      refine va_get (D := (dC, dI)) (ci := 6) (v := .int (I 26)) (C := RX9) (T := TX9) (N := 36) hx hb hts hinX9 hown hK hP 0 rfl rfl 26 (by decide) hk212 (fun _ h9 => h9) rfl dX9_sort_4 ?_
      refine lv_icmp_ge (tgt := 131) hx hb dX9_sort_7 (by decide) (fun c1 => ?_) (fun c1 => ?_)
      · have hf := (if_pos c1).symm.trans hf
        exact W.vret hx hb hr (fun t ht hW => ⟨⟨(I, A), rfl, Option.some.inj hf, by rw [ht]; exact hP, va_K.moved hW.alike hK, hD⟩, hS.F ht⟩) hS.2.2 dX9_sort_131
      · have hf := (if_neg c1).symm.trans hf
        refine lv_aload_n hx hb dX9_sort_10 rfl (lv_at hl 0 rfl) ?_
        refine va_get (D := (dC, dI)) (ci := 6) (v := .ref (Q 24)) (C := RX9) (T := TX9) (N := 36) hx hb hts hinX9 hown hK hP 0 rfl rfl 24 (by decide) hk169 (fun _ h9 => h9) rfl dX9_sort_11 ?_
        refine lv_iload_n hx hb dX9_sort_14 rfl (lv_at hl 1 rfl) ?_
        obtain ⟨g2, hf⟩ := of_ite_some hf
        refine va_iald hx hb hK hP 18 0 (n := 16) (f := (A 24)) rfl rfl g2 dX9_sort_15 ?_
        refine lv_istore_n (lv' := [(2, .int ((A 24) v1.toNatClampNeg)), (0, .ref (Q 100)), (1, .int v1)]) hx hb dX9_sort_16 rfl hl (by decide) rfl (fun ls hl => ?_)
        refine lv_aload_n hx hb dX9_sort_17 rfl (lv_at hl 1 rfl) ?_
        refine va_get (D := (dC, dI)) (ci := 6) (v := .ref (Q 25)) (C := RX9) (T := TX9) (N := 36) hx hb hts hinX9 hown hK hP 0 rfl rfl 25 (by decide) hk172 (fun _ h9 => h9) rfl dX9_sort_18 ?_
        refine lv_iload_n hx hb dX9_sort_21 rfl (lv_at hl 2 rfl) ?_
        obtain ⟨g3, hf⟩ := of_ite_some hf
        refine va_iald hx hb hK hP 19 0 (n := 16) (f := (A 25)) rfl rfl g3 dX9_sort_22 ?_
        refine lv_istore_n (lv' := [(3, .int ((A 25) v1.toNatClampNeg)), (2, .int ((A 24) v1.toNatClampNeg)), (0, .ref (Q 100)), (1, .int v1)]) hx hb dX9_sort_23 rfl hl (by decide) rfl (fun ls hl => ?_)
        refine lv_iload_n hx hb dX9_sort_24 rfl (lv_at hl 3 rfl) ?_
        refine lv_istore (lv' := [(4, .int v1), (3, .int ((A 25) v1.toNatClampNeg)), (2, .int ((A 24) v1.toNatClampNeg)), (0, .ref (Q 100)), (1, .int v1)]) hx hb dX9_sort_25 hl (by decide) rfl (fun ls hl => ?_)
        exact sg27 _ ih2 FU I A v1 ((A 24) v1.toNatClampNeg) ((A 25) v1.toNatClampNeg) v1 H locs ls hf hP hD hS (lv_sub hl [3, 4, 2, 1, 0] rfl)
  have hl := lv_entry ([.ref (Q 100)]) (n := 5) (Nat.le_of_ble_eq_true rfl)
  rw [lg_entry_eq]
  generalize (lg_sl ([.ref (Q 100)]) ++ List.replicate (5 - (lg_sl ([.ref (Q 100)])).length) Slot.unset).toArray = ls at hl ⊢
  have hl : lv_has ls 5 [(0, .ref (Q 100))] := hl
  unfold fX9_sort at hf
  refine lv_iconst (v := (1 : Int32)) hx hb dX9_sort_0 (by decide) ?_
  refine lv_istore_n (lv' := [(1, .int (1 : Int32)), (0, .ref (Q 100))]) hx hb dX9_sort_1 rfl hl (by decide) rfl (fun ls hl => ?_)
  exact sg2  FU I A (1 : Int32) s.heap [] ls hf hP hD hS (lv_sub hl [1, 0] rfl)
def fX9_note_161 (B : Nat → Nat → Int64) (k92 : (Nat → Int32) → (Nat → Nat → Int32) → Int32 → Option (Int32 × (Nat → Int32) × (Nat → Nat → Int32))) (I : Nat → Int32) (A : Nat → Nat → Int32) (v2 : Int32) (t0 : Int32) (t1 : Int32) : Option (Int32 × (Nat → Int32) × (Nat → Nat → Int32)) :=
  (k92 (upd (upd I 28 (t1 + t0)) 23 ((I 23) + (1 : Int32))) A v2)
def fX9_note_132 (B : Nat → Nat → Int64) (k92 : (Nat → Int32) → (Nat → Nat → Int32) → Int32 → Option (Int32 × (Nat → Int32) × (Nat → Nat → Int32))) (I : Nat → Int32) (A : Nat → Nat → Int32) (v2 : Int32) : Option (Int32 × (Nat → Int32) × (Nat → Nat → Int32)) :=
  (if gd (I 23) 64 then (if ((A 21) (I 23).toNatClampNeg) = v2 then (if v2 = (35 : Int32) then (fX9_note_161 B k92 I A v2 (1 : Int32) (I 28)) else (fX9_note_161 B k92 I A v2 (-1 : Int32) (I 28))) else (some ((1 : Int32), (I, A)))) else none)
def fX9_note_92B (B : Nat → Nat → Int64)  (k92 : (Nat → Int32) → (Nat → Nat → Int32) → Int32 → Option (Int32 × (Nat → Int32) × (Nat → Nat → Int32))) (I : Nat → Int32) (A : Nat → Nat → Int32) (v2 : Int32) : Option (Int32 × (Nat → Int32) × (Nat → Nat → Int32)) :=
  (if (I 28) ≤ (-2 : Int32) then (some ((1 : Int32), (I, A))) else (if (2 : Int32) ≤ (I 28) then (some ((1 : Int32), (I, A))) else (if (I 22) ≤ (I 23) then (some ((1 : Int32), (I, A))) else (if v2 = (35 : Int32) then (fX9_note_132 B k92 I A v2) else (if v2 = (98 : Int32) then (fX9_note_132 B k92 I A v2) else (some ((1 : Int32), (I, A))))))))
def fX9_note_92 (B : Nat → Nat → Int64)  : Nat → ((Nat → Int32) → (Nat → Nat → Int32) → Int32 → Option (Int32 × (Nat → Int32) × (Nat → Nat → Int32)))
  | 0 => fun _ _ _ => none
  | n + 1 => fX9_note_92B B  (fX9_note_92 B  n)
def fX9_note_24 (B : Nat → Nat → Int64)  (I : Nat → Int32) (A : Nat → Nat → Int32) (t0 : Int32) : Option (Int32 × (Nat → Int32) × (Nat → Nat → Int32)) :=
  (if (fX9_isIn t0 (65 : Int32) (71 : Int32)) = 0 then (some ((0 : Int32), (I, A))) else (if (I 22) ≤ ((I 23) + (1 : Int32)) then (fX9_note_92 B  FU (upd (upd (upd I 27 (jrem ((t0 - (67 : Int32)) + (7 : Int32)) (7 : Int32))) 23 ((I 23) + (1 : Int32))) 28 (0 : Int32)) A (0 : Int32)) else (if gd ((I 23) + (1 : Int32)) 64 then (fX9_note_92 B  FU (upd (upd (upd I 27 (jrem ((t0 - (67 : Int32)) + (7 : Int32)) (7 : Int32))) 23 ((I 23) + (1 : Int32))) 28 (0 : Int32)) A ((A 21) ((I 23) + (1 : Int32)).toNatClampNeg)) else none)))
def fX9_note (B : Nat → Nat → Int64) (I : Nat → Int32) (A : Nat → Nat → Int32)  : Option (Int32 × (Nat → Int32) × (Nat → Nat → Int32)) :=
  (if (I 22) ≤ (I 23) then (fX9_note_24 B  I A (0 : Int32)) else (if gd (I 23) 64 then (fX9_note_24 B  I A ((A 21) (I 23).toNatClampNeg)) else none))
set_option maxRecDepth 100000 in
set_option maxHeartbeats 4000000 in
theorem mX9_note (l : Launch) (dC : Nat → ClassId) (dI : Nat → Nat → Nat) (cI cB cJ : ClassId) (Q : Nat → Nat) (B : Nat → Nat → Int64) (I : Nat → Int32) (A : Nat → Nat → Int32)  (sz : Nat) (z : Int32 × (Nat → Int32) × (Nat → Nat → Int32)) (hf : fX9_note B I A = some z) : Met l yX9_note wsX9_note ({ frames := 1, cells := 0, slots := 0, locals := 22 }) (va_Pc [.ref (Q 100)] (fun U => U.heap.size = sz ∧ va_P (dC, dI) vwCl (wM cI cB cJ Q B I A) U.heap ∧ va_K (dC, dI) vwCl (tM cI cB cJ) U ∧ va_D (fun _ => True) (wM cI cB cJ Q B I A))) (va_Qi (fun (r : Int32) (u : (Nat → Int32) × (Nat → Nat → Int32)) => (r, u) = z) (atM dC dI cI cB cJ Q B (va_A (wM cI cB cJ Q B I A) sz)) (va_A (wM cI cB cJ Q B I A) sz)) 0 0 (va_A (wM cI cB cJ Q B I A) sz) := by
  refine Met.ofW (cc := cX9_note) (maxL := 3) (ret := (some .boolean)) (by decide) rfl ?_
  intro p e s m args below meth c s₁ BL hml hv
  obtain ⟨rfl, hsz, hP, hK, hD0⟩ := hv
  have hx := BL.exec
  have hb := BL.bytes
  have hr := BL.returns
  have hts := atoms_spec (ws := wsX9_note) BL.pre
  have hown : s.vm.findClass RX9 = some m.cls := findClass_of_methodNamed BL.named
  have hlocks := BL.notSynchronized
  have hinX9 : ∀ w ∈ u_ws RX9 TX9 36, w ∈ wsX9_note := by decide +kernel
  have hk166 := hts (.fieldLink RX9 166 "LeadSheetsModel" "text" "[B") (by decide +kernel)
  have hk194 := hts (.fieldLink RX9 194 "LeadSheetsModel" "textSize" "I") (by decide +kernel)
  have hk202 := hts (.fieldLink RX9 202 "LeadSheetsModel" "p" "I") (by decide +kernel)
  have hk255 := hts (.fieldLink RX9 255 "LeadSheetsModel" "letter" "I") (by decide +kernel)
  have hk258 := hts (.fieldLink RX9 258 "LeadSheetsModel" "signs" "I") (by decide +kernel)
  subst hsz
  have hD := hD0.self (sz := s.heap.size)
  generalize hAe : va_A (wM cI cB cJ Q B I A) s.heap.size = AA at hD ⊢
  have hA : ∀ q : Nat, s.heap.size ≤ q → AA q := fun q h => by rw [← hAe]; exact Or.inr h
  have hS : va_S AA s.heap s.heap [] := va_S.rf
  have sg161 : ∀ (k92 : (Nat → Int32) → (Nat → Nat → Int32) → Int32 → Option (Int32 × (Nat → Int32) × (Nat → Nat → Int32))), (∀ (I : Nat → Int32) (A : Nat → Nat → Int32) (v2 : Int32) (H : Heap) (locs : List Loc) (ls : Array Slot), k92 I A v2 = some z → va_P (dC, dI) vwCl (wM cI cB cJ Q B I A) H → va_D AA (wM cI cB cJ Q B I A) → va_S AA s.heap H locs → lv_has ls 3 [(0, .ref (Q 100)), (2, .int v2)] → W p l e (headSpec wsX9_note ({ frames := 1, cells := 0, slots := 0, locals := 22 })).room s m (([.ref (Q 100)] : List Value).toArray) below meth c H locs 0 0 (MQ below (va_Qi (fun (r : Int32) (u : (Nat → Int32) × (Nat → Nat → Int32)) => (r, u) = z) (atM dC dI cI cB cJ Q B AA) AA) (([.ref (Q 100)] : List Value).toArray) s 0 0 AA) (F0 m 92 ls [])) → ∀ (I : Nat → Int32) (A : Nat → Nat → Int32) (v2 : Int32) (t0 : Int32) (t1 : Int32) (H : Heap) (locs : List Loc) (ls : Array Slot), fX9_note_161 B k92 I A v2 t0 t1 = some z → va_P (dC, dI) vwCl (wM cI cB cJ Q B I A) H → va_D AA (wM cI cB cJ Q B I A) → va_S AA s.heap H locs → lv_has ls 3 [(0, .ref (Q 100)), (2, .int v2)] → W p l e (headSpec wsX9_note ({ frames := 1, cells := 0, slots := 0, locals := 22 })).room s m (([.ref (Q 100)] : List Value).toArray) below meth c H locs 0 0 (MQ below (va_Qi (fun (r : Int32) (u : (Nat → Int32) × (Nat → Nat → Int32)) => (r, u) = z) (atM dC dI cI cB cJ Q B AA) AA) (([.ref (Q 100)] : List Value).toArray) s 0 0 AA) (F0 m 161 ls [.int t0, .int t1, .ref (Q 100)]) := by
    intro k92 ih92
    intro I A v2 t0 t1 H locs ls hf hP hD hS hl
    unfold fX9_note_161 at hf
    refine lv_iadd hx hb dX9_note_161 ?_
    refine va_put (D := (dC, dI)) (ci := 6) (v := .int (t1 + t0)) (ty := .int) (C := RX9) (T := TX9) (N := 36) hx hb hts hinX9 tyX9 tyX9_ok nmX9 hown hK hP hD hS 0 (fs := (oM Q I)) rfl rfl 28 (by decide) hk258 (fun _ h9 => h9) rfl (by decide +kernel) rfl rfl (Nat.le_of_ble_eq_true rfl) dX9_note_162 (fun H locs hP hD hS => ?_)
    have hP : va_P (dC, dI) vwCl (wM cI cB cJ Q B (upd I 28 (t1 + t0)) A) H := Eq.mp (congrArg (fun w => va_P (dC, dI) vwCl w H) (wMI_28 cI cB cJ Q B I A (t1 + t0))) hP
    have hD : va_D AA (wM cI cB cJ Q B (upd I 28 (t1 + t0)) A) := Eq.mp (congrArg (fun w => va_D AA w) (wMI_28 cI cB cJ Q B I A (t1 + t0))) hD
    refine lv_aload_n hx hb dX9_note_165 rfl (lv_at hl 0 rfl) ?_
    refine lv_dup hx hb dX9_note_166 rfl ?_
    refine va_get (D := (dC, dI)) (ci := 6) (v := .int (I 23)) (C := RX9) (T := TX9) (N := 36) hx hb hts hinX9 hown hK hP 0 rfl rfl 23 (by decide) hk202 (fun _ h9 => h9) rfl dX9_note_167 ?_
    refine lv_iconst (v := (1 : Int32)) hx hb dX9_note_170 (by decide) ?_
    refine lv_iadd hx hb dX9_note_171 ?_
    refine va_put (D := (dC, dI)) (ci := 6) (v := .int ((I 23) + (1 : Int32))) (ty := .int) (C := RX9) (T := TX9) (N := 36) hx hb hts hinX9 tyX9 tyX9_ok nmX9 hown hK hP hD hS 0 (fs := (oM Q (upd I 28 (t1 + t0)))) rfl rfl 23 (by decide) hk202 (fun _ h9 => h9) rfl (by decide +kernel) rfl rfl (Nat.le_of_ble_eq_true rfl) dX9_note_172 (fun H locs hP hD hS => ?_)
    have hP : va_P (dC, dI) vwCl (wM cI cB cJ Q B (upd (upd I 28 (t1 + t0)) 23 ((I 23) + (1 : Int32))) A) H := Eq.mp (congrArg (fun w => va_P (dC, dI) vwCl w H) (wMI_23 cI cB cJ Q B (upd I 28 (t1 + t0)) A ((I 23) + (1 : Int32)))) hP
    have hD : va_D AA (wM cI cB cJ Q B (upd (upd I 28 (t1 + t0)) 23 ((I 23) + (1 : Int32))) A) := Eq.mp (congrArg (fun w => va_D AA w) (wMI_23 cI cB cJ Q B (upd I 28 (t1 + t0)) A ((I 23) + (1 : Int32)))) hD
    refine lv_goto (tgt := 92) hx hb dX9_note_175 (by decide) ?_
    exact ih92 (upd (upd I 28 (t1 + t0)) 23 ((I 23) + (1 : Int32))) A v2 H locs ls hf hP hD hS (lv_sub hl [0, 1] rfl)
  have sg132 : ∀ (k92 : (Nat → Int32) → (Nat → Nat → Int32) → Int32 → Option (Int32 × (Nat → Int32) × (Nat → Nat → Int32))), (∀ (I : Nat → Int32) (A : Nat → Nat → Int32) (v2 : Int32) (H : Heap) (locs : List Loc) (ls : Array Slot), k92 I A v2 = some z → va_P (dC, dI) vwCl (wM cI cB cJ Q B I A) H → va_D AA (wM cI cB cJ Q B I A) → va_S AA s.heap H locs → lv_has ls 3 [(0, .ref (Q 100)), (2, .int v2)] → W p l e (headSpec wsX9_note ({ frames := 1, cells := 0, slots := 0, locals := 22 })).room s m (([.ref (Q 100)] : List Value).toArray) below meth c H locs 0 0 (MQ below (va_Qi (fun (r : Int32) (u : (Nat → Int32) × (Nat → Nat → Int32)) => (r, u) = z) (atM dC dI cI cB cJ Q B AA) AA) (([.ref (Q 100)] : List Value).toArray) s 0 0 AA) (F0 m 92 ls [])) → ∀ (I : Nat → Int32) (A : Nat → Nat → Int32) (v2 : Int32) (H : Heap) (locs : List Loc) (ls : Array Slot), fX9_note_132 B k92 I A v2 = some z → va_P (dC, dI) vwCl (wM cI cB cJ Q B I A) H → va_D AA (wM cI cB cJ Q B I A) → va_S AA s.heap H locs → lv_has ls 3 [(0, .ref (Q 100)), (2, .int v2)] → W p l e (headSpec wsX9_note ({ frames := 1, cells := 0, slots := 0, locals := 22 })).room s m (([.ref (Q 100)] : List Value).toArray) below meth c H locs 0 0 (MQ below (va_Qi (fun (r : Int32) (u : (Nat → Int32) × (Nat → Nat → Int32)) => (r, u) = z) (atM dC dI cI cB cJ Q B AA) AA) (([.ref (Q 100)] : List Value).toArray) s 0 0 AA) (F0 m 132 ls []) := by
    intro k92 ih92
    intro I A v2 H locs ls hf hP hD hS hl
    unfold fX9_note_132 at hf
    refine lv_aload_n hx hb dX9_note_132 rfl (lv_at hl 0 rfl) ?_
    refine va_get (D := (dC, dI)) (ci := 6) (v := .ref (Q 21)) (C := RX9) (T := TX9) (N := 36) hx hb hts hinX9 hown hK hP 0 rfl rfl 21 (by decide) hk166 (fun _ h9 => h9) rfl dX9_note_133 ?_
    refine lv_aload_n hx hb dX9_note_136 rfl (lv_at hl 0 rfl) ?_
    refine va_get (D := (dC, dI)) (ci := 6) (v := .int (I 23)) (C := RX9) (T := TX9) (N := 36) hx hb hts hinX9 hown hK hP 0 rfl rfl 23 (by decide) hk202 (fun _ h9 => h9) rfl dX9_note_137 ?_
    obtain ⟨g11, hf⟩ := of_ite_some hf
    refine va_bald hx hb hK hP 17 1 (n := 64) (f := (A 21)) rfl rfl g11 dX9_note_140 ?_
    refine lv_iload_n hx hb dX9_note_141 rfl (lv_at hl 1 rfl) ?_
    refine lv_icmp_ne (tgt := 178) hx hb dX9_note_142 (by decide) (fun c12 => ?_) (fun c12 => ?_)
    · have hf := (if_neg c12).symm.trans hf
      refine lv_iconst (v := (1 : Int32)) hx hb dX9_note_178 (by decide) ?_
      exact W.zret (v := (1 : Int32)) hx hb hr rfl (fun t ht hW => ⟨⟨(1 : Int32), (I, A), rfl, Option.some.inj hf, by rw [ht]; exact hP, va_K.moved hW.alike hK, hD⟩, hS.F ht⟩) hS.2.2 dX9_note_179
    · have hf := (if_pos c12).symm.trans hf
      refine lv_aload_n hx hb dX9_note_145 rfl (lv_at hl 0 rfl) ?_
      refine lv_dup hx hb dX9_note_146 rfl ?_
      refine va_get (D := (dC, dI)) (ci := 6) (v := .int (I 28)) (C := RX9) (T := TX9) (N := 36) hx hb hts hinX9 hown hK hP 0 rfl rfl 28 (by decide) hk258 (fun _ h9 => h9) rfl dX9_note_147 ?_
      refine lv_iload_n hx hb dX9_note_150 rfl (lv_at hl 1 rfl) ?_
      refine lv_bipush (v := (35 : Int32)) hx hb dX9_note_151 (by decide) ?_
      refine lv_icmp_ne (tgt := 160) hx hb dX9_note_153 (by decide) (fun c13 => ?_) (fun c13 => ?_)
      · have hf := (if_neg c13).symm.trans hf
        refine lv_iconst (v := (-1 : Int32)) hx hb dX9_note_160 (by decide) ?_
        exact sg161 _ ih92 I A v2 (-1 : Int32) (I 28) H locs ls hf hP hD hS (lv_sub hl [0, 1] rfl)
      · have hf := (if_pos c13).symm.trans hf
        refine lv_iconst (v := (1 : Int32)) hx hb dX9_note_156 (by decide) ?_
        refine lv_goto (tgt := 161) hx hb dX9_note_157 (by decide) ?_
        exact sg161 _ ih92 I A v2 (1 : Int32) (I 28) H locs ls hf hP hD hS (lv_sub hl [0, 1] rfl)
  have sg92 : ∀ n : Nat, ∀ (I : Nat → Int32) (A : Nat → Nat → Int32) (v2 : Int32) (H : Heap) (locs : List Loc) (ls : Array Slot), fX9_note_92 B  n I A v2 = some z → va_P (dC, dI) vwCl (wM cI cB cJ Q B I A) H → va_D AA (wM cI cB cJ Q B I A) → va_S AA s.heap H locs → lv_has ls 3 [(0, .ref (Q 100)), (2, .int v2)] → W p l e (headSpec wsX9_note ({ frames := 1, cells := 0, slots := 0, locals := 22 })).room s m (([.ref (Q 100)] : List Value).toArray) below meth c H locs 0 0 (MQ below (va_Qi (fun (r : Int32) (u : (Nat → Int32) × (Nat → Nat → Int32)) => (r, u) = z) (atM dC dI cI cB cJ Q B AA) AA) (([.ref (Q 100)] : List Value).toArray) s 0 0 AA) (F0 m 92 ls []) := by
    intro n
    induction n with
    | zero => intro I A v2 H locs ls hf hP hD hS hl; exact of_none hf
    | succ n ih92 =>
      intro I A v2 H locs ls hf hP hD hS hl
      change fX9_note_92B B  (fX9_note_92 B  n) I A v2 = _ at hf
      unfold fX9_note_92B at hf
      refine lv_aload_n hx hb dX9_note_92 rfl (lv_at hl 0 rfl) ?_
      refine va_get (D := (dC, dI)) (ci := 6) (v := .int (I 28)) (C := RX9) (T := TX9) (N := 36) hx hb hts hinX9 hown hK hP 0 rfl rfl 28 (by decide) hk258 (fun _ h9 => h9) rfl dX9_note_93 ?_
      refine lv_bipush (v := (-2 : Int32)) hx hb dX9_note_96 (by decide) ?_
      refine lv_icmp_le (tgt := 178) hx hb dX9_note_98 (by decide) (fun c6 => ?_) (fun c6 => ?_)
      · have hf := (if_pos c6).symm.trans hf
        refine lv_iconst (v := (1 : Int32)) hx hb dX9_note_178 (by decide) ?_
        exact W.zret (v := (1 : Int32)) hx hb hr rfl (fun t ht hW => ⟨⟨(1 : Int32), (I, A), rfl, Option.some.inj hf, by rw [ht]; exact hP, va_K.moved hW.alike hK, hD⟩, hS.F ht⟩) hS.2.2 dX9_note_179
      · have hf := (if_neg c6).symm.trans hf
        refine lv_aload_n hx hb dX9_note_101 rfl (lv_at hl 0 rfl) ?_
        refine va_get (D := (dC, dI)) (ci := 6) (v := .int (I 28)) (C := RX9) (T := TX9) (N := 36) hx hb hts hinX9 hown hK hP 0 rfl rfl 28 (by decide) hk258 (fun _ h9 => h9) rfl dX9_note_102 ?_
        refine lv_iconst (v := (2 : Int32)) hx hb dX9_note_105 (by decide) ?_
        refine lv_icmp_ge (tgt := 178) hx hb dX9_note_106 (by decide) (fun c7 => ?_) (fun c7 => ?_)
        · have hf := (if_pos c7).symm.trans hf
          refine lv_iconst (v := (1 : Int32)) hx hb dX9_note_178 (by decide) ?_
          exact W.zret (v := (1 : Int32)) hx hb hr rfl (fun t ht hW => ⟨⟨(1 : Int32), (I, A), rfl, Option.some.inj hf, by rw [ht]; exact hP, va_K.moved hW.alike hK, hD⟩, hS.F ht⟩) hS.2.2 dX9_note_179
        · have hf := (if_neg c7).symm.trans hf
          refine lv_aload_n hx hb dX9_note_109 rfl (lv_at hl 0 rfl) ?_
          refine va_get (D := (dC, dI)) (ci := 6) (v := .int (I 23)) (C := RX9) (T := TX9) (N := 36) hx hb hts hinX9 hown hK hP 0 rfl rfl 23 (by decide) hk202 (fun _ h9 => h9) rfl dX9_note_110 ?_
          refine lv_aload_n hx hb dX9_note_113 rfl (lv_at hl 0 rfl) ?_
          refine va_get (D := (dC, dI)) (ci := 6) (v := .int (I 22)) (C := RX9) (T := TX9) (N := 36) hx hb hts hinX9 hown hK hP 0 rfl rfl 22 (by decide) hk194 (fun _ h9 => h9) rfl dX9_note_114 ?_
          refine lv_icmp_ge (tgt := 178) hx hb dX9_note_117 (by decide) (fun c8 => ?_) (fun c8 => ?_)
          · have hf := (if_pos c8).symm.trans hf
            refine lv_iconst (v := (1 : Int32)) hx hb dX9_note_178 (by decide) ?_
            exact W.zret (v := (1 : Int32)) hx hb hr rfl (fun t ht hW => ⟨⟨(1 : Int32), (I, A), rfl, Option.some.inj hf, by rw [ht]; exact hP, va_K.moved hW.alike hK, hD⟩, hS.F ht⟩) hS.2.2 dX9_note_179
          · have hf := (if_neg c8).symm.trans hf
            refine lv_iload_n hx hb dX9_note_120 rfl (lv_at hl 1 rfl) ?_
            refine lv_bipush (v := (35 : Int32)) hx hb dX9_note_121 (by decide) ?_
            refine lv_icmp_eq (tgt := 132) hx hb dX9_note_123 (by decide) (fun c9 => ?_) (fun c9 => ?_)
            · have hf := (if_pos c9).symm.trans hf
              exact sg132 _ ih92 I A v2 H locs ls hf hP hD hS (lv_sub hl [0, 1] rfl)
            · have hf := (if_neg c9).symm.trans hf
              refine lv_iload_n hx hb dX9_note_126 rfl (lv_at hl 1 rfl) ?_
              refine lv_bipush (v := (98 : Int32)) hx hb dX9_note_127 (by decide) ?_
              refine lv_icmp_ne (tgt := 178) hx hb dX9_note_129 (by decide) (fun c10 => ?_) (fun c10 => ?_)
              · have hf := (if_neg c10).symm.trans hf
                refine lv_iconst (v := (1 : Int32)) hx hb dX9_note_178 (by decide) ?_
                exact W.zret (v := (1 : Int32)) hx hb hr rfl (fun t ht hW => ⟨⟨(1 : Int32), (I, A), rfl, Option.some.inj hf, by rw [ht]; exact hP, va_K.moved hW.alike hK, hD⟩, hS.F ht⟩) hS.2.2 dX9_note_179
              · have hf := (if_pos c10).symm.trans hf
                exact sg132 _ ih92 I A v2 H locs ls hf hP hD hS (lv_sub hl [0, 1] rfl)
  have sg24 : ∀ (I : Nat → Int32) (A : Nat → Nat → Int32) (t0 : Int32) (H : Heap) (locs : List Loc) (ls : Array Slot), fX9_note_24 B  I A t0 = some z → va_P (dC, dI) vwCl (wM cI cB cJ Q B I A) H → va_D AA (wM cI cB cJ Q B I A) → va_S AA s.heap H locs → lv_has ls 3 [(0, .ref (Q 100))] → W p l e (headSpec wsX9_note ({ frames := 1, cells := 0, slots := 0, locals := 22 })).room s m (([.ref (Q 100)] : List Value).toArray) below meth c H locs 0 0 (MQ below (va_Qi (fun (r : Int32) (u : (Nat → Int32) × (Nat → Nat → Int32)) => (r, u) = z) (atM dC dI cI cB cJ Q B AA) AA) (([.ref (Q 100)] : List Value).toArray) s 0 0 AA) (F0 m 24 ls [.int t0]) := by
    intro I A t0 H locs ls hf hP hD hS hl
    unfold fX9_note_24 at hf
    refine lv_istore_n (lv' := [(1, .int t0), (0, .ref (Q 100))]) hx hb dX9_note_24 rfl hl (by decide) rfl (fun ls hl => ?_)
    refine lv_iload_n hx hb dX9_note_25 rfl (lv_at hl 0 rfl) ?_
    refine lv_bipush (v := (65 : Int32)) hx hb dX9_note_26 (by decide) ?_
    refine lv_bipush (v := (71 : Int32)) hx hb dX9_note_28 (by decide) ?_
    refine W.callR (r := (fX9_isIn t0 (65 : Int32) (71 : Int32))) (W.runS (As := [.int t0, .int (65 : Int32), .int (71 : Int32)]) (rest := []) ⟨hx, hb, hml, hown, hts⟩ (mX9_isIn l t0 (65 : Int32) (71 : Int32) (fX9_isIn t0 (65 : Int32) (71 : Int32)) rfl) (va_cwS 3 hts gX9_note_X9_isIn rfl rfl rfl (by decide +kernel) ⟨Nat.le_of_ble_eq_true rfl, Nat.le_of_ble_eq_true rfl⟩) ⟨fun _ _ _ _ q => q, fun U hU hW => ⟨rfl, trivial⟩⟩ rfl rfl hl.1 rfl (lv_room (Nat.le_of_ble_eq_true rfl)) dX9_note_30 ⟨Nat.zero_le _, Nat.zero_le _⟩) ?_
    refine W.eq (g2 := F0 m 33 ls [.int (fX9_isIn t0 (65 : Int32) (71 : Int32))]) rfl ?_
    refine lv_if_ne (tgt := 38) hx hb dX9_note_33 (by decide) (fun c3 => ?_) (fun c3 => ?_)
    · have hf := (if_neg c3).symm.trans hf
      refine lv_aload_n hx hb dX9_note_38 rfl (lv_at hl 1 rfl) ?_
      refine lv_iload_n hx hb dX9_note_39 rfl (lv_at hl 0 rfl) ?_
      refine lv_bipush (v := (67 : Int32)) hx hb dX9_note_40 (by decide) ?_
      refine lv_isub hx hb dX9_note_42 ?_
      refine lv_bipush (v := (7 : Int32)) hx hb dX9_note_43 (by decide) ?_
      refine lv_iadd hx hb dX9_note_45 ?_
      refine lv_bipush (v := (7 : Int32)) hx hb dX9_note_46 (by decide) ?_
      refine lv_irem hx hb dX9_note_48 (by decide) ?_
      refine W.eq (g2 := F0 m 49 ls [.int (jrem ((t0 - (67 : Int32)) + (7 : Int32)) (7 : Int32)), .ref (Q 100)]) rfl ?_
      refine va_put (D := (dC, dI)) (ci := 6) (v := .int (jrem ((t0 - (67 : Int32)) + (7 : Int32)) (7 : Int32))) (ty := .int) (C := RX9) (T := TX9) (N := 36) hx hb hts hinX9 tyX9 tyX9_ok nmX9 hown hK hP hD hS 0 (fs := (oM Q I)) rfl rfl 27 (by decide) hk255 (fun _ h9 => h9) rfl (by decide +kernel) rfl rfl (Nat.le_of_ble_eq_true rfl) dX9_note_49 (fun H locs hP hD hS => ?_)
      have hP : va_P (dC, dI) vwCl (wM cI cB cJ Q B (upd I 27 (jrem ((t0 - (67 : Int32)) + (7 : Int32)) (7 : Int32))) A) H := Eq.mp (congrArg (fun w => va_P (dC, dI) vwCl w H) (wMI_27 cI cB cJ Q B I A (jrem ((t0 - (67 : Int32)) + (7 : Int32)) (7 : Int32)))) hP
      have hD : va_D AA (wM cI cB cJ Q B (upd I 27 (jrem ((t0 - (67 : Int32)) + (7 : Int32)) (7 : Int32))) A) := Eq.mp (congrArg (fun w => va_D AA w) (wMI_27 cI cB cJ Q B I A (jrem ((t0 - (67 : Int32)) + (7 : Int32)) (7 : Int32)))) hD
      refine lv_aload_n hx hb dX9_note_52 rfl (lv_at hl 1 rfl) ?_
      refine lv_dup hx hb dX9_note_53 rfl ?_
      refine va_get (D := (dC, dI)) (ci := 6) (v := .int (I 23)) (C := RX9) (T := TX9) (N := 36) hx hb hts hinX9 hown hK hP 0 rfl rfl 23 (by decide) hk202 (fun _ h9 => h9) rfl dX9_note_54 ?_
      refine lv_iconst (v := (1 : Int32)) hx hb dX9_note_57 (by decide) ?_
      refine lv_iadd hx hb dX9_note_58 ?_
      refine va_put (D := (dC, dI)) (ci := 6) (v := .int ((I 23) + (1 : Int32))) (ty := .int) (C := RX9) (T := TX9) (N := 36) hx hb hts hinX9 tyX9 tyX9_ok nmX9 hown hK hP hD hS 0 (fs := (oM Q (upd I 27 (jrem ((t0 - (67 : Int32)) + (7 : Int32)) (7 : Int32))))) rfl rfl 23 (by decide) hk202 (fun _ h9 => h9) rfl (by decide +kernel) rfl rfl (Nat.le_of_ble_eq_true rfl) dX9_note_59 (fun H locs hP hD hS => ?_)
      have hP : va_P (dC, dI) vwCl (wM cI cB cJ Q B (upd (upd I 27 (jrem ((t0 - (67 : Int32)) + (7 : Int32)) (7 : Int32))) 23 ((I 23) + (1 : Int32))) A) H := Eq.mp (congrArg (fun w => va_P (dC, dI) vwCl w H) (wMI_23 cI cB cJ Q B (upd I 27 (jrem ((t0 - (67 : Int32)) + (7 : Int32)) (7 : Int32))) A ((I 23) + (1 : Int32)))) hP
      have hD : va_D AA (wM cI cB cJ Q B (upd (upd I 27 (jrem ((t0 - (67 : Int32)) + (7 : Int32)) (7 : Int32))) 23 ((I 23) + (1 : Int32))) A) := Eq.mp (congrArg (fun w => va_D AA w) (wMI_23 cI cB cJ Q B (upd I 27 (jrem ((t0 - (67 : Int32)) + (7 : Int32)) (7 : Int32))) A ((I 23) + (1 : Int32)))) hD
      refine lv_aload_n hx hb dX9_note_62 rfl (lv_at hl 1 rfl) ?_
      refine lv_iconst (v := (0 : Int32)) hx hb dX9_note_63 (by decide) ?_
      refine va_put (D := (dC, dI)) (ci := 6) (v := .int (0 : Int32)) (ty := .int) (C := RX9) (T := TX9) (N := 36) hx hb hts hinX9 tyX9 tyX9_ok nmX9 hown hK hP hD hS 0 (fs := (oM Q (upd (upd I 27 (jrem ((t0 - (67 : Int32)) + (7 : Int32)) (7 : Int32))) 23 ((I 23) + (1 : Int32))))) rfl rfl 28 (by decide) hk258 (fun _ h9 => h9) rfl (by decide +kernel) rfl rfl (Nat.le_of_ble_eq_true rfl) dX9_note_64 (fun H locs hP hD hS => ?_)
      have hP : va_P (dC, dI) vwCl (wM cI cB cJ Q B (upd (upd (upd I 27 (jrem ((t0 - (67 : Int32)) + (7 : Int32)) (7 : Int32))) 23 ((I 23) + (1 : Int32))) 28 (0 : Int32)) A) H := Eq.mp (congrArg (fun w => va_P (dC, dI) vwCl w H) (wMI_28 cI cB cJ Q B (upd (upd I 27 (jrem ((t0 - (67 : Int32)) + (7 : Int32)) (7 : Int32))) 23 ((I 23) + (1 : Int32))) A (0 : Int32))) hP
      have hD : va_D AA (wM cI cB cJ Q B (upd (upd (upd I 27 (jrem ((t0 - (67 : Int32)) + (7 : Int32)) (7 : Int32))) 23 ((I 23) + (1 : Int32))) 28 (0 : Int32)) A) := Eq.mp (congrArg (fun w => va_D AA w) (wMI_28 cI cB cJ Q B (upd (upd I 27 (jrem ((t0 - (67 : Int32)) + (7 : Int32)) (7 : Int32))) 23 ((I 23) + (1 : Int32))) A (0 : Int32))) hD
      refine lv_aload_n hx hb dX9_note_67 rfl (lv_at hl 1 rfl) ?_
      refine va_get (D := (dC, dI)) (ci := 6) (v := .int ((I 23) + (1 : Int32))) (C := RX9) (T := TX9) (N := 36) hx hb hts hinX9 hown hK hP 0 rfl rfl 23 (by decide) hk202 (fun _ h9 => h9) rfl dX9_note_68 ?_
      refine lv_aload_n hx hb dX9_note_71 rfl (lv_at hl 1 rfl) ?_
      refine va_get (D := (dC, dI)) (ci := 6) (v := .int (I 22)) (C := RX9) (T := TX9) (N := 36) hx hb hts hinX9 hown hK hP 0 rfl rfl 22 (by decide) hk194 (fun _ h9 => h9) rfl dX9_note_72 ?_
      refine lv_icmp_ge (tgt := 90) hx hb dX9_note_75 (by decide) (fun c4 => ?_) (fun c4 => ?_)
      · have hf := (if_pos c4).symm.trans hf
        refine lv_iconst (v := (0 : Int32)) hx hb dX9_note_90 (by decide) ?_
        refine lv_istore_n (lv' := [(2, .int (0 : Int32)), (1, .int t0), (0, .ref (Q 100))]) hx hb dX9_note_91 rfl hl (by decide) rfl (fun ls hl => ?_)
        exact sg92  FU (upd (upd (upd I 27 (jrem ((t0 - (67 : Int32)) + (7 : Int32)) (7 : Int32))) 23 ((I 23) + (1 : Int32))) 28 (0 : Int32)) A (0 : Int32) H locs ls hf hP hD hS (lv_sub hl [2, 0] rfl)
      · have hf := (if_neg c4).symm.trans hf
        refine lv_aload_n hx hb dX9_note_78 rfl (lv_at hl 1 rfl) ?_
        refine va_get (D := (dC, dI)) (ci := 6) (v := .ref (Q 21)) (C := RX9) (T := TX9) (N := 36) hx hb hts hinX9 hown hK hP 0 rfl rfl 21 (by decide) hk166 (fun _ h9 => h9) rfl dX9_note_79 ?_
        refine lv_aload_n hx hb dX9_note_82 rfl (lv_at hl 1 rfl) ?_
        refine va_get (D := (dC, dI)) (ci := 6) (v := .int ((I 23) + (1 : Int32))) (C := RX9) (T := TX9) (N := 36) hx hb hts hinX9 hown hK hP 0 rfl rfl 23 (by decide) hk202 (fun _ h9 => h9) rfl dX9_note_83 ?_
        obtain ⟨g5, hf⟩ := of_ite_some hf
        refine va_bald hx hb hK hP 17 1 (n := 64) (f := (A 21)) rfl rfl g5 dX9_note_86 ?_
        refine lv_goto (tgt := 91) hx hb dX9_note_87 (by decide) ?_
        refine lv_istore_n (lv' := [(2, .int ((A 21) ((I 23) + (1 : Int32)).toNatClampNeg)), (1, .int t0), (0, .ref (Q 100))]) hx hb dX9_note_91 rfl hl (by decide) rfl (fun ls hl => ?_)
        exact sg92  FU (upd (upd (upd I 27 (jrem ((t0 - (67 : Int32)) + (7 : Int32)) (7 : Int32))) 23 ((I 23) + (1 : Int32))) 28 (0 : Int32)) A ((A 21) ((I 23) + (1 : Int32)).toNatClampNeg) H locs ls hf hP hD hS (lv_sub hl [2, 0] rfl)
    · have hf := (if_pos c3).symm.trans hf
      refine lv_iconst (v := (0 : Int32)) hx hb dX9_note_36 (by decide) ?_
      exact W.zret (v := (0 : Int32)) hx hb hr rfl (fun t ht hW => ⟨⟨(0 : Int32), (I, A), rfl, Option.some.inj hf, by rw [ht]; exact hP, va_K.moved hW.alike hK, hD⟩, hS.F ht⟩) hS.2.2 dX9_note_37
  have hl := lv_entry ([.ref (Q 100)]) (n := 3) (Nat.le_of_ble_eq_true rfl)
  rw [lg_entry_eq]
  generalize (lg_sl ([.ref (Q 100)]) ++ List.replicate (3 - (lg_sl ([.ref (Q 100)])).length) Slot.unset).toArray = ls at hl ⊢
  have hl : lv_has ls 3 [(0, .ref (Q 100))] := hl
  unfold fX9_note at hf
  refine lv_aload_n hx hb dX9_note_0 rfl (lv_at hl 0 rfl) ?_
  refine va_get (D := (dC, dI)) (ci := 6) (v := .int (I 23)) (C := RX9) (T := TX9) (N := 36) hx hb hts hinX9 hown hK hP 0 rfl rfl 23 (by decide) hk202 (fun _ h9 => h9) rfl dX9_note_1 ?_
  refine lv_aload_n hx hb dX9_note_4 rfl (lv_at hl 0 rfl) ?_
  refine va_get (D := (dC, dI)) (ci := 6) (v := .int (I 22)) (C := RX9) (T := TX9) (N := 36) hx hb hts hinX9 hown hK hP 0 rfl rfl 22 (by decide) hk194 (fun _ h9 => h9) rfl dX9_note_5 ?_
  refine lv_icmp_ge (tgt := 23) hx hb dX9_note_8 (by decide) (fun c1 => ?_) (fun c1 => ?_)
  · have hf := (if_pos c1).symm.trans hf
    refine lv_iconst (v := (0 : Int32)) hx hb dX9_note_23 (by decide) ?_
    exact sg24  I A (0 : Int32) s.heap [] ls hf hP hD hS (lv_sub hl [0] rfl)
  · have hf := (if_neg c1).symm.trans hf
    refine lv_aload_n hx hb dX9_note_11 rfl (lv_at hl 0 rfl) ?_
    refine va_get (D := (dC, dI)) (ci := 6) (v := .ref (Q 21)) (C := RX9) (T := TX9) (N := 36) hx hb hts hinX9 hown hK hP 0 rfl rfl 21 (by decide) hk166 (fun _ h9 => h9) rfl dX9_note_12 ?_
    refine lv_aload_n hx hb dX9_note_15 rfl (lv_at hl 0 rfl) ?_
    refine va_get (D := (dC, dI)) (ci := 6) (v := .int (I 23)) (C := RX9) (T := TX9) (N := 36) hx hb hts hinX9 hown hK hP 0 rfl rfl 23 (by decide) hk202 (fun _ h9 => h9) rfl dX9_note_16 ?_
    obtain ⟨g2, hf⟩ := of_ite_some hf
    refine va_bald hx hb hK hP 17 1 (n := 64) (f := (A 21)) rfl rfl g2 dX9_note_19 ?_
    refine lv_goto (tgt := 24) hx hb dX9_note_20 (by decide) ?_
    exact sg24  I A ((A 21) (I 23).toNatClampNeg) s.heap [] ls hf hP hD hS (lv_sub hl [0] rfl)
def fX9_laid_65 (B : Nat → Nat → Int64)  (I : Nat → Int32) (A : Nat → Nat → Int32) (t0 : Int32) (t1 : Int32) : Option (Int32 × (Nat → Int32) × (Nat → Nat → Int32)) :=
  (if gd t1 500 then (some ((((I 6) + (1 : Int32)) - (1 : Int32)), ((upd I 6 ((I 6) + (1 : Int32))), (va_up A 2 (upd (A 2) t1.toNatClampNeg t0))))) else none)
def fX9_laid (B : Nat → Nat → Int64) (I : Nat → Int32) (A : Nat → Nat → Int32) (x1 : Int32) (x2 : Int32) (x3 : Int32) (x4 : Int32) (x5 : Int32) : Option (Int32 × (Nat → Int32) × (Nat → Nat → Int32)) :=
  (if gd ((5 : Int32) * (I 6)) 500 then (if gd (((5 : Int32) * (I 6)) + (1 : Int32)) 500 then (if gd (((5 : Int32) * (I 6)) + (2 : Int32)) 500 then (if gd (((5 : Int32) * (I 6)) + (3 : Int32)) 500 then (if x5 = 0 then (fX9_laid_65 B  I (va_up A 2 (upd (upd (upd (upd (A 2) ((5 : Int32) * (I 6)).toNatClampNeg x1) (((5 : Int32) * (I 6)) + (1 : Int32)).toNatClampNeg x2) (((5 : Int32) * (I 6)) + (2 : Int32)).toNatClampNeg x3) (((5 : Int32) * (I 6)) + (3 : Int32)).toNatClampNeg x4)) (0 : Int32) (((5 : Int32) * (I 6)) + (4 : Int32))) else (fX9_laid_65 B  I (va_up A 2 (upd (upd (upd (upd (A 2) ((5 : Int32) * (I 6)).toNatClampNeg x1) (((5 : Int32) * (I 6)) + (1 : Int32)).toNatClampNeg x2) (((5 : Int32) * (I 6)) + (2 : Int32)).toNatClampNeg x3) (((5 : Int32) * (I 6)) + (3 : Int32)).toNatClampNeg x4)) (1 : Int32) (((5 : Int32) * (I 6)) + (4 : Int32)))) else none) else none) else none) else none)
set_option maxRecDepth 100000 in
set_option maxHeartbeats 4000000 in
theorem mX9_laid (l : Launch) (dC : Nat → ClassId) (dI : Nat → Nat → Nat) (cI cB cJ : ClassId) (Q : Nat → Nat) (B : Nat → Nat → Int64) (I : Nat → Int32) (A : Nat → Nat → Int32) (x1 : Int32) (x2 : Int32) (x3 : Int32) (x4 : Int32) (x5 : Int32) (sz : Nat) (z : Int32 × (Nat → Int32) × (Nat → Nat → Int32)) (hf : fX9_laid B I A x1 x2 x3 x4 x5 = some z) : Met l yX9_laid wsX9_laid ({ frames := 0, cells := 0, slots := 0, locals := 0 }) (va_Pc [.ref (Q 100), .int x1, .int x2, .int x3, .int x4, .int x5] (fun U => U.heap.size = sz ∧ va_P (dC, dI) vwCl (wM cI cB cJ Q B I A) U.heap ∧ va_K (dC, dI) vwCl (tM cI cB cJ) U ∧ va_D (fun _ => True) (wM cI cB cJ Q B I A))) (va_Qi (fun (r : Int32) (u : (Nat → Int32) × (Nat → Nat → Int32)) => (r, u) = z) (atM dC dI cI cB cJ Q B (va_A (wM cI cB cJ Q B I A) sz)) (va_A (wM cI cB cJ Q B I A) sz)) 0 0 (va_A (wM cI cB cJ Q B I A) sz) := by
  refine Met.ofW (cc := cX9_laid) (maxL := 7) (ret := (some .int)) (by decide) rfl ?_
  intro p e s m args below meth c s₁ BL hml hv
  obtain ⟨rfl, hsz, hP, hK, hD0⟩ := hv
  have hx := BL.exec
  have hb := BL.bytes
  have hr := BL.returns
  have hts := atoms_spec (ws := wsX9_laid) BL.pre
  have hown : s.vm.findClass RX9 = some m.cls := findClass_of_methodNamed BL.named
  have hlocks := BL.notSynchronized
  have hinX9 : ∀ w ∈ u_ws RX9 TX9 36, w ∈ wsX9_laid := by decide +kernel
  have hk13 := hts (.fieldLink RX9 13 "LeadSheetsModel" "heads" "[I") (by decide +kernel)
  have hk265 := hts (.fieldLink RX9 265 "LeadSheetsModel" "chords" "I") (by decide +kernel)
  subst hsz
  have hD := hD0.self (sz := s.heap.size)
  generalize hAe : va_A (wM cI cB cJ Q B I A) s.heap.size = AA at hD ⊢
  have hA : ∀ q : Nat, s.heap.size ≤ q → AA q := fun q h => by rw [← hAe]; exact Or.inr h
  have hS : va_S AA s.heap s.heap [] := va_S.rf
  have sg65 : ∀ (I : Nat → Int32) (A : Nat → Nat → Int32) (t0 : Int32) (t1 : Int32) (H : Heap) (locs : List Loc) (ls : Array Slot), fX9_laid_65 B  I A t0 t1 = some z → va_P (dC, dI) vwCl (wM cI cB cJ Q B I A) H → va_D AA (wM cI cB cJ Q B I A) → va_S AA s.heap H locs → lv_has ls 7 [(0, .ref (Q 100))] → W p l e (headSpec wsX9_laid ({ frames := 0, cells := 0, slots := 0, locals := 0 })).room s m (([.ref (Q 100), .int x1, .int x2, .int x3, .int x4, .int x5] : List Value).toArray) below meth c H locs 0 0 (MQ below (va_Qi (fun (r : Int32) (u : (Nat → Int32) × (Nat → Nat → Int32)) => (r, u) = z) (atM dC dI cI cB cJ Q B AA) AA) (([.ref (Q 100), .int x1, .int x2, .int x3, .int x4, .int x5] : List Value).toArray) s 0 0 AA) (F0 m 65 ls [.int t0, .int t1, .ref (Q 2)]) := by
    intro I A t0 t1 H locs ls hf hP hD hS hl
    unfold fX9_laid_65 at hf
    obtain ⟨g6, hf⟩ := of_ite_some hf
    refine va_iast hx hb hK hP hD hS 2 0 (n := 500) (f := (A 2)) rfl rfl g6 dX9_laid_65 (fun H locs hP hD hS => ?_)
    have hP : va_P (dC, dI) vwCl (wM cI cB cJ Q B I (va_up A 2 (upd (A 2) t1.toNatClampNeg t0))) H := Eq.mp (congrArg (fun w => va_P (dC, dI) vwCl w H) (wMA_2 cI cB cJ Q B I A (upd (A 2) t1.toNatClampNeg t0))) hP
    have hD : va_D AA (wM cI cB cJ Q B I (va_up A 2 (upd (A 2) t1.toNatClampNeg t0))) := Eq.mp (congrArg (fun w => va_D AA w) (wMA_2 cI cB cJ Q B I A (upd (A 2) t1.toNatClampNeg t0))) hD
    refine lv_aload_n hx hb dX9_laid_66 rfl (lv_at hl 0 rfl) ?_
    refine lv_dup hx hb dX9_laid_67 rfl ?_
    refine va_get (D := (dC, dI)) (ci := 6) (v := .int (I 6)) (C := RX9) (T := TX9) (N := 36) hx hb hts hinX9 hown hK hP 0 rfl rfl 6 (by decide) hk265 (fun _ h9 => h9) rfl dX9_laid_68 ?_
    refine lv_iconst (v := (1 : Int32)) hx hb dX9_laid_71 (by decide) ?_
    refine lv_iadd hx hb dX9_laid_72 ?_
    refine va_put (D := (dC, dI)) (ci := 6) (v := .int ((I 6) + (1 : Int32))) (ty := .int) (C := RX9) (T := TX9) (N := 36) hx hb hts hinX9 tyX9 tyX9_ok nmX9 hown hK hP hD hS 0 (fs := (oM Q I)) rfl rfl 6 (by decide) hk265 (fun _ h9 => h9) rfl (by decide +kernel) rfl rfl (Nat.le_of_ble_eq_true rfl) dX9_laid_73 (fun H locs hP hD hS => ?_)
    have hP : va_P (dC, dI) vwCl (wM cI cB cJ Q B (upd I 6 ((I 6) + (1 : Int32))) (va_up A 2 (upd (A 2) t1.toNatClampNeg t0))) H := Eq.mp (congrArg (fun w => va_P (dC, dI) vwCl w H) (wMI_6 cI cB cJ Q B I (va_up A 2 (upd (A 2) t1.toNatClampNeg t0)) ((I 6) + (1 : Int32)))) hP
    have hD : va_D AA (wM cI cB cJ Q B (upd I 6 ((I 6) + (1 : Int32))) (va_up A 2 (upd (A 2) t1.toNatClampNeg t0))) := Eq.mp (congrArg (fun w => va_D AA w) (wMI_6 cI cB cJ Q B I (va_up A 2 (upd (A 2) t1.toNatClampNeg t0)) ((I 6) + (1 : Int32)))) hD
    refine lv_aload_n hx hb dX9_laid_76 rfl (lv_at hl 0 rfl) ?_
    refine va_get (D := (dC, dI)) (ci := 6) (v := .int ((I 6) + (1 : Int32))) (C := RX9) (T := TX9) (N := 36) hx hb hts hinX9 hown hK hP 0 rfl rfl 6 (by decide) hk265 (fun _ h9 => h9) rfl dX9_laid_77 ?_
    refine lv_iconst (v := (1 : Int32)) hx hb dX9_laid_80 (by decide) ?_
    refine lv_isub hx hb dX9_laid_81 ?_
    exact W.iret (v := (((I 6) + (1 : Int32)) - (1 : Int32))) hx hb hr (fun t ht hW => ⟨⟨(((I 6) + (1 : Int32)) - (1 : Int32)), ((upd I 6 ((I 6) + (1 : Int32))), (va_up A 2 (upd (A 2) t1.toNatClampNeg t0))), rfl, Option.some.inj hf, by rw [ht]; exact hP, va_K.moved hW.alike hK, hD⟩, hS.F ht⟩) hS.2.2 dX9_laid_82
  have hl := lv_entry ([.ref (Q 100), .int x1, .int x2, .int x3, .int x4, .int x5]) (n := 7) (Nat.le_of_ble_eq_true rfl)
  rw [lg_entry_eq]
  generalize (lg_sl ([.ref (Q 100), .int x1, .int x2, .int x3, .int x4, .int x5]) ++ List.replicate (7 - (lg_sl ([.ref (Q 100), .int x1, .int x2, .int x3, .int x4, .int x5])).length) Slot.unset).toArray = ls at hl ⊢
  have hl : lv_has ls 7 [(0, .ref (Q 100)), (1, .int x1), (2, .int x2), (3, .int x3), (4, .int x4), (5, .int x5)] := hl
  unfold fX9_laid at hf
  refine lv_iconst (v := (5 : Int32)) hx hb dX9_laid_0 (by decide) ?_
  refine lv_aload_n hx hb dX9_laid_1 rfl (lv_at hl 0 rfl) ?_
  refine va_get (D := (dC, dI)) (ci := 6) (v := .int (I 6)) (C := RX9) (T := TX9) (N := 36) hx hb hts hinX9 hown hK hP 0 rfl rfl 6 (by decide) hk265 (fun _ h9 => h9) rfl dX9_laid_2 ?_
  refine lv_imul hx hb dX9_laid_5 ?_
  refine lv_istore (lv' := [(6, .int ((5 : Int32) * (I 6))), (0, .ref (Q 100)), (1, .int x1), (2, .int x2), (3, .int x3), (4, .int x4), (5, .int x5)]) hx hb dX9_laid_6 hl (by decide) rfl (fun ls hl => ?_)
  refine lv_aload_n hx hb dX9_laid_8 rfl (lv_at hl 1 rfl) ?_
  refine va_get (D := (dC, dI)) (ci := 6) (v := .ref (Q 2)) (C := RX9) (T := TX9) (N := 36) hx hb hts hinX9 hown hK hP 0 rfl rfl 2 (by decide) hk13 (fun _ h9 => h9) rfl dX9_laid_9 ?_
  refine lv_iload hx hb dX9_laid_12 (lv_at hl 0 rfl) ?_
  refine lv_iload_n hx hb dX9_laid_14 rfl (lv_at hl 2 rfl) ?_
  obtain ⟨g1, hf⟩ := of_ite_some hf
  refine va_iast hx hb hK hP hD hS 2 0 (n := 500) (f := (A 2)) rfl rfl g1 dX9_laid_15 (fun H locs hP hD hS => ?_)
  have hP : va_P (dC, dI) vwCl (wM cI cB cJ Q B I (va_up A 2 (upd (A 2) ((5 : Int32) * (I 6)).toNatClampNeg x1))) H := Eq.mp (congrArg (fun w => va_P (dC, dI) vwCl w H) (wMA_2 cI cB cJ Q B I A (upd (A 2) ((5 : Int32) * (I 6)).toNatClampNeg x1))) hP
  have hD : va_D AA (wM cI cB cJ Q B I (va_up A 2 (upd (A 2) ((5 : Int32) * (I 6)).toNatClampNeg x1))) := Eq.mp (congrArg (fun w => va_D AA w) (wMA_2 cI cB cJ Q B I A (upd (A 2) ((5 : Int32) * (I 6)).toNatClampNeg x1))) hD
  refine lv_aload_n hx hb dX9_laid_16 rfl (lv_at hl 1 rfl) ?_
  refine va_get (D := (dC, dI)) (ci := 6) (v := .ref (Q 2)) (C := RX9) (T := TX9) (N := 36) hx hb hts hinX9 hown hK hP 0 rfl rfl 2 (by decide) hk13 (fun _ h9 => h9) rfl dX9_laid_17 ?_
  refine lv_iload hx hb dX9_laid_20 (lv_at hl 0 rfl) ?_
  refine lv_iconst (v := (1 : Int32)) hx hb dX9_laid_22 (by decide) ?_
  refine lv_iadd hx hb dX9_laid_23 ?_
  refine lv_iload_n hx hb dX9_laid_24 rfl (lv_at hl 3 rfl) ?_
  obtain ⟨g2, hf⟩ := of_ite_some hf
  refine va_iast hx hb hK hP hD hS 2 0 (n := 500) (f := (upd (A 2) ((5 : Int32) * (I 6)).toNatClampNeg x1)) rfl rfl g2 dX9_laid_25 (fun H locs hP hD hS => ?_)
  have hP : va_P (dC, dI) vwCl (wM cI cB cJ Q B I (va_up A 2 (upd (upd (A 2) ((5 : Int32) * (I 6)).toNatClampNeg x1) (((5 : Int32) * (I 6)) + (1 : Int32)).toNatClampNeg x2))) H := Eq.mp (congrArg (fun w => va_P (dC, dI) vwCl w H) (wMA_2c cI cB cJ Q B I A (upd (A 2) ((5 : Int32) * (I 6)).toNatClampNeg x1) (upd (upd (A 2) ((5 : Int32) * (I 6)).toNatClampNeg x1) (((5 : Int32) * (I 6)) + (1 : Int32)).toNatClampNeg x2))) hP
  have hD : va_D AA (wM cI cB cJ Q B I (va_up A 2 (upd (upd (A 2) ((5 : Int32) * (I 6)).toNatClampNeg x1) (((5 : Int32) * (I 6)) + (1 : Int32)).toNatClampNeg x2))) := Eq.mp (congrArg (fun w => va_D AA w) (wMA_2c cI cB cJ Q B I A (upd (A 2) ((5 : Int32) * (I 6)).toNatClampNeg x1) (upd (upd (A 2) ((5 : Int32) * (I 6)).toNatClampNeg x1) (((5 : Int32) * (I 6)) + (1 : Int32)).toNatClampNeg x2))) hD
  refine lv_aload_n hx hb dX9_laid_26 rfl (lv_at hl 1 rfl) ?_
  refine va_get (D := (dC, dI)) (ci := 6) (v := .ref (Q 2)) (C := RX9) (T := TX9) (N := 36) hx hb hts hinX9 hown hK hP 0 rfl rfl 2 (by decide) hk13 (fun _ h9 => h9) rfl dX9_laid_27 ?_
  refine lv_iload hx hb dX9_laid_30 (lv_at hl 0 rfl) ?_
  refine lv_iconst (v := (2 : Int32)) hx hb dX9_laid_32 (by decide) ?_
  refine lv_iadd hx hb dX9_laid_33 ?_
  refine lv_iload_n hx hb dX9_laid_34 rfl (lv_at hl 4 rfl) ?_
  obtain ⟨g3, hf⟩ := of_ite_some hf
  refine va_iast hx hb hK hP hD hS 2 0 (n := 500) (f := (upd (upd (A 2) ((5 : Int32) * (I 6)).toNatClampNeg x1) (((5 : Int32) * (I 6)) + (1 : Int32)).toNatClampNeg x2)) rfl rfl g3 dX9_laid_35 (fun H locs hP hD hS => ?_)
  have hP : va_P (dC, dI) vwCl (wM cI cB cJ Q B I (va_up A 2 (upd (upd (upd (A 2) ((5 : Int32) * (I 6)).toNatClampNeg x1) (((5 : Int32) * (I 6)) + (1 : Int32)).toNatClampNeg x2) (((5 : Int32) * (I 6)) + (2 : Int32)).toNatClampNeg x3))) H := Eq.mp (congrArg (fun w => va_P (dC, dI) vwCl w H) (wMA_2c cI cB cJ Q B I A (upd (upd (A 2) ((5 : Int32) * (I 6)).toNatClampNeg x1) (((5 : Int32) * (I 6)) + (1 : Int32)).toNatClampNeg x2) (upd (upd (upd (A 2) ((5 : Int32) * (I 6)).toNatClampNeg x1) (((5 : Int32) * (I 6)) + (1 : Int32)).toNatClampNeg x2) (((5 : Int32) * (I 6)) + (2 : Int32)).toNatClampNeg x3))) hP
  have hD : va_D AA (wM cI cB cJ Q B I (va_up A 2 (upd (upd (upd (A 2) ((5 : Int32) * (I 6)).toNatClampNeg x1) (((5 : Int32) * (I 6)) + (1 : Int32)).toNatClampNeg x2) (((5 : Int32) * (I 6)) + (2 : Int32)).toNatClampNeg x3))) := Eq.mp (congrArg (fun w => va_D AA w) (wMA_2c cI cB cJ Q B I A (upd (upd (A 2) ((5 : Int32) * (I 6)).toNatClampNeg x1) (((5 : Int32) * (I 6)) + (1 : Int32)).toNatClampNeg x2) (upd (upd (upd (A 2) ((5 : Int32) * (I 6)).toNatClampNeg x1) (((5 : Int32) * (I 6)) + (1 : Int32)).toNatClampNeg x2) (((5 : Int32) * (I 6)) + (2 : Int32)).toNatClampNeg x3))) hD
  refine lv_aload_n hx hb dX9_laid_36 rfl (lv_at hl 1 rfl) ?_
  refine va_get (D := (dC, dI)) (ci := 6) (v := .ref (Q 2)) (C := RX9) (T := TX9) (N := 36) hx hb hts hinX9 hown hK hP 0 rfl rfl 2 (by decide) hk13 (fun _ h9 => h9) rfl dX9_laid_37 ?_
  refine lv_iload hx hb dX9_laid_40 (lv_at hl 0 rfl) ?_
  refine lv_iconst (v := (3 : Int32)) hx hb dX9_laid_42 (by decide) ?_
  refine lv_iadd hx hb dX9_laid_43 ?_
  refine lv_iload hx hb dX9_laid_44 (lv_at hl 5 rfl) ?_
  obtain ⟨g4, hf⟩ := of_ite_some hf
  refine va_iast hx hb hK hP hD hS 2 0 (n := 500) (f := (upd (upd (upd (A 2) ((5 : Int32) * (I 6)).toNatClampNeg x1) (((5 : Int32) * (I 6)) + (1 : Int32)).toNatClampNeg x2) (((5 : Int32) * (I 6)) + (2 : Int32)).toNatClampNeg x3)) rfl rfl g4 dX9_laid_46 (fun H locs hP hD hS => ?_)
  have hP : va_P (dC, dI) vwCl (wM cI cB cJ Q B I (va_up A 2 (upd (upd (upd (upd (A 2) ((5 : Int32) * (I 6)).toNatClampNeg x1) (((5 : Int32) * (I 6)) + (1 : Int32)).toNatClampNeg x2) (((5 : Int32) * (I 6)) + (2 : Int32)).toNatClampNeg x3) (((5 : Int32) * (I 6)) + (3 : Int32)).toNatClampNeg x4))) H := Eq.mp (congrArg (fun w => va_P (dC, dI) vwCl w H) (wMA_2c cI cB cJ Q B I A (upd (upd (upd (A 2) ((5 : Int32) * (I 6)).toNatClampNeg x1) (((5 : Int32) * (I 6)) + (1 : Int32)).toNatClampNeg x2) (((5 : Int32) * (I 6)) + (2 : Int32)).toNatClampNeg x3) (upd (upd (upd (upd (A 2) ((5 : Int32) * (I 6)).toNatClampNeg x1) (((5 : Int32) * (I 6)) + (1 : Int32)).toNatClampNeg x2) (((5 : Int32) * (I 6)) + (2 : Int32)).toNatClampNeg x3) (((5 : Int32) * (I 6)) + (3 : Int32)).toNatClampNeg x4))) hP
  have hD : va_D AA (wM cI cB cJ Q B I (va_up A 2 (upd (upd (upd (upd (A 2) ((5 : Int32) * (I 6)).toNatClampNeg x1) (((5 : Int32) * (I 6)) + (1 : Int32)).toNatClampNeg x2) (((5 : Int32) * (I 6)) + (2 : Int32)).toNatClampNeg x3) (((5 : Int32) * (I 6)) + (3 : Int32)).toNatClampNeg x4))) := Eq.mp (congrArg (fun w => va_D AA w) (wMA_2c cI cB cJ Q B I A (upd (upd (upd (A 2) ((5 : Int32) * (I 6)).toNatClampNeg x1) (((5 : Int32) * (I 6)) + (1 : Int32)).toNatClampNeg x2) (((5 : Int32) * (I 6)) + (2 : Int32)).toNatClampNeg x3) (upd (upd (upd (upd (A 2) ((5 : Int32) * (I 6)).toNatClampNeg x1) (((5 : Int32) * (I 6)) + (1 : Int32)).toNatClampNeg x2) (((5 : Int32) * (I 6)) + (2 : Int32)).toNatClampNeg x3) (((5 : Int32) * (I 6)) + (3 : Int32)).toNatClampNeg x4))) hD
  refine lv_aload_n hx hb dX9_laid_47 rfl (lv_at hl 1 rfl) ?_
  refine va_get (D := (dC, dI)) (ci := 6) (v := .ref (Q 2)) (C := RX9) (T := TX9) (N := 36) hx hb hts hinX9 hown hK hP 0 rfl rfl 2 (by decide) hk13 (fun _ h9 => h9) rfl dX9_laid_48 ?_
  refine lv_iload hx hb dX9_laid_51 (lv_at hl 0 rfl) ?_
  refine lv_iconst (v := (4 : Int32)) hx hb dX9_laid_53 (by decide) ?_
  refine lv_iadd hx hb dX9_laid_54 ?_
  refine lv_iload hx hb dX9_laid_55 (lv_at hl 6 rfl) ?_
  refine lv_if_eq (tgt := 64) hx hb dX9_laid_57 (by decide) (fun c5 => ?_) (fun c5 => ?_)
  · have hf := (if_pos c5).symm.trans hf
    refine lv_iconst (v := (0 : Int32)) hx hb dX9_laid_64 (by decide) ?_
    exact sg65  I (va_up A 2 (upd (upd (upd (upd (A 2) ((5 : Int32) * (I 6)).toNatClampNeg x1) (((5 : Int32) * (I 6)) + (1 : Int32)).toNatClampNeg x2) (((5 : Int32) * (I 6)) + (2 : Int32)).toNatClampNeg x3) (((5 : Int32) * (I 6)) + (3 : Int32)).toNatClampNeg x4)) (0 : Int32) (((5 : Int32) * (I 6)) + (4 : Int32)) H locs ls hf hP hD hS (lv_sub hl [1] rfl)
  · have hf := (if_neg c5).symm.trans hf
    refine lv_iconst (v := (1 : Int32)) hx hb dX9_laid_60 (by decide) ?_
    refine lv_goto (tgt := 65) hx hb dX9_laid_61 (by decide) ?_
    exact sg65  I (va_up A 2 (upd (upd (upd (upd (A 2) ((5 : Int32) * (I 6)).toNatClampNeg x1) (((5 : Int32) * (I 6)) + (1 : Int32)).toNatClampNeg x2) (((5 : Int32) * (I 6)) + (2 : Int32)).toNatClampNeg x3) (((5 : Int32) * (I 6)) + (3 : Int32)).toNatClampNeg x4)) (1 : Int32) (((5 : Int32) * (I 6)) + (4 : Int32)) H locs ls hf hP hD hS (lv_sub hl [1] rfl)
def fX9_rest_ (B : Nat → Nat → Int64) (I : Nat → Int32) (A : Nat → Nat → Int32)  : Option (Int32 × (Nat → Int32) × (Nat → Nat → Int32)) :=
  (some ((I 12), ((upd I 12 (0 : Int32)), A)))
set_option maxRecDepth 100000 in
set_option maxHeartbeats 4000000 in
theorem mX9_rest_ (l : Launch) (dC : Nat → ClassId) (dI : Nat → Nat → Nat) (cI cB cJ : ClassId) (Q : Nat → Nat) (B : Nat → Nat → Int64) (I : Nat → Int32) (A : Nat → Nat → Int32)  (sz : Nat) (z : Int32 × (Nat → Int32) × (Nat → Nat → Int32)) (hf : fX9_rest_ B I A = some z) : Met l yX9_rest_ wsX9_rest_ ({ frames := 0, cells := 0, slots := 0, locals := 0 }) (va_Pc [.ref (Q 100)] (fun U => U.heap.size = sz ∧ va_P (dC, dI) vwCl (wM cI cB cJ Q B I A) U.heap ∧ va_K (dC, dI) vwCl (tM cI cB cJ) U ∧ va_D (fun _ => True) (wM cI cB cJ Q B I A))) (va_Qi (fun (r : Int32) (u : (Nat → Int32) × (Nat → Nat → Int32)) => (r, u) = z) (atM dC dI cI cB cJ Q B (va_A (wM cI cB cJ Q B I A) sz)) (va_A (wM cI cB cJ Q B I A) sz)) 0 0 (va_A (wM cI cB cJ Q B I A) sz) := by
  refine Met.ofW (cc := cX9_rest_) (maxL := 2) (ret := (some .int)) (by decide) rfl ?_
  intro p e s m args below meth c s₁ BL hml hv
  obtain ⟨rfl, hsz, hP, hK, hD0⟩ := hv
  have hx := BL.exec
  have hb := BL.bytes
  have hr := BL.returns
  have hts := atoms_spec (ws := wsX9_rest_) BL.pre
  have hown : s.vm.findClass RX9 = some m.cls := findClass_of_methodNamed BL.named
  have hlocks := BL.notSynchronized
  have hinX9 : ∀ w ∈ u_ws RX9 TX9 36, w ∈ wsX9_rest_ := by decide +kernel
  have hk344 := hts (.fieldLink RX9 344 "LeadSheetsModel" "keyMany" "I") (by decide +kernel)
  subst hsz
  have hD := hD0.self (sz := s.heap.size)
  generalize hAe : va_A (wM cI cB cJ Q B I A) s.heap.size = AA at hD ⊢
  have hA : ∀ q : Nat, s.heap.size ≤ q → AA q := fun q h => by rw [← hAe]; exact Or.inr h
  have hS : va_S AA s.heap s.heap [] := va_S.rf
  have hl := lv_entry ([.ref (Q 100)]) (n := 2) (Nat.le_of_ble_eq_true rfl)
  rw [lg_entry_eq]
  generalize (lg_sl ([.ref (Q 100)]) ++ List.replicate (2 - (lg_sl ([.ref (Q 100)])).length) Slot.unset).toArray = ls at hl ⊢
  have hl : lv_has ls 2 [(0, .ref (Q 100))] := hl
  unfold fX9_rest_ at hf
  refine lv_aload_n hx hb dX9_rest__0 rfl (lv_at hl 0 rfl) ?_
  refine va_get (D := (dC, dI)) (ci := 6) (v := .int (I 12)) (C := RX9) (T := TX9) (N := 36) hx hb hts hinX9 hown hK hP 0 rfl rfl 12 (by decide) hk344 (fun _ h9 => h9) rfl dX9_rest__1 ?_
  refine lv_istore_n (lv' := [(1, .int (I 12)), (0, .ref (Q 100))]) hx hb dX9_rest__4 rfl hl (by decide) rfl (fun ls hl => ?_)
  refine lv_aload_n hx hb dX9_rest__5 rfl (lv_at hl 1 rfl) ?_
  refine lv_iconst (v := (0 : Int32)) hx hb dX9_rest__6 (by decide) ?_
  refine va_put (D := (dC, dI)) (ci := 6) (v := .int (0 : Int32)) (ty := .int) (C := RX9) (T := TX9) (N := 36) hx hb hts hinX9 tyX9 tyX9_ok nmX9 hown hK hP hD hS 0 (fs := (oM Q I)) rfl rfl 12 (by decide) hk344 (fun _ h9 => h9) rfl (by decide +kernel) rfl rfl (Nat.le_of_ble_eq_true rfl) dX9_rest__7 (fun H locs hP hD hS => ?_)
  have hP : va_P (dC, dI) vwCl (wM cI cB cJ Q B (upd I 12 (0 : Int32)) A) H := Eq.mp (congrArg (fun w => va_P (dC, dI) vwCl w H) (wMI_12 cI cB cJ Q B I A (0 : Int32))) hP
  have hD : va_D AA (wM cI cB cJ Q B (upd I 12 (0 : Int32)) A) := Eq.mp (congrArg (fun w => va_D AA w) (wMI_12 cI cB cJ Q B I A (0 : Int32))) hD
  refine lv_iload_n hx hb dX9_rest__10 rfl (lv_at hl 0 rfl) ?_
  exact W.iret (v := (I 12)) hx hb hr (fun t ht hW => ⟨⟨(I 12), ((upd I 12 (0 : Int32)), A), rfl, Option.some.inj hf, by rw [ht]; exact hP, va_K.moved hW.alike hK, hD⟩, hS.F ht⟩) hS.2.2 dX9_rest__11
def fX9_shows (B : Nat → Nat → Int64) (I : Nat → Int32) (A : Nat → Nat → Int32) (x1 : Int32) : Option ((Nat → Int32) × (Nat → Nat → Int32)) :=
  (if gd (I 8) 64 then (some ((upd I 8 ((I 8) + (1 : Int32))), (va_up A 7 (upd (A 7) (I 8).toNatClampNeg (vp_nar .byte (x1.toInt8.toInt32)))))) else none)
set_option maxRecDepth 100000 in
set_option maxHeartbeats 4000000 in
theorem mX9_shows (l : Launch) (dC : Nat → ClassId) (dI : Nat → Nat → Nat) (cI cB cJ : ClassId) (Q : Nat → Nat) (B : Nat → Nat → Int64) (I : Nat → Int32) (A : Nat → Nat → Int32) (x1 : Int32) (sz : Nat) (z : (Nat → Int32) × (Nat → Nat → Int32)) (hf : fX9_shows B I A x1 = some z) : Met l yX9_shows wsX9_shows ({ frames := 0, cells := 0, slots := 0, locals := 0 }) (va_Pc [.ref (Q 100), .int x1] (fun U => U.heap.size = sz ∧ va_P (dC, dI) vwCl (wM cI cB cJ Q B I A) U.heap ∧ va_K (dC, dI) vwCl (tM cI cB cJ) U ∧ va_D (fun _ => True) (wM cI cB cJ Q B I A))) (va_Qv (fun (u : (Nat → Int32) × (Nat → Nat → Int32)) => u = z) (atM dC dI cI cB cJ Q B (va_A (wM cI cB cJ Q B I A) sz)) (va_A (wM cI cB cJ Q B I A) sz)) 0 0 (va_A (wM cI cB cJ Q B I A) sz) := by
  refine Met.ofW (cc := cX9_shows) (maxL := 2) (ret := none) (by decide) rfl ?_
  intro p e s m args below meth c s₁ BL hml hv
  obtain ⟨rfl, hsz, hP, hK, hD0⟩ := hv
  have hx := BL.exec
  have hb := BL.bytes
  have hr := BL.returns
  have hts := atoms_spec (ws := wsX9_shows) BL.pre
  have hown : s.vm.findClass RX9 = some m.cls := findClass_of_methodNamed BL.named
  have hlocks := BL.notSynchronized
  have hinX9 : ∀ w ∈ u_ws RX9 TX9 36, w ∈ wsX9_shows := by decide +kernel
  have hk26 := hts (.fieldLink RX9 26 "LeadSheetsModel" "shown" "[B") (by decide +kernel)
  have hk304 := hts (.fieldLink RX9 304 "LeadSheetsModel" "shownMany" "I") (by decide +kernel)
  subst hsz
  have hD := hD0.self (sz := s.heap.size)
  generalize hAe : va_A (wM cI cB cJ Q B I A) s.heap.size = AA at hD ⊢
  have hA : ∀ q : Nat, s.heap.size ≤ q → AA q := fun q h => by rw [← hAe]; exact Or.inr h
  have hS : va_S AA s.heap s.heap [] := va_S.rf
  have hl := lv_entry ([.ref (Q 100), .int x1]) (n := 2) (Nat.le_of_ble_eq_true rfl)
  rw [lg_entry_eq]
  generalize (lg_sl ([.ref (Q 100), .int x1]) ++ List.replicate (2 - (lg_sl ([.ref (Q 100), .int x1])).length) Slot.unset).toArray = ls at hl ⊢
  have hl : lv_has ls 2 [(0, .ref (Q 100)), (1, .int x1)] := hl
  unfold fX9_shows at hf
  refine lv_aload_n hx hb dX9_shows_0 rfl (lv_at hl 0 rfl) ?_
  refine va_get (D := (dC, dI)) (ci := 6) (v := .ref (Q 7)) (C := RX9) (T := TX9) (N := 36) hx hb hts hinX9 hown hK hP 0 rfl rfl 7 (by decide) hk26 (fun _ h9 => h9) rfl dX9_shows_1 ?_
  refine lv_aload_n hx hb dX9_shows_4 rfl (lv_at hl 0 rfl) ?_
  refine va_get (D := (dC, dI)) (ci := 6) (v := .int (I 8)) (C := RX9) (T := TX9) (N := 36) hx hb hts hinX9 hown hK hP 0 rfl rfl 8 (by decide) hk304 (fun _ h9 => h9) rfl dX9_shows_5 ?_
  refine lv_iload_n hx hb dX9_shows_8 rfl (lv_at hl 1 rfl) ?_
  refine lv_i2b (v := (x1.toInt8.toInt32)) hx hb dX9_shows_9 rfl ?_
  obtain ⟨g1, hf⟩ := of_ite_some hf
  refine va_bast hx hb hK hP hD hS 6 1 (n := 64) (f := (A 7)) rfl rfl g1 dX9_shows_10 (fun H locs hP hD hS => ?_)
  have hP : va_P (dC, dI) vwCl (wM cI cB cJ Q B I (va_up A 7 (upd (A 7) (I 8).toNatClampNeg (vp_nar .byte (x1.toInt8.toInt32))))) H := Eq.mp (congrArg (fun w => va_P (dC, dI) vwCl w H) (wMA_7 cI cB cJ Q B I A (upd (A 7) (I 8).toNatClampNeg (vp_nar .byte (x1.toInt8.toInt32))))) hP
  have hD : va_D AA (wM cI cB cJ Q B I (va_up A 7 (upd (A 7) (I 8).toNatClampNeg (vp_nar .byte (x1.toInt8.toInt32))))) := Eq.mp (congrArg (fun w => va_D AA w) (wMA_7 cI cB cJ Q B I A (upd (A 7) (I 8).toNatClampNeg (vp_nar .byte (x1.toInt8.toInt32))))) hD
  refine lv_aload_n hx hb dX9_shows_11 rfl (lv_at hl 0 rfl) ?_
  refine lv_dup hx hb dX9_shows_12 rfl ?_
  refine va_get (D := (dC, dI)) (ci := 6) (v := .int (I 8)) (C := RX9) (T := TX9) (N := 36) hx hb hts hinX9 hown hK hP 0 rfl rfl 8 (by decide) hk304 (fun _ h9 => h9) rfl dX9_shows_13 ?_
  refine lv_iconst (v := (1 : Int32)) hx hb dX9_shows_16 (by decide) ?_
  refine lv_iadd hx hb dX9_shows_17 ?_
  refine va_put (D := (dC, dI)) (ci := 6) (v := .int ((I 8) + (1 : Int32))) (ty := .int) (C := RX9) (T := TX9) (N := 36) hx hb hts hinX9 tyX9 tyX9_ok nmX9 hown hK hP hD hS 0 (fs := (oM Q I)) rfl rfl 8 (by decide) hk304 (fun _ h9 => h9) rfl (by decide +kernel) rfl rfl (Nat.le_of_ble_eq_true rfl) dX9_shows_18 (fun H locs hP hD hS => ?_)
  have hP : va_P (dC, dI) vwCl (wM cI cB cJ Q B (upd I 8 ((I 8) + (1 : Int32))) (va_up A 7 (upd (A 7) (I 8).toNatClampNeg (vp_nar .byte (x1.toInt8.toInt32))))) H := Eq.mp (congrArg (fun w => va_P (dC, dI) vwCl w H) (wMI_8 cI cB cJ Q B I (va_up A 7 (upd (A 7) (I 8).toNatClampNeg (vp_nar .byte (x1.toInt8.toInt32)))) ((I 8) + (1 : Int32)))) hP
  have hD : va_D AA (wM cI cB cJ Q B (upd I 8 ((I 8) + (1 : Int32))) (va_up A 7 (upd (A 7) (I 8).toNatClampNeg (vp_nar .byte (x1.toInt8.toInt32))))) := Eq.mp (congrArg (fun w => va_D AA w) (wMI_8 cI cB cJ Q B I (va_up A 7 (upd (A 7) (I 8).toNatClampNeg (vp_nar .byte (x1.toInt8.toInt32)))) ((I 8) + (1 : Int32)))) hD
  exact W.vret hx hb hr (fun t ht hW => ⟨⟨((upd I 8 ((I 8) + (1 : Int32))), (va_up A 7 (upd (A 7) (I 8).toNatClampNeg (vp_nar .byte (x1.toInt8.toInt32))))), rfl, Option.some.inj hf, by rw [ht]; exact hP, va_K.moved hW.alike hK, hD⟩, hS.F ht⟩) hS.2.2 dX9_shows_21
def fX9_showsWord_8B (B : Nat → Nat → Int64)  (k8 : (Nat → Int32) → (Nat → Nat → Int32) → Int64 → Int32 → Int32 → Option ((Nat → Int32) × (Nat → Nat → Int32))) (I : Nat → Int32) (A : Nat → Nat → Int32) (v1 : Int64) (v3 : Int32) (v4 : Int32) : Option ((Nat → Int32) × (Nat → Nat → Int32)) :=
  (if v3 ≤ v4 then (some (I, A)) else ((fX9_byteOf v1 v4).bind fun r4 => ((fX9_shows B I A r4).bind fun (I7, A8) => (k8 I7 A8 v1 v3 (v4 + (1 : Int32))))))
def fX9_showsWord_8 (B : Nat → Nat → Int64)  : Nat → ((Nat → Int32) → (Nat → Nat → Int32) → Int64 → Int32 → Int32 → Option ((Nat → Int32) × (Nat → Nat → Int32)))
  | 0 => fun _ _ _ _ _ => none
  | n + 1 => fX9_showsWord_8B B  (fX9_showsWord_8 B  n)
def fX9_showsWord (B : Nat → Nat → Int64) (I : Nat → Int32) (A : Nat → Nat → Int32) (x1 : Int64) : Option ((Nat → Int32) × (Nat → Nat → Int32)) :=
  ((fX9_lengthOf x1).bind fun r1 => (fX9_showsWord_8 B  FU I A x1 r1 (0 : Int32)))
set_option maxRecDepth 100000 in
set_option maxHeartbeats 4000000 in
theorem mX9_showsWord (l : Launch) (dC : Nat → ClassId) (dI : Nat → Nat → Nat) (cI cB cJ : ClassId) (Q : Nat → Nat) (B : Nat → Nat → Int64) (I : Nat → Int32) (A : Nat → Nat → Int32) (x1 : Int64) (sz : Nat) (z : (Nat → Int32) × (Nat → Nat → Int32)) (hf : fX9_showsWord B I A x1 = some z) : Met l yX9_showsWord wsX9_showsWord ({ frames := 2, cells := 0, slots := 0, locals := 44 }) (va_Pc [.ref (Q 100), .long x1] (fun U => U.heap.size = sz ∧ va_P (dC, dI) vwCl (wM cI cB cJ Q B I A) U.heap ∧ va_K (dC, dI) vwCl (tM cI cB cJ) U ∧ va_D (fun _ => True) (wM cI cB cJ Q B I A))) (va_Qv (fun (u : (Nat → Int32) × (Nat → Nat → Int32)) => u = z) (atM dC dI cI cB cJ Q B (va_A (wM cI cB cJ Q B I A) sz)) (va_A (wM cI cB cJ Q B I A) sz)) 0 0 (va_A (wM cI cB cJ Q B I A) sz) := by
  refine Met.ofW (cc := cX9_showsWord) (maxL := 5) (ret := none) (by decide) rfl ?_
  intro p e s m args below meth c s₁ BL hml hv
  obtain ⟨rfl, hsz, hP, hK, hD0⟩ := hv
  have hx := BL.exec
  have hb := BL.bytes
  have hr := BL.returns
  have hts := atoms_spec (ws := wsX9_showsWord) BL.pre
  have hown : s.vm.findClass RX9 = some m.cls := findClass_of_methodNamed BL.named
  have hlocks := BL.notSynchronized
  subst hsz
  have hD := hD0.self (sz := s.heap.size)
  generalize hAe : va_A (wM cI cB cJ Q B I A) s.heap.size = AA at hD ⊢
  have hA : ∀ q : Nat, s.heap.size ≤ q → AA q := fun q h => by rw [← hAe]; exact Or.inr h
  have hS : va_S AA s.heap s.heap [] := va_S.rf
  have sg8 : ∀ n : Nat, ∀ (I : Nat → Int32) (A : Nat → Nat → Int32) (v1 : Int64) (v3 : Int32) (v4 : Int32) (H : Heap) (locs : List Loc) (ls : Array Slot), fX9_showsWord_8 B  n I A v1 v3 v4 = some z → va_P (dC, dI) vwCl (wM cI cB cJ Q B I A) H → va_D AA (wM cI cB cJ Q B I A) → va_S AA s.heap H locs → lv_has ls 5 [(0, .ref (Q 100)), (1, .long v1), (3, .int v3), (4, .int v4)] → W p l e (headSpec wsX9_showsWord ({ frames := 2, cells := 0, slots := 0, locals := 44 })).room s m (([.ref (Q 100), .long x1] : List Value).toArray) below meth c H locs 0 0 (MQ below (va_Qv (fun (u : (Nat → Int32) × (Nat → Nat → Int32)) => u = z) (atM dC dI cI cB cJ Q B AA) AA) (([.ref (Q 100), .long x1] : List Value).toArray) s 0 0 AA) (F0 m 8 ls []) := by
    intro n
    induction n with
    | zero => intro I A v1 v3 v4 H locs ls hf hP hD hS hl; exact of_none hf
    | succ n ih8 =>
      intro I A v1 v3 v4 H locs ls hf hP hD hS hl
      change fX9_showsWord_8B B  (fX9_showsWord_8 B  n) I A v1 v3 v4 = _ at hf
      unfold fX9_showsWord_8B at hf
      refine lv_iload hx hb dX9_showsWord_8 (lv_at hl 3 rfl) ?_
      refine lv_iload_n hx hb dX9_showsWord_10 rfl (lv_at hl 2 rfl) ?_
      refine lv_icmp_ge (tgt := 30) hx hb dX9_showsWord_11 (by decide) (fun c3 => ?_) (fun c3 => ?_)
      · have hf := (if_pos c3).symm.trans hf
        exact W.vret hx hb hr (fun t ht hW => ⟨⟨(I, A), rfl, Option.some.inj hf, by rw [ht]; exact hP, va_K.moved hW.alike hK, hD⟩, hS.F ht⟩) hS.2.2 dX9_showsWord_30
      · have hf := (if_neg c3).symm.trans hf
        refine lv_aload_n hx hb dX9_showsWord_14 rfl (lv_at hl 0 rfl) ?_
        refine lv_lload_n hx hb dX9_showsWord_15 rfl (lv_at hl 1 rfl) ?_
        refine lv_iload hx hb dX9_showsWord_16 (lv_at hl 3 rfl) ?_
        obtain ⟨r4, hc5, hf⟩ := of_bind_some hf
        refine W.callR (r := r4) (W.runS (As := [.long v1, .int v4]) (rest := [.ref (Q 100)]) ⟨hx, hb, hml, hown, hts⟩ (mX9_byteOf l v1 v4 r4 hc5) (va_cwS 2 hts gX9_showsWord_X9_byteOf rfl rfl rfl (by decide +kernel) ⟨Nat.le_of_ble_eq_true rfl, Nat.le_of_ble_eq_true rfl⟩) ⟨fun _ _ _ _ q => q, fun U hU hW => ⟨rfl, trivial⟩⟩ rfl rfl hl.1 rfl (lv_room (Nat.le_of_ble_eq_true rfl)) dX9_showsWord_18 ⟨Nat.zero_le _, Nat.zero_le _⟩) ?_
        refine W.eq (g2 := F0 m 21 ls [.int r4, .ref (Q 100)]) rfl ?_
        obtain ⟨⟨I7, A8⟩, hc6, hf⟩ := of_bind_some hf
        have hF9 := va_freeAll hD hS hA
        refine va_callv (va_runV (As := [.int r4]) (rest := []) ⟨hx, hb, hml, hown, hts⟩ (mX9_shows l dC dI cI cB cJ Q B I A r4 H.size _ hc6) (cwV 1 hts gX9_showsWord_X9_shows rfl rfl rfl (by decide +kernel) ⟨Nat.le_of_ble_eq_true rfl, Nat.le_of_ble_eq_true rfl⟩) ⟨blindW, va_recv hK hP (ci := 6) (q0 := 0) rfl rfl, fun U hU hW => ⟨rfl, by rw [hU], by rw [hU]; exact hP, va_K.moved hW.alike hK, hD.weaken (fun _ _ _ _ => trivial)⟩⟩ rfl rfl hl.1 rfl (lv_room (Nat.le_of_ble_eq_true rfl)) dX9_showsWord_21 ⟨Nat.zero_le _, Nat.zero_le _⟩) hS (fun q _ h => hF9 q h) hF9 (fun u t H locs ht hvm hw hB hz1 hk1 hS => ?_)
        cases hw
        obtain ⟨hP, hK9, hD⟩ := hB
        rw [ht] at hP
        have hP : va_P (dC, dI) vwCl (wM cI cB cJ Q B I7 A8) H := hP
        have hD : va_D AA (wM cI cB cJ Q B I7 A8) := hD.weaken (fun _ _ _ h => hF9 _ h)
        refine lv_iinc (v := (v4 + (1 : Int32))) (lv' := [(4, .int (v4 + (1 : Int32))), (0, .ref (Q 100)), (1, .long v1), (3, .int v3)]) hx hb dX9_showsWord_24 hl (k := 3) rfl rfl (by decide) rfl (fun ls hl => ?_)
        refine lv_goto (tgt := 8) hx hb dX9_showsWord_27 (by decide) ?_
        exact ih8 I7 A8 v1 v3 (v4 + (1 : Int32)) H locs ls hf hP hD hS (lv_sub hl [1, 2, 3, 0] rfl)
  have hl := lv_entry ([.ref (Q 100), .long x1]) (n := 5) (Nat.le_of_ble_eq_true rfl)
  rw [lg_entry_eq]
  generalize (lg_sl ([.ref (Q 100), .long x1]) ++ List.replicate (5 - (lg_sl ([.ref (Q 100), .long x1])).length) Slot.unset).toArray = ls at hl ⊢
  have hl : lv_has ls 5 [(0, .ref (Q 100)), (1, .long x1)] := hl
  unfold fX9_showsWord at hf
  refine lv_lload_n hx hb dX9_showsWord_0 rfl (lv_at hl 1 rfl) ?_
  obtain ⟨r1, hc2, hf⟩ := of_bind_some hf
  refine W.callR (r := r1) (W.runS (As := [.long x1]) (rest := []) ⟨hx, hb, hml, hown, hts⟩ (mX9_lengthOf l x1 r1 hc2) (va_cwS 1 hts gX9_showsWord_X9_lengthOf rfl rfl rfl (by decide +kernel) ⟨Nat.le_of_ble_eq_true rfl, Nat.le_of_ble_eq_true rfl⟩) ⟨fun _ _ _ _ q => q, fun U hU hW => ⟨rfl, trivial⟩⟩ rfl rfl hl.1 rfl (lv_room (Nat.le_of_ble_eq_true rfl)) dX9_showsWord_1 ⟨Nat.zero_le _, Nat.zero_le _⟩) ?_
  refine W.eq (g2 := F0 m 4 ls [.int r1]) rfl ?_
  refine lv_istore_n (lv' := [(3, .int r1), (0, .ref (Q 100)), (1, .long x1)]) hx hb dX9_showsWord_4 rfl hl (by decide) rfl (fun ls hl => ?_)
  refine lv_iconst (v := (0 : Int32)) hx hb dX9_showsWord_5 (by decide) ?_
  refine lv_istore (lv' := [(4, .int (0 : Int32)), (3, .int r1), (0, .ref (Q 100)), (1, .long x1)]) hx hb dX9_showsWord_6 hl (by decide) rfl (fun ls hl => ?_)
  exact sg8  FU I A x1 r1 (0 : Int32) s.heap [] ls hf hP hD hS (lv_sub hl [2, 3, 1, 0] rfl)
def fX9_showsNote_24B (B : Nat → Nat → Int64)  (k24 : (Nat → Int32) → (Nat → Nat → Int32) → Int32 → Int32 → Option ((Nat → Int32) × (Nat → Nat → Int32))) (I : Nat → Int32) (A : Nat → Nat → Int32) (v2 : Int32) (v3 : Int32) : Option ((Nat → Int32) × (Nat → Nat → Int32)) :=
  (if (fX9_size v2) ≤ v3 then (some (I, A)) else (if 0 ≤ v2 then ((fX9_shows B I A (35 : Int32)).bind fun (I13, A14) => (k24 I13 A14 v2 (v3 + (1 : Int32)))) else ((fX9_shows B I A (98 : Int32)).bind fun (I17, A18) => (k24 I17 A18 v2 (v3 + (1 : Int32))))))
def fX9_showsNote_24 (B : Nat → Nat → Int64)  : Nat → ((Nat → Int32) → (Nat → Nat → Int32) → Int32 → Int32 → Option ((Nat → Int32) × (Nat → Nat → Int32)))
  | 0 => fun _ _ _ _ => none
  | n + 1 => fX9_showsNote_24B B  (fX9_showsNote_24 B  n)
def fX9_showsNote (B : Nat → Nat → Int64) (I : Nat → Int32) (A : Nat → Nat → Int32) (x1 : Int32) (x2 : Int32) : Option ((Nat → Int32) × (Nat → Nat → Int32)) :=
  (if (5 : Int32) ≤ x1 then ((fX9_shows B I A (((65 : Int32) + x1) - (5 : Int32))).bind fun (I3, A4) => (fX9_showsNote_24 B  FU I3 A4 x2 (0 : Int32))) else ((fX9_shows B I A ((67 : Int32) + x1)).bind fun (I7, A8) => (fX9_showsNote_24 B  FU I7 A8 x2 (0 : Int32))))
set_option maxRecDepth 100000 in
set_option maxHeartbeats 4000000 in
theorem mX9_showsNote (l : Launch) (dC : Nat → ClassId) (dI : Nat → Nat → Nat) (cI cB cJ : ClassId) (Q : Nat → Nat) (B : Nat → Nat → Int64) (I : Nat → Int32) (A : Nat → Nat → Int32) (x1 : Int32) (x2 : Int32) (sz : Nat) (z : (Nat → Int32) × (Nat → Nat → Int32)) (hf : fX9_showsNote B I A x1 x2 = some z) : Met l yX9_showsNote wsX9_showsNote ({ frames := 1, cells := 0, slots := 0, locals := 21 }) (va_Pc [.ref (Q 100), .int x1, .int x2] (fun U => U.heap.size = sz ∧ va_P (dC, dI) vwCl (wM cI cB cJ Q B I A) U.heap ∧ va_K (dC, dI) vwCl (tM cI cB cJ) U ∧ va_D (fun _ => True) (wM cI cB cJ Q B I A))) (va_Qv (fun (u : (Nat → Int32) × (Nat → Nat → Int32)) => u = z) (atM dC dI cI cB cJ Q B (va_A (wM cI cB cJ Q B I A) sz)) (va_A (wM cI cB cJ Q B I A) sz)) 0 0 (va_A (wM cI cB cJ Q B I A) sz) := by
  refine Met.ofW (cc := cX9_showsNote) (maxL := 4) (ret := none) (by decide) rfl ?_
  intro p e s m args below meth c s₁ BL hml hv
  obtain ⟨rfl, hsz, hP, hK, hD0⟩ := hv
  have hx := BL.exec
  have hb := BL.bytes
  have hr := BL.returns
  have hts := atoms_spec (ws := wsX9_showsNote) BL.pre
  have hown : s.vm.findClass RX9 = some m.cls := findClass_of_methodNamed BL.named
  have hlocks := BL.notSynchronized
  subst hsz
  have hD := hD0.self (sz := s.heap.size)
  generalize hAe : va_A (wM cI cB cJ Q B I A) s.heap.size = AA at hD ⊢
  have hA : ∀ q : Nat, s.heap.size ≤ q → AA q := fun q h => by rw [← hAe]; exact Or.inr h
  have hS : va_S AA s.heap s.heap [] := va_S.rf
  have sg24 : ∀ n : Nat, ∀ (I : Nat → Int32) (A : Nat → Nat → Int32) (v2 : Int32) (v3 : Int32) (H : Heap) (locs : List Loc) (ls : Array Slot), fX9_showsNote_24 B  n I A v2 v3 = some z → va_P (dC, dI) vwCl (wM cI cB cJ Q B I A) H → va_D AA (wM cI cB cJ Q B I A) → va_S AA s.heap H locs → lv_has ls 4 [(0, .ref (Q 100)), (2, .int v2), (3, .int v3)] → W p l e (headSpec wsX9_showsNote ({ frames := 1, cells := 0, slots := 0, locals := 21 })).room s m (([.ref (Q 100), .int x1, .int x2] : List Value).toArray) below meth c H locs 0 0 (MQ below (va_Qv (fun (u : (Nat → Int32) × (Nat → Nat → Int32)) => u = z) (atM dC dI cI cB cJ Q B AA) AA) (([.ref (Q 100), .int x1, .int x2] : List Value).toArray) s 0 0 AA) (F0 m 24 ls []) := by
    intro n
    induction n with
    | zero => intro I A v2 v3 H locs ls hf hP hD hS hl; exact of_none hf
    | succ n ih24 =>
      intro I A v2 v3 H locs ls hf hP hD hS hl
      change fX9_showsNote_24B B  (fX9_showsNote_24 B  n) I A v2 v3 = _ at hf
      unfold fX9_showsNote_24B at hf
      refine lv_iload_n hx hb dX9_showsNote_24 rfl (lv_at hl 2 rfl) ?_
      refine lv_iload_n hx hb dX9_showsNote_25 rfl (lv_at hl 1 rfl) ?_
      refine W.callR (r := (fX9_size v2)) (W.runS (As := [.int v2]) (rest := [.int v3]) ⟨hx, hb, hml, hown, hts⟩ (mX9_size l v2 (fX9_size v2) rfl) (va_cwS 1 hts gX9_showsNote_X9_size rfl rfl rfl (by decide +kernel) ⟨Nat.le_of_ble_eq_true rfl, Nat.le_of_ble_eq_true rfl⟩) ⟨fun _ _ _ _ q => q, fun U hU hW => ⟨rfl, trivial⟩⟩ rfl rfl hl.1 rfl (lv_room (Nat.le_of_ble_eq_true rfl)) dX9_showsNote_26 ⟨Nat.zero_le _, Nat.zero_le _⟩) ?_
      refine W.eq (g2 := F0 m 29 ls [.int (fX9_size v2), .int v3]) rfl ?_
      refine lv_icmp_ge (tgt := 53) hx hb dX9_showsNote_29 (by decide) (fun c10 => ?_) (fun c10 => ?_)
      · have hf := (if_pos c10).symm.trans hf
        exact W.vret hx hb hr (fun t ht hW => ⟨⟨(I, A), rfl, Option.some.inj hf, by rw [ht]; exact hP, va_K.moved hW.alike hK, hD⟩, hS.F ht⟩) hS.2.2 dX9_showsNote_53
      · have hf := (if_neg c10).symm.trans hf
        refine lv_aload_n hx hb dX9_showsNote_32 rfl (lv_at hl 0 rfl) ?_
        refine lv_iload_n hx hb dX9_showsNote_33 rfl (lv_at hl 1 rfl) ?_
        refine lv_if_ge (tgt := 42) hx hb dX9_showsNote_34 (by decide) (fun c11 => ?_) (fun c11 => ?_)
        · have hf := (if_pos c11).symm.trans hf
          refine lv_bipush (v := (35 : Int32)) hx hb dX9_showsNote_42 (by decide) ?_
          obtain ⟨⟨I13, A14⟩, hc12, hf⟩ := of_bind_some hf
          have hF15 := va_freeAll hD hS hA
          refine va_callv (va_runV (As := [.int (35 : Int32)]) (rest := []) ⟨hx, hb, hml, hown, hts⟩ (mX9_shows l dC dI cI cB cJ Q B I A (35 : Int32) H.size _ hc12) (cwV 1 hts gX9_showsNote_X9_shows rfl rfl rfl (by decide +kernel) ⟨Nat.le_of_ble_eq_true rfl, Nat.le_of_ble_eq_true rfl⟩) ⟨blindW, va_recv hK hP (ci := 6) (q0 := 0) rfl rfl, fun U hU hW => ⟨rfl, by rw [hU], by rw [hU]; exact hP, va_K.moved hW.alike hK, hD.weaken (fun _ _ _ _ => trivial)⟩⟩ rfl rfl hl.1 rfl (lv_room (Nat.le_of_ble_eq_true rfl)) dX9_showsNote_44 ⟨Nat.zero_le _, Nat.zero_le _⟩) hS (fun q _ h => hF15 q h) hF15 (fun u t H locs ht hvm hw hB hz1 hk1 hS => ?_)
          cases hw
          obtain ⟨hP, hK9, hD⟩ := hB
          rw [ht] at hP
          have hP : va_P (dC, dI) vwCl (wM cI cB cJ Q B I13 A14) H := hP
          have hD : va_D AA (wM cI cB cJ Q B I13 A14) := hD.weaken (fun _ _ _ h => hF15 _ h)
          refine lv_iinc (v := (v3 + (1 : Int32))) (lv' := [(3, .int (v3 + (1 : Int32))), (0, .ref (Q 100)), (2, .int v2)]) hx hb dX9_showsNote_47 hl (k := 2) rfl rfl (by decide) rfl (fun ls hl => ?_)
          refine lv_goto (tgt := 24) hx hb dX9_showsNote_50 (by decide) ?_
          exact ih24 I13 A14 v2 (v3 + (1 : Int32)) H locs ls hf hP hD hS (lv_sub hl [1, 2, 0] rfl)
        · have hf := (if_neg c11).symm.trans hf
          refine lv_bipush (v := (98 : Int32)) hx hb dX9_showsNote_37 (by decide) ?_
          refine lv_goto (tgt := 44) hx hb dX9_showsNote_39 (by decide) ?_
          obtain ⟨⟨I17, A18⟩, hc16, hf⟩ := of_bind_some hf
          have hF19 := va_freeAll hD hS hA
          refine va_callv (va_runV (As := [.int (98 : Int32)]) (rest := []) ⟨hx, hb, hml, hown, hts⟩ (mX9_shows l dC dI cI cB cJ Q B I A (98 : Int32) H.size _ hc16) (cwV 1 hts gX9_showsNote_X9_shows rfl rfl rfl (by decide +kernel) ⟨Nat.le_of_ble_eq_true rfl, Nat.le_of_ble_eq_true rfl⟩) ⟨blindW, va_recv hK hP (ci := 6) (q0 := 0) rfl rfl, fun U hU hW => ⟨rfl, by rw [hU], by rw [hU]; exact hP, va_K.moved hW.alike hK, hD.weaken (fun _ _ _ _ => trivial)⟩⟩ rfl rfl hl.1 rfl (lv_room (Nat.le_of_ble_eq_true rfl)) dX9_showsNote_44 ⟨Nat.zero_le _, Nat.zero_le _⟩) hS (fun q _ h => hF19 q h) hF19 (fun u t H locs ht hvm hw hB hz1 hk1 hS => ?_)
          cases hw
          obtain ⟨hP, hK9, hD⟩ := hB
          rw [ht] at hP
          have hP : va_P (dC, dI) vwCl (wM cI cB cJ Q B I17 A18) H := hP
          have hD : va_D AA (wM cI cB cJ Q B I17 A18) := hD.weaken (fun _ _ _ h => hF19 _ h)
          refine lv_iinc (v := (v3 + (1 : Int32))) (lv' := [(3, .int (v3 + (1 : Int32))), (0, .ref (Q 100)), (2, .int v2)]) hx hb dX9_showsNote_47 hl (k := 2) rfl rfl (by decide) rfl (fun ls hl => ?_)
          refine lv_goto (tgt := 24) hx hb dX9_showsNote_50 (by decide) ?_
          exact ih24 I17 A18 v2 (v3 + (1 : Int32)) H locs ls hf hP hD hS (lv_sub hl [1, 2, 0] rfl)
  have hl := lv_entry ([.ref (Q 100), .int x1, .int x2]) (n := 4) (Nat.le_of_ble_eq_true rfl)
  rw [lg_entry_eq]
  generalize (lg_sl ([.ref (Q 100), .int x1, .int x2]) ++ List.replicate (4 - (lg_sl ([.ref (Q 100), .int x1, .int x2])).length) Slot.unset).toArray = ls at hl ⊢
  have hl : lv_has ls 4 [(0, .ref (Q 100)), (1, .int x1), (2, .int x2)] := hl
  unfold fX9_showsNote at hf
  refine lv_aload_n hx hb dX9_showsNote_0 rfl (lv_at hl 0 rfl) ?_
  refine lv_iload_n hx hb dX9_showsNote_1 rfl (lv_at hl 1 rfl) ?_
  refine lv_iconst (v := (5 : Int32)) hx hb dX9_showsNote_2 (by decide) ?_
  refine lv_icmp_ge (tgt := 13) hx hb dX9_showsNote_3 (by decide) (fun c1 => ?_) (fun c1 => ?_)
  · have hf := (if_pos c1).symm.trans hf
    refine lv_bipush (v := (65 : Int32)) hx hb dX9_showsNote_13 (by decide) ?_
    refine lv_iload_n hx hb dX9_showsNote_15 rfl (lv_at hl 1 rfl) ?_
    refine lv_iadd hx hb dX9_showsNote_16 ?_
    refine lv_iconst (v := (5 : Int32)) hx hb dX9_showsNote_17 (by decide) ?_
    refine lv_isub hx hb dX9_showsNote_18 ?_
    obtain ⟨⟨I3, A4⟩, hc2, hf⟩ := of_bind_some hf
    have hF5 := va_freeAll hD hS hA
    refine va_callv (va_runV (As := [.int (((65 : Int32) + x1) - (5 : Int32))]) (rest := []) ⟨hx, hb, hml, hown, hts⟩ (mX9_shows l dC dI cI cB cJ Q B I A (((65 : Int32) + x1) - (5 : Int32)) s.heap.size _ hc2) (cwV 1 hts gX9_showsNote_X9_shows rfl rfl rfl (by decide +kernel) ⟨Nat.le_of_ble_eq_true rfl, Nat.le_of_ble_eq_true rfl⟩) ⟨blindW, va_recv hK hP (ci := 6) (q0 := 0) rfl rfl, fun U hU hW => ⟨rfl, by rw [hU], by rw [hU]; exact hP, va_K.moved hW.alike hK, hD.weaken (fun _ _ _ _ => trivial)⟩⟩ rfl rfl hl.1 rfl (lv_room (Nat.le_of_ble_eq_true rfl)) dX9_showsNote_19 ⟨Nat.zero_le _, Nat.zero_le _⟩) hS (fun q _ h => hF5 q h) hF5 (fun u t H locs ht hvm hw hB hz1 hk1 hS => ?_)
    cases hw
    obtain ⟨hP, hK9, hD⟩ := hB
    rw [ht] at hP
    have hP : va_P (dC, dI) vwCl (wM cI cB cJ Q B I3 A4) H := hP
    have hD : va_D AA (wM cI cB cJ Q B I3 A4) := hD.weaken (fun _ _ _ h => hF5 _ h)
    refine lv_iconst (v := (0 : Int32)) hx hb dX9_showsNote_22 (by decide) ?_
    refine lv_istore_n (lv' := [(3, .int (0 : Int32)), (0, .ref (Q 100)), (1, .int x1), (2, .int x2)]) hx hb dX9_showsNote_23 rfl hl (by decide) rfl (fun ls hl => ?_)
    exact sg24  FU I3 A4 x2 (0 : Int32) H locs ls hf hP hD hS (lv_sub hl [1, 3, 0] rfl)
  · have hf := (if_neg c1).symm.trans hf
    refine lv_bipush (v := (67 : Int32)) hx hb dX9_showsNote_6 (by decide) ?_
    refine lv_iload_n hx hb dX9_showsNote_8 rfl (lv_at hl 1 rfl) ?_
    refine lv_iadd hx hb dX9_showsNote_9 ?_
    refine lv_goto (tgt := 19) hx hb dX9_showsNote_10 (by decide) ?_
    obtain ⟨⟨I7, A8⟩, hc6, hf⟩ := of_bind_some hf
    have hF9 := va_freeAll hD hS hA
    refine va_callv (va_runV (As := [.int ((67 : Int32) + x1)]) (rest := []) ⟨hx, hb, hml, hown, hts⟩ (mX9_shows l dC dI cI cB cJ Q B I A ((67 : Int32) + x1) s.heap.size _ hc6) (cwV 1 hts gX9_showsNote_X9_shows rfl rfl rfl (by decide +kernel) ⟨Nat.le_of_ble_eq_true rfl, Nat.le_of_ble_eq_true rfl⟩) ⟨blindW, va_recv hK hP (ci := 6) (q0 := 0) rfl rfl, fun U hU hW => ⟨rfl, by rw [hU], by rw [hU]; exact hP, va_K.moved hW.alike hK, hD.weaken (fun _ _ _ _ => trivial)⟩⟩ rfl rfl hl.1 rfl (lv_room (Nat.le_of_ble_eq_true rfl)) dX9_showsNote_19 ⟨Nat.zero_le _, Nat.zero_le _⟩) hS (fun q _ h => hF9 q h) hF9 (fun u t H locs ht hvm hw hB hz1 hk1 hS => ?_)
    cases hw
    obtain ⟨hP, hK9, hD⟩ := hB
    rw [ht] at hP
    have hP : va_P (dC, dI) vwCl (wM cI cB cJ Q B I7 A8) H := hP
    have hD : va_D AA (wM cI cB cJ Q B I7 A8) := hD.weaken (fun _ _ _ h => hF9 _ h)
    refine lv_iconst (v := (0 : Int32)) hx hb dX9_showsNote_22 (by decide) ?_
    refine lv_istore_n (lv' := [(3, .int (0 : Int32)), (0, .ref (Q 100)), (1, .int x1), (2, .int x2)]) hx hb dX9_showsNote_23 rfl hl (by decide) rfl (fun ls hl => ?_)
    exact sg24  FU I7 A8 x2 (0 : Int32) H locs ls hf hP hD hS (lv_sub hl [1, 3, 0] rfl)
def fX9_showsNumeral_13B (B : Nat → Nat → Int64)  (k13 : (Nat → Int32) → (Nat → Nat → Int32) → Int32 → Int32 → Int32 → Int32 → Option ((Nat → Int32) × (Nat → Nat → Int32))) (I : Nat → Int32) (A : Nat → Nat → Int32) (v1 : Int32) (v2 : Int32) (v3 : Int32) (v4 : Int32) : Option ((Nat → Int32) × (Nat → Nat → Int32)) :=
  (if v3 ≤ v4 then (some (I, A)) else (if gd v1 12 then ((fX9_byteOf ((B 20) v1.toNatClampNeg) v4).bind fun r6 => (if v2 = 0 then ((fX9_shows B I A r6).bind fun (I10, A11) => (k13 I10 A11 v1 v2 v3 (v4 + (1 : Int32)))) else (if r6 = (98 : Int32) then ((fX9_shows B I A r6).bind fun (I15, A16) => (k13 I15 A16 v1 v2 v3 (v4 + (1 : Int32)))) else ((fX9_shows B I A (r6 + (32 : Int32))).bind fun (I19, A20) => (k13 I19 A20 v1 v2 v3 (v4 + (1 : Int32))))))) else none))
def fX9_showsNumeral_13 (B : Nat → Nat → Int64)  : Nat → ((Nat → Int32) → (Nat → Nat → Int32) → Int32 → Int32 → Int32 → Int32 → Option ((Nat → Int32) × (Nat → Nat → Int32)))
  | 0 => fun _ _ _ _ _ _ => none
  | n + 1 => fX9_showsNumeral_13B B  (fX9_showsNumeral_13 B  n)
def fX9_showsNumeral (B : Nat → Nat → Int64) (I : Nat → Int32) (A : Nat → Nat → Int32) (x1 : Int32) (x2 : Int32) : Option ((Nat → Int32) × (Nat → Nat → Int32)) :=
  (if gd x1 12 then ((fX9_lengthOf ((B 20) x1.toNatClampNeg)).bind fun r2 => (fX9_showsNumeral_13 B  FU I A x1 x2 r2 (0 : Int32))) else none)
set_option maxRecDepth 100000 in
set_option maxHeartbeats 4000000 in
theorem mX9_showsNumeral (l : Launch) (dC : Nat → ClassId) (dI : Nat → Nat → Nat) (cI cB cJ : ClassId) (Q : Nat → Nat) (B : Nat → Nat → Int64) (I : Nat → Int32) (A : Nat → Nat → Int32) (x1 : Int32) (x2 : Int32) (sz : Nat) (z : (Nat → Int32) × (Nat → Nat → Int32)) (hf : fX9_showsNumeral B I A x1 x2 = some z) : Met l yX9_showsNumeral wsX9_showsNumeral ({ frames := 2, cells := 0, slots := 0, locals := 44 }) (va_Pc [.ref (Q 100), .int x1, .int x2] (fun U => U.heap.size = sz ∧ va_P (dC, dI) vwCl (wM cI cB cJ Q B I A) U.heap ∧ va_K (dC, dI) vwCl (tM cI cB cJ) U ∧ va_D (fun _ => True) (wM cI cB cJ Q B I A))) (va_Qv (fun (u : (Nat → Int32) × (Nat → Nat → Int32)) => u = z) (atM dC dI cI cB cJ Q B (va_A (wM cI cB cJ Q B I A) sz)) (va_A (wM cI cB cJ Q B I A) sz)) 0 0 (va_A (wM cI cB cJ Q B I A) sz) := by
  refine Met.ofW (cc := cX9_showsNumeral) (maxL := 6) (ret := none) (by decide) rfl ?_
  intro p e s m args below meth c s₁ BL hml hv
  obtain ⟨rfl, hsz, hP, hK, hD0⟩ := hv
  have hx := BL.exec
  have hb := BL.bytes
  have hr := BL.returns
  have hts := atoms_spec (ws := wsX9_showsNumeral) BL.pre
  have hown : s.vm.findClass RX9 = some m.cls := findClass_of_methodNamed BL.named
  have hlocks := BL.notSynchronized
  have hinX9 : ∀ w ∈ u_ws RX9 TX9 36, w ∈ wsX9_showsNumeral := by decide +kernel
  have hk163 := hts (.fieldLink RX9 163 "LeadSheetsModel" "numerals" "[J") (by decide +kernel)
  subst hsz
  have hD := hD0.self (sz := s.heap.size)
  generalize hAe : va_A (wM cI cB cJ Q B I A) s.heap.size = AA at hD ⊢
  have hA : ∀ q : Nat, s.heap.size ≤ q → AA q := fun q h => by rw [← hAe]; exact Or.inr h
  have hS : va_S AA s.heap s.heap [] := va_S.rf
  have sg13 : ∀ n : Nat, ∀ (I : Nat → Int32) (A : Nat → Nat → Int32) (v1 : Int32) (v2 : Int32) (v3 : Int32) (v4 : Int32) (H : Heap) (locs : List Loc) (ls : Array Slot), fX9_showsNumeral_13 B  n I A v1 v2 v3 v4 = some z → va_P (dC, dI) vwCl (wM cI cB cJ Q B I A) H → va_D AA (wM cI cB cJ Q B I A) → va_S AA s.heap H locs → lv_has ls 6 [(0, .ref (Q 100)), (1, .int v1), (2, .int v2), (3, .int v3), (4, .int v4)] → W p l e (headSpec wsX9_showsNumeral ({ frames := 2, cells := 0, slots := 0, locals := 44 })).room s m (([.ref (Q 100), .int x1, .int x2] : List Value).toArray) below meth c H locs 0 0 (MQ below (va_Qv (fun (u : (Nat → Int32) × (Nat → Nat → Int32)) => u = z) (atM dC dI cI cB cJ Q B AA) AA) (([.ref (Q 100), .int x1, .int x2] : List Value).toArray) s 0 0 AA) (F0 m 13 ls []) := by
    intro n
    induction n with
    | zero => intro I A v1 v2 v3 v4 H locs ls hf hP hD hS hl; exact of_none hf
    | succ n ih13 =>
      intro I A v1 v2 v3 v4 H locs ls hf hP hD hS hl
      change fX9_showsNumeral_13B B  (fX9_showsNumeral_13 B  n) I A v1 v2 v3 v4 = _ at hf
      unfold fX9_showsNumeral_13B at hf
      refine lv_iload hx hb dX9_showsNumeral_13 (lv_at hl 4 rfl) ?_
      refine lv_iload_n hx hb dX9_showsNumeral_15 rfl (lv_at hl 3 rfl) ?_
      refine lv_icmp_ge (tgt := 63) hx hb dX9_showsNumeral_16 (by decide) (fun c4 => ?_) (fun c4 => ?_)
      · have hf := (if_pos c4).symm.trans hf
        exact W.vret hx hb hr (fun t ht hW => ⟨⟨(I, A), rfl, Option.some.inj hf, by rw [ht]; exact hP, va_K.moved hW.alike hK, hD⟩, hS.F ht⟩) hS.2.2 dX9_showsNumeral_63
      · have hf := (if_neg c4).symm.trans hf
        refine lv_aload_n hx hb dX9_showsNumeral_19 rfl (lv_at hl 0 rfl) ?_
        refine va_get (D := (dC, dI)) (ci := 6) (v := .ref (Q 20)) (C := RX9) (T := TX9) (N := 36) hx hb hts hinX9 hown hK hP 0 rfl rfl 20 (by decide) hk163 (fun _ h9 => h9) rfl dX9_showsNumeral_20 ?_
        refine lv_iload_n hx hb dX9_showsNumeral_23 rfl (lv_at hl 1 rfl) ?_
        obtain ⟨g5, hf⟩ := of_ite_some hf
        refine va_lald hx hb hK hP 16 2 (n := 12) (f := (B 20)) rfl rfl g5 dX9_showsNumeral_24 ?_
        refine lv_iload hx hb dX9_showsNumeral_25 (lv_at hl 4 rfl) ?_
        obtain ⟨r6, hc7, hf⟩ := of_bind_some hf
        refine W.callR (r := r6) (W.runS (As := [.long ((B 20) v1.toNatClampNeg), .int v4]) (rest := []) ⟨hx, hb, hml, hown, hts⟩ (mX9_byteOf l ((B 20) v1.toNatClampNeg) v4 r6 hc7) (va_cwS 2 hts gX9_showsNumeral_X9_byteOf rfl rfl rfl (by decide +kernel) ⟨Nat.le_of_ble_eq_true rfl, Nat.le_of_ble_eq_true rfl⟩) ⟨fun _ _ _ _ q => q, fun U hU hW => ⟨rfl, trivial⟩⟩ rfl rfl hl.1 rfl (lv_room (Nat.le_of_ble_eq_true rfl)) dX9_showsNumeral_27 ⟨Nat.zero_le _, Nat.zero_le _⟩) ?_
        refine W.eq (g2 := F0 m 30 ls [.int r6]) rfl ?_
        refine lv_istore (lv' := [(5, .int r6), (0, .ref (Q 100)), (1, .int v1), (2, .int v2), (3, .int v3), (4, .int v4)]) hx hb dX9_showsNumeral_30 hl (by decide) rfl (fun ls hl => ?_)
        refine lv_aload_n hx hb dX9_showsNumeral_32 rfl (lv_at hl 1 rfl) ?_
        refine lv_iload_n hx hb dX9_showsNumeral_33 rfl (lv_at hl 3 rfl) ?_
        refine lv_if_eq (tgt := 52) hx hb dX9_showsNumeral_34 (by decide) (fun c8 => ?_) (fun c8 => ?_)
        · have hf := (if_pos c8).symm.trans hf
          refine lv_iload hx hb dX9_showsNumeral_52 (lv_at hl 0 rfl) ?_
          obtain ⟨⟨I10, A11⟩, hc9, hf⟩ := of_bind_some hf
          have hF12 := va_freeAll hD hS hA
          refine va_callv (va_runV (As := [.int r6]) (rest := []) ⟨hx, hb, hml, hown, hts⟩ (mX9_shows l dC dI cI cB cJ Q B I A r6 H.size _ hc9) (cwV 1 hts gX9_showsNumeral_X9_shows rfl rfl rfl (by decide +kernel) ⟨Nat.le_of_ble_eq_true rfl, Nat.le_of_ble_eq_true rfl⟩) ⟨blindW, va_recv hK hP (ci := 6) (q0 := 0) rfl rfl, fun U hU hW => ⟨rfl, by rw [hU], by rw [hU]; exact hP, va_K.moved hW.alike hK, hD.weaken (fun _ _ _ _ => trivial)⟩⟩ rfl rfl hl.1 rfl (lv_room (Nat.le_of_ble_eq_true rfl)) dX9_showsNumeral_54 ⟨Nat.zero_le _, Nat.zero_le _⟩) hS (fun q _ h => hF12 q h) hF12 (fun u t H locs ht hvm hw hB hz1 hk1 hS => ?_)
          cases hw
          obtain ⟨hP, hK9, hD⟩ := hB
          rw [ht] at hP
          have hP : va_P (dC, dI) vwCl (wM cI cB cJ Q B I10 A11) H := hP
          have hD : va_D AA (wM cI cB cJ Q B I10 A11) := hD.weaken (fun _ _ _ h => hF12 _ h)
          refine lv_iinc (v := (v4 + (1 : Int32))) (lv' := [(4, .int (v4 + (1 : Int32))), (5, .int r6), (0, .ref (Q 100)), (1, .int v1), (2, .int v2), (3, .int v3)]) hx hb dX9_showsNumeral_57 hl (k := 5) rfl rfl (by decide) rfl (fun ls hl => ?_)
          refine lv_goto (tgt := 13) hx hb dX9_showsNumeral_60 (by decide) ?_
          exact ih13 I10 A11 v1 v2 v3 (v4 + (1 : Int32)) H locs ls hf hP hD hS (lv_sub hl [2, 3, 4, 5, 0] rfl)
        · have hf := (if_neg c8).symm.trans hf
          refine lv_iload hx hb dX9_showsNumeral_37 (lv_at hl 0 rfl) ?_
          refine lv_bipush (v := (98 : Int32)) hx hb dX9_showsNumeral_39 (by decide) ?_
          refine lv_icmp_eq (tgt := 52) hx hb dX9_showsNumeral_41 (by decide) (fun c13 => ?_) (fun c13 => ?_)
          · have hf := (if_pos c13).symm.trans hf
            refine lv_iload hx hb dX9_showsNumeral_52 (lv_at hl 0 rfl) ?_
            obtain ⟨⟨I15, A16⟩, hc14, hf⟩ := of_bind_some hf
            have hF17 := va_freeAll hD hS hA
            refine va_callv (va_runV (As := [.int r6]) (rest := []) ⟨hx, hb, hml, hown, hts⟩ (mX9_shows l dC dI cI cB cJ Q B I A r6 H.size _ hc14) (cwV 1 hts gX9_showsNumeral_X9_shows rfl rfl rfl (by decide +kernel) ⟨Nat.le_of_ble_eq_true rfl, Nat.le_of_ble_eq_true rfl⟩) ⟨blindW, va_recv hK hP (ci := 6) (q0 := 0) rfl rfl, fun U hU hW => ⟨rfl, by rw [hU], by rw [hU]; exact hP, va_K.moved hW.alike hK, hD.weaken (fun _ _ _ _ => trivial)⟩⟩ rfl rfl hl.1 rfl (lv_room (Nat.le_of_ble_eq_true rfl)) dX9_showsNumeral_54 ⟨Nat.zero_le _, Nat.zero_le _⟩) hS (fun q _ h => hF17 q h) hF17 (fun u t H locs ht hvm hw hB hz1 hk1 hS => ?_)
            cases hw
            obtain ⟨hP, hK9, hD⟩ := hB
            rw [ht] at hP
            have hP : va_P (dC, dI) vwCl (wM cI cB cJ Q B I15 A16) H := hP
            have hD : va_D AA (wM cI cB cJ Q B I15 A16) := hD.weaken (fun _ _ _ h => hF17 _ h)
            refine lv_iinc (v := (v4 + (1 : Int32))) (lv' := [(4, .int (v4 + (1 : Int32))), (5, .int r6), (0, .ref (Q 100)), (1, .int v1), (2, .int v2), (3, .int v3)]) hx hb dX9_showsNumeral_57 hl (k := 5) rfl rfl (by decide) rfl (fun ls hl => ?_)
            refine lv_goto (tgt := 13) hx hb dX9_showsNumeral_60 (by decide) ?_
            exact ih13 I15 A16 v1 v2 v3 (v4 + (1 : Int32)) H locs ls hf hP hD hS (lv_sub hl [2, 3, 4, 5, 0] rfl)
          · have hf := (if_neg c13).symm.trans hf
            refine lv_iload hx hb dX9_showsNumeral_44 (lv_at hl 0 rfl) ?_
            refine lv_bipush (v := (32 : Int32)) hx hb dX9_showsNumeral_46 (by decide) ?_
            refine lv_iadd hx hb dX9_showsNumeral_48 ?_
            refine lv_goto (tgt := 54) hx hb dX9_showsNumeral_49 (by decide) ?_
            obtain ⟨⟨I19, A20⟩, hc18, hf⟩ := of_bind_some hf
            have hF21 := va_freeAll hD hS hA
            refine va_callv (va_runV (As := [.int (r6 + (32 : Int32))]) (rest := []) ⟨hx, hb, hml, hown, hts⟩ (mX9_shows l dC dI cI cB cJ Q B I A (r6 + (32 : Int32)) H.size _ hc18) (cwV 1 hts gX9_showsNumeral_X9_shows rfl rfl rfl (by decide +kernel) ⟨Nat.le_of_ble_eq_true rfl, Nat.le_of_ble_eq_true rfl⟩) ⟨blindW, va_recv hK hP (ci := 6) (q0 := 0) rfl rfl, fun U hU hW => ⟨rfl, by rw [hU], by rw [hU]; exact hP, va_K.moved hW.alike hK, hD.weaken (fun _ _ _ _ => trivial)⟩⟩ rfl rfl hl.1 rfl (lv_room (Nat.le_of_ble_eq_true rfl)) dX9_showsNumeral_54 ⟨Nat.zero_le _, Nat.zero_le _⟩) hS (fun q _ h => hF21 q h) hF21 (fun u t H locs ht hvm hw hB hz1 hk1 hS => ?_)
            cases hw
            obtain ⟨hP, hK9, hD⟩ := hB
            rw [ht] at hP
            have hP : va_P (dC, dI) vwCl (wM cI cB cJ Q B I19 A20) H := hP
            have hD : va_D AA (wM cI cB cJ Q B I19 A20) := hD.weaken (fun _ _ _ h => hF21 _ h)
            refine lv_iinc (v := (v4 + (1 : Int32))) (lv' := [(4, .int (v4 + (1 : Int32))), (5, .int r6), (0, .ref (Q 100)), (1, .int v1), (2, .int v2), (3, .int v3)]) hx hb dX9_showsNumeral_57 hl (k := 5) rfl rfl (by decide) rfl (fun ls hl => ?_)
            refine lv_goto (tgt := 13) hx hb dX9_showsNumeral_60 (by decide) ?_
            exact ih13 I19 A20 v1 v2 v3 (v4 + (1 : Int32)) H locs ls hf hP hD hS (lv_sub hl [2, 3, 4, 5, 0] rfl)
  have hl := lv_entry ([.ref (Q 100), .int x1, .int x2]) (n := 6) (Nat.le_of_ble_eq_true rfl)
  rw [lg_entry_eq]
  generalize (lg_sl ([.ref (Q 100), .int x1, .int x2]) ++ List.replicate (6 - (lg_sl ([.ref (Q 100), .int x1, .int x2])).length) Slot.unset).toArray = ls at hl ⊢
  have hl : lv_has ls 6 [(0, .ref (Q 100)), (1, .int x1), (2, .int x2)] := hl
  unfold fX9_showsNumeral at hf
  refine lv_aload_n hx hb dX9_showsNumeral_0 rfl (lv_at hl 0 rfl) ?_
  refine va_get (D := (dC, dI)) (ci := 6) (v := .ref (Q 20)) (C := RX9) (T := TX9) (N := 36) hx hb hts hinX9 hown hK hP 0 rfl rfl 20 (by decide) hk163 (fun _ h9 => h9) rfl dX9_showsNumeral_1 ?_
  refine lv_iload_n hx hb dX9_showsNumeral_4 rfl (lv_at hl 1 rfl) ?_
  obtain ⟨g1, hf⟩ := of_ite_some hf
  refine va_lald hx hb hK hP 16 2 (n := 12) (f := (B 20)) rfl rfl g1 dX9_showsNumeral_5 ?_
  obtain ⟨r2, hc3, hf⟩ := of_bind_some hf
  refine W.callR (r := r2) (W.runS (As := [.long ((B 20) x1.toNatClampNeg)]) (rest := []) ⟨hx, hb, hml, hown, hts⟩ (mX9_lengthOf l ((B 20) x1.toNatClampNeg) r2 hc3) (va_cwS 1 hts gX9_showsNumeral_X9_lengthOf rfl rfl rfl (by decide +kernel) ⟨Nat.le_of_ble_eq_true rfl, Nat.le_of_ble_eq_true rfl⟩) ⟨fun _ _ _ _ q => q, fun U hU hW => ⟨rfl, trivial⟩⟩ rfl rfl hl.1 rfl (lv_room (Nat.le_of_ble_eq_true rfl)) dX9_showsNumeral_6 ⟨Nat.zero_le _, Nat.zero_le _⟩) ?_
  refine W.eq (g2 := F0 m 9 ls [.int r2]) rfl ?_
  refine lv_istore_n (lv' := [(3, .int r2), (0, .ref (Q 100)), (1, .int x1), (2, .int x2)]) hx hb dX9_showsNumeral_9 rfl hl (by decide) rfl (fun ls hl => ?_)
  refine lv_iconst (v := (0 : Int32)) hx hb dX9_showsNumeral_10 (by decide) ?_
  refine lv_istore (lv' := [(4, .int (0 : Int32)), (3, .int r2), (0, .ref (Q 100)), (1, .int x1), (2, .int x2)]) hx hb dX9_showsNumeral_11 hl (by decide) rfl (fun ls hl => ?_)
  exact sg13  FU I A x1 x2 r2 (0 : Int32) s.heap [] ls hf hP hD hS (lv_sub hl [2, 3, 4, 1, 0] rfl)
