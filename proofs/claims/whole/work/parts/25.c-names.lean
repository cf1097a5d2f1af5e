def fX2_means (I : Nat → Int32) (A : Nat → Nat → Int32)  (x1 : Int32) (x2 : Int32) (x3 : Int32) : Option Int32 :=
  ((fX8_entry 20 (A 0) (fX2_bodyOf x1)).bind fun r1 => (if ((((r1 <<< ((jrem (x3 + (x1 / (20 : Int32))) (12 : Int32)) &&& 31)) ||| ((r1 <<< ((jrem (x3 + (x1 / (20 : Int32))) (12 : Int32)) &&& 31)) >>> ((12 : Int32) &&& 31))) &&& (4095 : Int32)) ||| ((1 : Int32) <<< (x3 &&& 31))) = x2 then (some (1 : Int32)) else (some (0 : Int32))))
set_option maxRecDepth 100000 in
set_option maxHeartbeats 4000000 in
theorem mX2_means (l : Launch) (en : Nat → Nat) (dC : Nat → ClassId) (dI : Nat → Nat → Nat) (cI : ClassId) (Q : Nat → Nat) (I : Nat → Int32) (A : Nat → Nat → Int32)  (x1 : Int32) (x2 : Int32) (x3 : Int32) (r : Int32) (hf : fX2_means I A x1 x2 x3 = some r) : Met l yX2_means wsX2_means ({ frames := 1, cells := 0, slots := 0, locals := 21 }) (va_Pc [.ref (Q 100), .int x1, .int x2, .int x3] (fun U => va_P (dC, dI) vwCl (wN cI Q I A) U.heap ∧ va_K (dC, dI) vwCl [(cI, .int)] U ∧ cE en NA U U.heap)) (QcRead r) 0 0 (fun _ => False) := by
  refine Met.ofW (cc := cX2_means) (maxL := 7) (ret := (some .boolean)) (by decide) rfl ?_
  intro p e s m args below meth c s₁ BL hml hv
  obtain ⟨rfl, hP, hK, hE⟩ := hv
  have hS : va_S NA s.heap s.heap [] := va_S.rf
  have hx := BL.exec
  have hb := BL.bytes
  have hr := BL.returns
  have hts := atoms_spec (ws := wsX2_means) BL.pre
  have hown : s.vm.findClass RX2 = some m.cls := findClass_of_methodNamed BL.named
  have hlocks := BL.notSynchronized
  have hinX2 : ∀ w ∈ u_ws RX2 TX2 4, w ∈ wsX2_means := by decide +kernel
  have hk11 := hts (.fieldLink RX2 11 "LeadSheets$Names" "bodySets" "[I") (by decide +kernel)
  have hl := lv_entry ([.ref (Q 100), .int x1, .int x2, .int x3]) (n := 7) (Nat.le_of_ble_eq_true rfl)
  rw [lg_entry_eq]
  generalize (lg_sl ([.ref (Q 100), .int x1, .int x2, .int x3]) ++ List.replicate (7 - (lg_sl ([.ref (Q 100), .int x1, .int x2, .int x3])).length) Slot.unset).toArray = ls at hl ⊢
  have hl : lv_has ls 7 [(0, .ref (Q 100)), (1, .int x1), (2, .int x2), (3, .int x3)] := hl
  unfold fX2_means at hf
  refine lv_iload_n hx hb dX2_means_0 rfl (lv_at hl 3 rfl) ?_
  refine lv_iload_n hx hb dX2_means_1 rfl (lv_at hl 1 rfl) ?_
  refine lv_bipush (v := (20 : Int32)) hx hb dX2_means_2 (by decide) ?_
  refine lv_idiv hx hb dX2_means_4 (by decide) ?_
  refine lv_iadd hx hb dX2_means_5 ?_
  refine lv_bipush (v := (12 : Int32)) hx hb dX2_means_6 (by decide) ?_
  refine lv_irem hx hb dX2_means_8 (by decide) ?_
  refine W.eq (g2 := F0 m 9 ls [.int (jrem (x3 + (x1 / (20 : Int32))) (12 : Int32))]) rfl ?_
  refine lv_istore (lv' := [(4, .int (jrem (x3 + (x1 / (20 : Int32))) (12 : Int32))), (0, .ref (Q 100)), (1, .int x1), (2, .int x2), (3, .int x3)]) hx hb dX2_means_9 hl (by decide) rfl (fun ls hl => ?_)
  refine lv_aload_n hx hb dX2_means_11 rfl (lv_at hl 1 rfl) ?_
  refine va_get (D := (dC, dI)) (ci := 1) (v := .ref (Q 0)) (C := RX2) (T := TX2) (N := 4) hx hb hts hinX2 hown hK hP 0 rfl rfl 0 (by decide) hk11 (fun _ h9 => h9) rfl dX2_means_12 ?_
  refine lv_iload_n hx hb dX2_means_15 rfl (lv_at hl 2 rfl) ?_
  refine W.callR (r := (fX2_bodyOf x1)) (W.runS (As := [.int x1]) (rest := [.ref (Q 0)]) ⟨hx, hb, hml, hown, hts⟩ (mX2_bodyOf l x1 (fX2_bodyOf x1) rfl) (va_cwS 1 hts gX2_means_X2_bodyOf rfl rfl rfl (by decide +kernel) ⟨Nat.le_of_ble_eq_true rfl, Nat.le_of_ble_eq_true rfl⟩) ⟨fun _ _ _ _ q => q, fun U hU hW => ⟨rfl, trivial⟩⟩ rfl rfl hl.1 rfl (lv_room (Nat.le_of_ble_eq_true rfl)) dX2_means_16 ⟨Nat.zero_le _, Nat.zero_le _⟩) ?_
  refine W.eq (g2 := F0 m 19 ls [.int (fX2_bodyOf x1), .ref (Q 0)]) rfl ?_
  obtain ⟨r1, hc2, hf⟩ := of_bind_some hf
  refine W.callR (r := r1) (va_Run.run (va_runSN (host := RX8) (As := [.ref (Q 0), .int (fX2_bodyOf x1)]) (rest := []) ⟨hx, hb, hml, hown, hts⟩ (mX8_entry_w l dC dI (Q 0) cI 20 (A 0) (fX2_bodyOf x1) r1 hc2) ⟨va_cnB 2 hts gX2_means_X8_entry_n49 rfl rfl rfl (hE.2.2.2.2.1 (RX2, 49, yX8_entry, RX8) (by decide +kernel)) (hts (.initialized RX8) (by decide +kernel)) (by decide +kernel) ⟨Nat.le_of_ble_eq_true rfl, Nat.le_of_ble_eq_true rfl⟩, hts (.static yX8_entry) (by decide +kernel), trivial⟩ ⟨blindR, fun U hU hW => ⟨rfl, by rw [hU]; exact hP.sub [1] rfl, va_K.moved hW.alike (hK.sub [0] rfl)⟩⟩ rfl rfl hl.1 rfl (lv_room (Nat.le_of_ble_eq_true rfl)) dX2_means_19 ⟨Nat.zero_le _, Nat.zero_le _⟩)) ?_
  refine W.eq (g2 := F0 m 22 ls [.int r1]) rfl ?_
  refine lv_iload hx hb dX2_means_22 (lv_at hl 0 rfl) ?_
  refine lv_ishl hx hb dX2_means_24 ?_
  refine lv_istore (lv' := [(5, .int (r1 <<< ((jrem (x3 + (x1 / (20 : Int32))) (12 : Int32)) &&& 31))), (4, .int (jrem (x3 + (x1 / (20 : Int32))) (12 : Int32))), (0, .ref (Q 100)), (1, .int x1), (2, .int x2), (3, .int x3)]) hx hb dX2_means_25 hl (by decide) rfl (fun ls hl => ?_)
  refine lv_iload hx hb dX2_means_27 (lv_at hl 0 rfl) ?_
  refine lv_iload hx hb dX2_means_29 (lv_at hl 0 rfl) ?_
  refine lv_bipush (v := (12 : Int32)) hx hb dX2_means_31 (by decide) ?_
  refine lv_ishr hx hb dX2_means_33 ?_
  refine lv_ior hx hb dX2_means_34 ?_
  refine lv_sipush (v := (4095 : Int32)) hx hb dX2_means_35 (by decide) ?_
  refine lv_iand hx hb dX2_means_38 ?_
  refine lv_istore (lv' := [(6, .int (((r1 <<< ((jrem (x3 + (x1 / (20 : Int32))) (12 : Int32)) &&& 31)) ||| ((r1 <<< ((jrem (x3 + (x1 / (20 : Int32))) (12 : Int32)) &&& 31)) >>> ((12 : Int32) &&& 31))) &&& (4095 : Int32))), (5, .int (r1 <<< ((jrem (x3 + (x1 / (20 : Int32))) (12 : Int32)) &&& 31))), (4, .int (jrem (x3 + (x1 / (20 : Int32))) (12 : Int32))), (0, .ref (Q 100)), (1, .int x1), (2, .int x2), (3, .int x3)]) hx hb dX2_means_39 hl (by decide) rfl (fun ls hl => ?_)
  refine lv_iload hx hb dX2_means_41 (lv_at hl 0 rfl) ?_
  refine lv_iconst (v := (1 : Int32)) hx hb dX2_means_43 (by decide) ?_
  refine lv_iload_n hx hb dX2_means_44 rfl (lv_at hl 6 rfl) ?_
  refine lv_ishl hx hb dX2_means_45 ?_
  refine lv_ior hx hb dX2_means_46 ?_
  refine lv_iload_n hx hb dX2_means_47 rfl (lv_at hl 5 rfl) ?_
  refine lv_icmp_ne (tgt := 55) hx hb dX2_means_48 (by decide) (fun c3 => ?_) (fun c3 => ?_)
  · have hf := (if_neg c3).symm.trans hf
    refine lv_iconst (v := (0 : Int32)) hx hb dX2_means_55 (by decide) ?_
    exact W.zret (v := (0 : Int32)) hx hb hr rfl (fun t ht hW => ⟨congrArg (fun z => Outcome.returned (some (Value.int z))) (Option.some.inj hf), ht⟩) (fun _ h => nomatch h) dX2_means_56
  · have hf := (if_pos c3).symm.trans hf
    refine lv_iconst (v := (1 : Int32)) hx hb dX2_means_51 (by decide) ?_
    refine lv_goto (tgt := 56) hx hb dX2_means_52 (by decide) ?_
    exact W.zret (v := (1 : Int32)) hx hb hr rfl (fun t ht hW => ⟨congrArg (fun z => Outcome.returned (some (Value.int z))) (Option.some.inj hf), ht⟩) (fun _ h => nomatch h) dX2_means_56
def fX2_find_12B   (k12 : (Nat → Int32) → (Nat → Nat → Int32) → Int32 → Int32 → Int32 → Option (Int32 × (Nat → Int32) × (Nat → Nat → Int32))) (I : Nat → Int32) (A : Nat → Nat → Int32) (v1 : Int32) (v2 : Int32) (v3 : Int32) : Option (Int32 × (Nat → Int32) × (Nat → Nat → Int32)) :=
  (if (240 : Int32) ≤ v3 then (some ((I 2), (I, A))) else ((fX2_means I A v3 v1 v2).bind fun r2 => (if r2 = 0 then (k12 I A v1 v2 (v3 + (1 : Int32))) else (if (240 : Int32) ≤ (I 2) then (k12 I A v1 v2 (v3 + (1 : Int32))) else (if gd (I 2) 240 then (k12 (upd I 2 ((I 2) + (1 : Int32))) (va_up A 1 (upd (A 1) (I 2).toNatClampNeg v3)) v1 v2 (v3 + (1 : Int32))) else none)))))
def fX2_find_12   : Nat → ((Nat → Int32) → (Nat → Nat → Int32) → Int32 → Int32 → Int32 → Option (Int32 × (Nat → Int32) × (Nat → Nat → Int32)))
  | 0 => fun _ _ _ _ _ => none
  | n + 1 => fX2_find_12B   (fX2_find_12   n)
def fX2_find  (I : Nat → Int32) (A : Nat → Nat → Int32) (x1 : Int32) (x2 : Int32) : Option (Int32 × (Nat → Int32) × (Nat → Nat → Int32)) :=
  (fX2_find_12   FU (upd (upd I 3 x2) 2 (0 : Int32)) A x1 x2 (0 : Int32))
set_option maxRecDepth 100000 in
set_option maxHeartbeats 4000000 in
theorem mX2_find (l : Launch) (en : Nat → Nat) (dC : Nat → ClassId) (dI : Nat → Nat → Nat) (cI : ClassId) (Q : Nat → Nat)  (I : Nat → Int32) (A : Nat → Nat → Int32) (x1 : Int32) (x2 : Int32) (sz : Nat) (z : Int32 × (Nat → Int32) × (Nat → Nat → Int32)) (hf : fX2_find I A x1 x2 = some z) : Met l yX2_find wsX2_find ({ frames := 2, cells := 0, slots := 0, locals := 47 }) (va_Pc [.ref (Q 100), .int x1, .int x2] (fun U => U.heap.size = sz ∧ va_P (dC, dI) vwCl (wN cI Q I A) U.heap ∧ va_K (dC, dI) vwCl [(cI, .int)] U ∧ va_D (fun _ => True) (wN cI Q I A) ∧ cE en (va_A (wN cI Q I A) sz) U U.heap)) (va_Qi (fun (r : Int32) (u : (Nat → Int32) × (Nat → Nat → Int32)) => (r, u) = z) (atN dC dI cI Q (va_A (wN cI Q I A) sz)) (va_A (wN cI Q I A) sz)) 0 0 (va_A (wN cI Q I A) sz) := by
  refine Met.ofW (cc := cX2_find) (maxL := 4) (ret := (some .int)) (by decide) rfl ?_
  intro p e s m args below meth c s₁ BL hml hv
  obtain ⟨rfl, hsz, hP, hK, hD0, hE⟩ := hv
  have hx := BL.exec
  have hb := BL.bytes
  have hr := BL.returns
  have hts := atoms_spec (ws := wsX2_find) BL.pre
  have hown : s.vm.findClass RX2 = some m.cls := findClass_of_methodNamed BL.named
  have hlocks := BL.notSynchronized
  have hinX2 : ∀ w ∈ u_ws RX2 TX2 4, w ∈ wsX2_find := by decide +kernel
  have hk17 := hts (.fieldLink RX2 17 "LeadSheets$Names" "found" "[I") (by decide +kernel)
  have hk38 := hts (.fieldLink RX2 38 "LeadSheets$Names" "foundBass" "I") (by decide +kernel)
  have hk42 := hts (.fieldLink RX2 42 "LeadSheets$Names" "size" "I") (by decide +kernel)
  subst hsz
  have hD := hD0.self (sz := s.heap.size)
  generalize hAe : va_A (wN cI Q I A) s.heap.size = AA at hD hE ⊢
  have hA : ∀ q : Nat, s.heap.size ≤ q → AA q := fun q h => by rw [← hAe]; exact Or.inr h
  have hS : va_S AA s.heap s.heap [] := va_S.rf
  have sg12 : ∀ n : Nat, ∀ (I : Nat → Int32) (A : Nat → Nat → Int32) (v1 : Int32) (v2 : Int32) (v3 : Int32) (H : Heap) (locs : List Loc) (ls : Array Slot), fX2_find_12   n I A v1 v2 v3 = some z → va_P (dC, dI) vwCl (wN cI Q I A) H → va_D AA (wN cI Q I A) → va_S AA s.heap H locs → lv_has ls 4 [(0, .ref (Q 100)), (1, .int v1), (2, .int v2), (3, .int v3)] → W p l e (headSpec wsX2_find ({ frames := 2, cells := 0, slots := 0, locals := 47 })).room s m (([.ref (Q 100), .int x1, .int x2] : List Value).toArray) below meth c H locs 0 0 (MQ below (va_Qi (fun (r : Int32) (u : (Nat → Int32) × (Nat → Nat → Int32)) => (r, u) = z) (atN dC dI cI Q AA) AA) (([.ref (Q 100), .int x1, .int x2] : List Value).toArray) s 0 0 AA) (F0 m 12 ls []) := by
    intro n
    induction n with
    | zero => intro I A v1 v2 v3 H locs ls hf hP hD hS hl; exact of_none hf
    | succ n ih12 =>
      intro I A v1 v2 v3 H locs ls hf hP hD hS hl
      change fX2_find_12B   (fX2_find_12   n) I A v1 v2 v3 = _ at hf
      unfold fX2_find_12B at hf
      refine lv_iload_n hx hb dX2_find_12 rfl (lv_at hl 3 rfl) ?_
      refine lv_sipush (v := (240 : Int32)) hx hb dX2_find_13 (by decide) ?_
      refine lv_icmp_ge (tgt := 67) hx hb dX2_find_16 (by decide) (fun c1 => ?_) (fun c1 => ?_)
      · have hf := (if_pos c1).symm.trans hf
        refine lv_aload_n hx hb dX2_find_67 rfl (lv_at hl 0 rfl) ?_
        refine va_get (D := (dC, dI)) (ci := 1) (v := .int (I 2)) (C := RX2) (T := TX2) (N := 4) hx hb hts hinX2 hown hK hP 0 rfl rfl 2 (by decide) hk42 (fun _ h9 => h9) rfl dX2_find_68 ?_
        exact W.iret (v := (I 2)) hx hb hr (fun t ht hW => ⟨⟨(I 2), (I, A), rfl, Option.some.inj hf, by rw [ht]; exact hP, va_K.moved hW.alike hK, hD⟩, hS.F ht⟩) hS.2.2 dX2_find_71
      · have hf := (if_neg c1).symm.trans hf
        refine lv_aload_n hx hb dX2_find_19 rfl (lv_at hl 0 rfl) ?_
        refine lv_iload_n hx hb dX2_find_20 rfl (lv_at hl 3 rfl) ?_
        refine lv_iload_n hx hb dX2_find_21 rfl (lv_at hl 1 rfl) ?_
        refine lv_iload_n hx hb dX2_find_22 rfl (lv_at hl 2 rfl) ?_
        obtain ⟨r2, hc3, hf⟩ := of_bind_some hf
        refine W.callR (r := r2) (W.runV (As := [.int v3, .int v1, .int v2]) (rest := []) ⟨hx, hb, hml, hown, hts⟩ (mX2_means l en dC dI cI Q I A v3 v1 v2 r2 hc3) (cwV 3 hts gX2_find_X2_means rfl rfl rfl (by decide +kernel) ⟨Nat.le_of_ble_eq_true rfl, Nat.le_of_ble_eq_true rfl⟩) ⟨blindRE, va_recv hK hP (ci := 1) (q0 := 0) rfl rfl, fun U hU hW => ⟨rfl, by rw [hU]; exact hP, va_K.moved hW.alike hK, cE_read hE hS hW hU⟩⟩ rfl rfl hl.1 rfl (lv_room (Nat.le_of_ble_eq_true rfl)) dX2_find_23 ⟨Nat.zero_le _, Nat.zero_le _⟩) ?_
        refine W.eq (g2 := F0 m 26 ls [.int r2]) rfl ?_
        refine lv_if_eq (tgt := 61) hx hb dX2_find_26 (by decide) (fun c4 => ?_) (fun c4 => ?_)
        · have hf := (if_pos c4).symm.trans hf
          refine lv_iinc (v := (v3 + (1 : Int32))) (lv' := [(3, .int (v3 + (1 : Int32))), (0, .ref (Q 100)), (1, .int v1), (2, .int v2)]) hx hb dX2_find_61 hl (k := 3) rfl rfl (by decide) rfl (fun ls hl => ?_)
          refine lv_goto (tgt := 12) hx hb dX2_find_64 (by decide) ?_
          exact ih12 I A v1 v2 (v3 + (1 : Int32)) H locs ls hf hP hD hS (lv_sub hl [1, 2, 3, 0] rfl)
        · have hf := (if_neg c4).symm.trans hf
          refine lv_aload_n hx hb dX2_find_29 rfl (lv_at hl 0 rfl) ?_
          refine va_get (D := (dC, dI)) (ci := 1) (v := .int (I 2)) (C := RX2) (T := TX2) (N := 4) hx hb hts hinX2 hown hK hP 0 rfl rfl 2 (by decide) hk42 (fun _ h9 => h9) rfl dX2_find_30 ?_
          refine lv_aload_n hx hb dX2_find_33 rfl (lv_at hl 0 rfl) ?_
          refine va_get (D := (dC, dI)) (ci := 1) (v := .ref (Q 1)) (C := RX2) (T := TX2) (N := 4) hx hb hts hinX2 hown hK hP 0 rfl rfl 1 (by decide) hk17 (fun _ h9 => h9) rfl dX2_find_34 ?_
          refine va_alen (v := (240 : Int32)) hx hb hK hP 2 0 rfl rfl rfl dX2_find_37 ?_
          refine lv_icmp_ge (tgt := 61) hx hb dX2_find_38 (by decide) (fun c5 => ?_) (fun c5 => ?_)
          · have hf := (if_pos c5).symm.trans hf
            refine lv_iinc (v := (v3 + (1 : Int32))) (lv' := [(3, .int (v3 + (1 : Int32))), (0, .ref (Q 100)), (1, .int v1), (2, .int v2)]) hx hb dX2_find_61 hl (k := 3) rfl rfl (by decide) rfl (fun ls hl => ?_)
            refine lv_goto (tgt := 12) hx hb dX2_find_64 (by decide) ?_
            exact ih12 I A v1 v2 (v3 + (1 : Int32)) H locs ls hf hP hD hS (lv_sub hl [1, 2, 3, 0] rfl)
          · have hf := (if_neg c5).symm.trans hf
            refine lv_aload_n hx hb dX2_find_41 rfl (lv_at hl 0 rfl) ?_
            refine va_get (D := (dC, dI)) (ci := 1) (v := .ref (Q 1)) (C := RX2) (T := TX2) (N := 4) hx hb hts hinX2 hown hK hP 0 rfl rfl 1 (by decide) hk17 (fun _ h9 => h9) rfl dX2_find_42 ?_
            refine lv_aload_n hx hb dX2_find_45 rfl (lv_at hl 0 rfl) ?_
            refine va_get (D := (dC, dI)) (ci := 1) (v := .int (I 2)) (C := RX2) (T := TX2) (N := 4) hx hb hts hinX2 hown hK hP 0 rfl rfl 2 (by decide) hk42 (fun _ h9 => h9) rfl dX2_find_46 ?_
            refine lv_iload_n hx hb dX2_find_49 rfl (lv_at hl 3 rfl) ?_
            obtain ⟨g6, hf⟩ := of_ite_some hf
            refine va_iast hx hb hK hP hD hS 2 0 (n := 240) (f := (A 1)) rfl rfl g6 dX2_find_50 (fun H locs hP hD hS => ?_)
            have hP : va_P (dC, dI) vwCl (wN cI Q I (va_up A 1 (upd (A 1) (I 2).toNatClampNeg v3))) H := Eq.mp (congrArg (fun w => va_P (dC, dI) vwCl w H) (wNA_1 cI Q I A (upd (A 1) (I 2).toNatClampNeg v3))) hP
            have hD : va_D AA (wN cI Q I (va_up A 1 (upd (A 1) (I 2).toNatClampNeg v3))) := Eq.mp (congrArg (fun w => va_D AA w) (wNA_1 cI Q I A (upd (A 1) (I 2).toNatClampNeg v3))) hD
            refine lv_aload_n hx hb dX2_find_51 rfl (lv_at hl 0 rfl) ?_
            refine lv_dup hx hb dX2_find_52 rfl ?_
            refine va_get (D := (dC, dI)) (ci := 1) (v := .int (I 2)) (C := RX2) (T := TX2) (N := 4) hx hb hts hinX2 hown hK hP 0 rfl rfl 2 (by decide) hk42 (fun _ h9 => h9) rfl dX2_find_53 ?_
            refine lv_iconst (v := (1 : Int32)) hx hb dX2_find_56 (by decide) ?_
            refine lv_iadd hx hb dX2_find_57 ?_
            refine va_put (D := (dC, dI)) (ci := 1) (v := .int ((I 2) + (1 : Int32))) (ty := .int) (C := RX2) (T := TX2) (N := 4) hx hb hts hinX2 tyX2 tyX2_ok nmX2 hown hK hP hD hS 0 (fs := (oN Q I)) rfl rfl 2 (by decide) hk42 (fun _ h9 => h9) rfl (by decide +kernel) rfl rfl (Nat.le_of_ble_eq_true rfl) dX2_find_58 (fun H locs hP hD hS => ?_)
            have hP : va_P (dC, dI) vwCl (wN cI Q (upd I 2 ((I 2) + (1 : Int32))) (va_up A 1 (upd (A 1) (I 2).toNatClampNeg v3))) H := Eq.mp (congrArg (fun w => va_P (dC, dI) vwCl w H) (wNI_2 cI Q I (va_up A 1 (upd (A 1) (I 2).toNatClampNeg v3)) ((I 2) + (1 : Int32)))) hP
            have hD : va_D AA (wN cI Q (upd I 2 ((I 2) + (1 : Int32))) (va_up A 1 (upd (A 1) (I 2).toNatClampNeg v3))) := Eq.mp (congrArg (fun w => va_D AA w) (wNI_2 cI Q I (va_up A 1 (upd (A 1) (I 2).toNatClampNeg v3)) ((I 2) + (1 : Int32)))) hD
            refine lv_iinc (v := (v3 + (1 : Int32))) (lv' := [(3, .int (v3 + (1 : Int32))), (0, .ref (Q 100)), (1, .int v1), (2, .int v2)]) hx hb dX2_find_61 hl (k := 3) rfl rfl (by decide) rfl (fun ls hl => ?_)
            refine lv_goto (tgt := 12) hx hb dX2_find_64 (by decide) ?_
            exact ih12 (upd I 2 ((I 2) + (1 : Int32))) (va_up A 1 (upd (A 1) (I 2).toNatClampNeg v3)) v1 v2 (v3 + (1 : Int32)) H locs ls hf hP hD hS (lv_sub hl [1, 2, 3, 0] rfl)
  have hl := lv_entry ([.ref (Q 100), .int x1, .int x2]) (n := 4) (Nat.le_of_ble_eq_true rfl)
  rw [lg_entry_eq]
  generalize (lg_sl ([.ref (Q 100), .int x1, .int x2]) ++ List.replicate (4 - (lg_sl ([.ref (Q 100), .int x1, .int x2])).length) Slot.unset).toArray = ls at hl ⊢
  have hl : lv_has ls 4 [(0, .ref (Q 100)), (1, .int x1), (2, .int x2)] := hl
  unfold fX2_find at hf
  refine lv_aload_n hx hb dX2_find_0 rfl (lv_at hl 0 rfl) ?_
  refine lv_iload_n hx hb dX2_find_1 rfl (lv_at hl 2 rfl) ?_
  refine va_put (D := (dC, dI)) (ci := 1) (v := .int x2) (ty := .int) (C := RX2) (T := TX2) (N := 4) hx hb hts hinX2 tyX2 tyX2_ok nmX2 hown hK hP hD hS 0 (fs := (oN Q I)) rfl rfl 3 (by decide) hk38 (fun _ h9 => h9) rfl (by decide +kernel) rfl rfl (Nat.le_of_ble_eq_true rfl) dX2_find_2 (fun H locs hP hD hS => ?_)
  have hP : va_P (dC, dI) vwCl (wN cI Q (upd I 3 x2) A) H := Eq.mp (congrArg (fun w => va_P (dC, dI) vwCl w H) (wNI_3 cI Q I A x2)) hP
  have hD : va_D AA (wN cI Q (upd I 3 x2) A) := Eq.mp (congrArg (fun w => va_D AA w) (wNI_3 cI Q I A x2)) hD
  refine lv_aload_n hx hb dX2_find_5 rfl (lv_at hl 0 rfl) ?_
  refine lv_iconst (v := (0 : Int32)) hx hb dX2_find_6 (by decide) ?_
  refine va_put (D := (dC, dI)) (ci := 1) (v := .int (0 : Int32)) (ty := .int) (C := RX2) (T := TX2) (N := 4) hx hb hts hinX2 tyX2 tyX2_ok nmX2 hown hK hP hD hS 0 (fs := (oN Q (upd I 3 x2))) rfl rfl 2 (by decide) hk42 (fun _ h9 => h9) rfl (by decide +kernel) rfl rfl (Nat.le_of_ble_eq_true rfl) dX2_find_7 (fun H locs hP hD hS => ?_)
  have hP : va_P (dC, dI) vwCl (wN cI Q (upd (upd I 3 x2) 2 (0 : Int32)) A) H := Eq.mp (congrArg (fun w => va_P (dC, dI) vwCl w H) (wNI_2 cI Q (upd I 3 x2) A (0 : Int32))) hP
  have hD : va_D AA (wN cI Q (upd (upd I 3 x2) 2 (0 : Int32)) A) := Eq.mp (congrArg (fun w => va_D AA w) (wNI_2 cI Q (upd I 3 x2) A (0 : Int32))) hD
  refine lv_iconst (v := (0 : Int32)) hx hb dX2_find_10 (by decide) ?_
  refine lv_istore_n (lv' := [(3, .int (0 : Int32)), (0, .ref (Q 100)), (1, .int x1), (2, .int x2)]) hx hb dX2_find_11 rfl hl (by decide) rfl (fun ls hl => ?_)
  exact sg12  FU (upd (upd I 3 x2) 2 (0 : Int32)) A x1 x2 (0 : Int32) H locs ls hf hP hD hS (lv_sub hl [1, 2, 3, 0] rfl)
def fX2_first_2B (I : Nat → Int32) (A : Nat → Nat → Int32)  (k2 : Int32 → Int32 → Int32 → Option Int32)  (v1 : Int32) (v2 : Int32) (v3 : Int32) : Option Int32 :=
  (if (240 : Int32) ≤ v3 then (some (-1 : Int32)) else ((fX2_means I A v3 v1 v2).bind fun r2 => (if r2 = 0 then (k2 v1 v2 (v3 + (1 : Int32))) else (some v3))))
def fX2_first_2 (I : Nat → Int32) (A : Nat → Nat → Int32)  : Nat → (Int32 → Int32 → Int32 → Option Int32)
  | 0 => fun _ _ _ => none
  | n + 1 => fX2_first_2B I A  (fX2_first_2 I A  n)
def fX2_first (I : Nat → Int32) (A : Nat → Nat → Int32)  (x1 : Int32) (x2 : Int32) : Option Int32 :=
  (fX2_first_2 I A  FU x1 x2 (0 : Int32))
set_option maxRecDepth 100000 in
set_option maxHeartbeats 4000000 in
theorem mX2_first (l : Launch) (en : Nat → Nat) (dC : Nat → ClassId) (dI : Nat → Nat → Nat) (cI : ClassId) (Q : Nat → Nat) (I : Nat → Int32) (A : Nat → Nat → Int32)  (x1 : Int32) (x2 : Int32) (r : Int32) (hf : fX2_first I A x1 x2 = some r) : Met l yX2_first wsX2_first ({ frames := 2, cells := 0, slots := 0, locals := 47 }) (va_Pc [.ref (Q 100), .int x1, .int x2] (fun U => va_P (dC, dI) vwCl (wN cI Q I A) U.heap ∧ va_K (dC, dI) vwCl [(cI, .int)] U ∧ cE en NA U U.heap)) (QcRead r) 0 0 (fun _ => False) := by
  refine Met.ofW (cc := cX2_first) (maxL := 4) (ret := (some .int)) (by decide) rfl ?_
  intro p e s m args below meth c s₁ BL hml hv
  obtain ⟨rfl, hP, hK, hE⟩ := hv
  have hS : va_S NA s.heap s.heap [] := va_S.rf
  have hx := BL.exec
  have hb := BL.bytes
  have hr := BL.returns
  have hts := atoms_spec (ws := wsX2_first) BL.pre
  have hown : s.vm.findClass RX2 = some m.cls := findClass_of_methodNamed BL.named
  have hlocks := BL.notSynchronized
  have sg2 : ∀ n : Nat, ∀  (v1 : Int32) (v2 : Int32) (v3 : Int32) (ls : Array Slot), fX2_first_2 I A  n  v1 v2 v3 = some r → lv_has ls 4 [(0, .ref (Q 100)), (1, .int v1), (2, .int v2), (3, .int v3)] → W p l e (headSpec wsX2_first ({ frames := 2, cells := 0, slots := 0, locals := 47 })).room s m (([.ref (Q 100), .int x1, .int x2] : List Value).toArray) below meth c s.heap [] 0 0 (MQ below (QcRead r) (([.ref (Q 100), .int x1, .int x2] : List Value).toArray) s 0 0 (fun _ => False)) (F0 m 2 ls []) := by
    intro n
    induction n with
    | zero => intro v1 v2 v3 ls hf hl; exact of_none hf
    | succ n ih2 =>
      intro v1 v2 v3 ls hf hl
      change fX2_first_2B I A  (fX2_first_2 I A  n) v1 v2 v3 = _ at hf
      unfold fX2_first_2B at hf
      refine lv_iload_n hx hb dX2_first_2 rfl (lv_at hl 3 rfl) ?_
      refine lv_sipush (v := (240 : Int32)) hx hb dX2_first_3 (by decide) ?_
      refine lv_icmp_ge (tgt := 27) hx hb dX2_first_6 (by decide) (fun c1 => ?_) (fun c1 => ?_)
      · have hf := (if_pos c1).symm.trans hf
        refine lv_iconst (v := (-1 : Int32)) hx hb dX2_first_27 (by decide) ?_
        exact W.iret (v := (-1 : Int32)) hx hb hr (fun t ht hW => ⟨congrArg (fun z => Outcome.returned (some (Value.int z))) (Option.some.inj hf), ht⟩) (fun _ h => nomatch h) dX2_first_28
      · have hf := (if_neg c1).symm.trans hf
        refine lv_aload_n hx hb dX2_first_9 rfl (lv_at hl 0 rfl) ?_
        refine lv_iload_n hx hb dX2_first_10 rfl (lv_at hl 3 rfl) ?_
        refine lv_iload_n hx hb dX2_first_11 rfl (lv_at hl 1 rfl) ?_
        refine lv_iload_n hx hb dX2_first_12 rfl (lv_at hl 2 rfl) ?_
        obtain ⟨r2, hc3, hf⟩ := of_bind_some hf
        refine W.callR (r := r2) (W.runV (As := [.int v3, .int v1, .int v2]) (rest := []) ⟨hx, hb, hml, hown, hts⟩ (mX2_means l en dC dI cI Q I A v3 v1 v2 r2 hc3) (cwV 3 hts gX2_first_X2_means rfl rfl rfl (by decide +kernel) ⟨Nat.le_of_ble_eq_true rfl, Nat.le_of_ble_eq_true rfl⟩) ⟨blindRE, va_recv hK hP (ci := 1) (q0 := 0) rfl rfl, fun U hU hW => ⟨rfl, by rw [hU]; exact hP, va_K.moved hW.alike hK, cE_read hE hS hW hU⟩⟩ rfl rfl hl.1 rfl (lv_room (Nat.le_of_ble_eq_true rfl)) dX2_first_13 ⟨Nat.zero_le _, Nat.zero_le _⟩) ?_
        refine W.eq (g2 := F0 m 16 ls [.int r2]) rfl ?_
        refine lv_if_eq (tgt := 21) hx hb dX2_first_16 (by decide) (fun c4 => ?_) (fun c4 => ?_)
        · have hf := (if_pos c4).symm.trans hf
          refine lv_iinc (v := (v3 + (1 : Int32))) (lv' := [(3, .int (v3 + (1 : Int32))), (0, .ref (Q 100)), (1, .int v1), (2, .int v2)]) hx hb dX2_first_21 hl (k := 3) rfl rfl (by decide) rfl (fun ls hl => ?_)
          refine lv_goto (tgt := 2) hx hb dX2_first_24 (by decide) ?_
          exact ih2 v1 v2 (v3 + (1 : Int32)) ls hf (lv_sub hl [1, 2, 3, 0] rfl)
        · have hf := (if_neg c4).symm.trans hf
          refine lv_iload_n hx hb dX2_first_19 rfl (lv_at hl 3 rfl) ?_
          exact W.iret (v := v3) hx hb hr (fun t ht hW => ⟨congrArg (fun z => Outcome.returned (some (Value.int z))) (Option.some.inj hf), ht⟩) (fun _ h => nomatch h) dX2_first_20
  have hl := lv_entry ([.ref (Q 100), .int x1, .int x2]) (n := 4) (Nat.le_of_ble_eq_true rfl)
  rw [lg_entry_eq]
  generalize (lg_sl ([.ref (Q 100), .int x1, .int x2]) ++ List.replicate (4 - (lg_sl ([.ref (Q 100), .int x1, .int x2])).length) Slot.unset).toArray = ls at hl ⊢
  have hl : lv_has ls 4 [(0, .ref (Q 100)), (1, .int x1), (2, .int x2)] := hl
  unfold fX2_first at hf
  refine lv_iconst (v := (0 : Int32)) hx hb dX2_first_0 (by decide) ?_
  refine lv_istore_n (lv' := [(3, .int (0 : Int32)), (0, .ref (Q 100)), (1, .int x1), (2, .int x2)]) hx hb dX2_first_1 rfl hl (by decide) rfl (fun ls hl => ?_)
  exact sg2  FU x1 x2 (0 : Int32) ls hf (lv_sub hl [1, 2, 3, 0] rfl)
def fX2_placeOf (I : Nat → Int32) (A : Nat → Nat → Int32)  (x1 : Int32) : Option Int32 :=
  (if x1 < 0 then (some (-1 : Int32)) else (if (I 2) ≤ x1 then (some (-1 : Int32)) else (if (240 : Int32) ≤ x1 then (some (-1 : Int32)) else (if gd x1 240 then (some ((A 1) x1.toNatClampNeg)) else none))))
set_option maxRecDepth 100000 in
set_option maxHeartbeats 4000000 in
theorem mX2_placeOf (l : Launch) (dC : Nat → ClassId) (dI : Nat → Nat → Nat) (cI : ClassId) (Q : Nat → Nat) (I : Nat → Int32) (A : Nat → Nat → Int32)  (x1 : Int32) (r : Int32) (hf : fX2_placeOf I A x1 = some r) : Met l yX2_placeOf wsX2_placeOf ({ frames := 0, cells := 0, slots := 0, locals := 0 }) (va_Pc [.ref (Q 100), .int x1] (fun U => va_P (dC, dI) vwCl (wN cI Q I A) U.heap ∧ va_K (dC, dI) vwCl [(cI, .int)] U)) (QcRead r) 0 0 (fun _ => False) := by
  refine Met.ofW (cc := cX2_placeOf) (maxL := 2) (ret := (some .int)) (by decide) rfl ?_
  intro p e s m args below meth c s₁ BL hml hv
  obtain ⟨rfl, hP, hK⟩ := hv
  have hx := BL.exec
  have hb := BL.bytes
  have hr := BL.returns
  have hts := atoms_spec (ws := wsX2_placeOf) BL.pre
  have hown : s.vm.findClass RX2 = some m.cls := findClass_of_methodNamed BL.named
  have hlocks := BL.notSynchronized
  have hinX2 : ∀ w ∈ u_ws RX2 TX2 4, w ∈ wsX2_placeOf := by decide +kernel
  have hk17 := hts (.fieldLink RX2 17 "LeadSheets$Names" "found" "[I") (by decide +kernel)
  have hk42 := hts (.fieldLink RX2 42 "LeadSheets$Names" "size" "I") (by decide +kernel)
  have hl := lv_entry ([.ref (Q 100), .int x1]) (n := 2) (Nat.le_of_ble_eq_true rfl)
  rw [lg_entry_eq]
  generalize (lg_sl ([.ref (Q 100), .int x1]) ++ List.replicate (2 - (lg_sl ([.ref (Q 100), .int x1])).length) Slot.unset).toArray = ls at hl ⊢
  have hl : lv_has ls 2 [(0, .ref (Q 100)), (1, .int x1)] := hl
  unfold fX2_placeOf at hf
  refine lv_iload_n hx hb dX2_placeOf_0 rfl (lv_at hl 1 rfl) ?_
  refine lv_if_lt (tgt := 30) hx hb dX2_placeOf_1 (by decide) (fun c1 => ?_) (fun c1 => ?_)
  · have hf := (if_pos c1).symm.trans hf
    refine lv_iconst (v := (-1 : Int32)) hx hb dX2_placeOf_30 (by decide) ?_
    exact W.iret (v := (-1 : Int32)) hx hb hr (fun t ht hW => ⟨congrArg (fun z => Outcome.returned (some (Value.int z))) (Option.some.inj hf), ht⟩) (fun _ h => nomatch h) dX2_placeOf_31
  · have hf := (if_neg c1).symm.trans hf
    refine lv_iload_n hx hb dX2_placeOf_4 rfl (lv_at hl 1 rfl) ?_
    refine lv_aload_n hx hb dX2_placeOf_5 rfl (lv_at hl 0 rfl) ?_
    refine va_get (D := (dC, dI)) (ci := 1) (v := .int (I 2)) (C := RX2) (T := TX2) (N := 4) hx hb hts hinX2 hown hK hP 0 rfl rfl 2 (by decide) hk42 (fun _ h9 => h9) rfl dX2_placeOf_6 ?_
    refine lv_icmp_ge (tgt := 30) hx hb dX2_placeOf_9 (by decide) (fun c2 => ?_) (fun c2 => ?_)
    · have hf := (if_pos c2).symm.trans hf
      refine lv_iconst (v := (-1 : Int32)) hx hb dX2_placeOf_30 (by decide) ?_
      exact W.iret (v := (-1 : Int32)) hx hb hr (fun t ht hW => ⟨congrArg (fun z => Outcome.returned (some (Value.int z))) (Option.some.inj hf), ht⟩) (fun _ h => nomatch h) dX2_placeOf_31
    · have hf := (if_neg c2).symm.trans hf
      refine lv_iload_n hx hb dX2_placeOf_12 rfl (lv_at hl 1 rfl) ?_
      refine lv_aload_n hx hb dX2_placeOf_13 rfl (lv_at hl 0 rfl) ?_
      refine va_get (D := (dC, dI)) (ci := 1) (v := .ref (Q 1)) (C := RX2) (T := TX2) (N := 4) hx hb hts hinX2 hown hK hP 0 rfl rfl 1 (by decide) hk17 (fun _ h9 => h9) rfl dX2_placeOf_14 ?_
      refine va_alen (v := (240 : Int32)) hx hb hK hP 2 0 rfl rfl rfl dX2_placeOf_17 ?_
      refine lv_icmp_ge (tgt := 30) hx hb dX2_placeOf_18 (by decide) (fun c3 => ?_) (fun c3 => ?_)
      · have hf := (if_pos c3).symm.trans hf
        refine lv_iconst (v := (-1 : Int32)) hx hb dX2_placeOf_30 (by decide) ?_
        exact W.iret (v := (-1 : Int32)) hx hb hr (fun t ht hW => ⟨congrArg (fun z => Outcome.returned (some (Value.int z))) (Option.some.inj hf), ht⟩) (fun _ h => nomatch h) dX2_placeOf_31
      · have hf := (if_neg c3).symm.trans hf
        refine lv_aload_n hx hb dX2_placeOf_21 rfl (lv_at hl 0 rfl) ?_
        refine va_get (D := (dC, dI)) (ci := 1) (v := .ref (Q 1)) (C := RX2) (T := TX2) (N := 4) hx hb hts hinX2 hown hK hP 0 rfl rfl 1 (by decide) hk17 (fun _ h9 => h9) rfl dX2_placeOf_22 ?_
        refine lv_iload_n hx hb dX2_placeOf_25 rfl (lv_at hl 1 rfl) ?_
        obtain ⟨g4, hf⟩ := of_ite_some hf
        refine va_iald hx hb hK hP 2 0 (n := 240) (f := (A 1)) rfl rfl g4 dX2_placeOf_26 ?_
        refine lv_goto (tgt := 31) hx hb dX2_placeOf_27 (by decide) ?_
        exact W.iret (v := ((A 1) x1.toNatClampNeg)) hx hb hr (fun t ht hW => ⟨congrArg (fun z => Outcome.returned (some (Value.int z))) (Option.some.inj hf), ht⟩) (fun _ h => nomatch h) dX2_placeOf_31
