def fX8_of (nC : Nat) (ck : Nat → Nat → Int32) (J : Nat → Nat → Int32) (E : Nat → Nat → Nat → Int32) (L : Nat → Int64)  (x1 : Int32) (x2 : Int32) : Option Int32 :=
  (ckAt nC J x1 (if x2 = (0 : Int32) then ((fX3_pitch (ck x1.toNatClampNeg 0)).bind fun r2 => (some r2)) else (if x2 = (1 : Int32) then ((fX3_pitch (ck x1.toNatClampNeg 2)).bind fun r5 => (some r5)) else (if x2 = (2 : Int32) then (some (fJ6_bitCount_0f7a4 (ck x1.toNatClampNeg 1))) else (if x2 = (3 : Int32) then ((fX1_pitches (ck x1.toNatClampNeg) ).bind fun r9 => (some r9)) else (if x2 = (4 : Int32) then ((fX4_weight (ck x1.toNatClampNeg 0) (ck x1.toNatClampNeg 1) (ck x1.toNatClampNeg 2)).bind fun r12 => (some r12)) else (if x2 = (5 : Int32) then ((fX1_body (ck x1.toNatClampNeg) ).bind fun r15 => (if r15 = (20 : Int32) then (some (-2 : Int32)) else ((fX1_body (ck x1.toNatClampNeg) ).bind fun r18 => (some r18)))) else (if x2 = (6 : Int32) then (if (ck x1.toNatClampNeg 3) = 0 then (some (0 : Int32)) else (some (1 : Int32))) else (some (-1 : Int32))))))))) (some (-1 : Int32)))
set_option maxRecDepth 100000 in
set_option maxHeartbeats 4000000 in
theorem mX8_of (l : Launch) (en : Nat → Nat) (dC : Nat → ClassId) (dI : Nat → Nat → Nat) (cI cC : ClassId) (G : Nat → Nat → Nat) (ca : Nat → Nat) (nC : Nat) (ck : Nat → Nat → Int32) (J : Nat → Nat → Int32) (E : Nat → Nat → Nat → Int32) (L : Nat → Int64)  (x1 : Int32) (x2 : Int32) (r : Int32) (hf : fX8_of nC ck J E L x1 x2 = some r) : Met l yX8_of wsX8_of ({ frames := 5, cells := 0, slots := 0, locals := 111 }) (va_Pc [.ref (G 0 100), .int x1, .int x2] (fun U => va_P (dC, dI) vwCl (wC cI cC G ca nC ck J E L) U.heap ∧ va_K (dC, dI) vwCl (t8 cI cC) U ∧ cE en NA U U.heap)) (QcRead r) 0 0 (fun _ => False) := by
  refine Met.ofW (cc := cX8_of) (maxL := 4) (ret := (some .int)) (by decide) rfl ?_
  intro p e s m args below meth c s₁ BL hml hv
  obtain ⟨rfl, hP, hK, hE⟩ := hv
  have hS : va_S NA s.heap s.heap [] := va_S.rf
  have hx := BL.exec
  have hb := BL.bytes
  have hr := BL.returns
  have hts := atoms_spec (ws := wsX8_of) BL.pre
  have hown : s.vm.findClass RX8 = some m.cls := findClass_of_methodNamed BL.named
  have hlocks := BL.notSynchronized
  have hinX1 : ∀ w ∈ u_ws RX1 TX1 4, w ∈ wsX8_of := by decide +kernel
  have hk66 := hts (.fieldLink RX8 66 "LeadSheets$Chord" "root" "I") (by decide +kernel)
  have hk75 := hts (.fieldLink RX8 75 "LeadSheets$Chord" "bass" "I") (by decide +kernel)
  have hk78 := hts (.fieldLink RX8 78 "LeadSheets$Chord" "steps" "I") (by decide +kernel)
  have hk101 := hts (.fieldLink RX8 101 "LeadSheets$Chord" "slashed" "Z") (by decide +kernel)
  have hl := lv_entry ([.ref (G 0 100), .int x1, .int x2]) (n := 4) (Nat.le_of_ble_eq_true rfl)
  rw [lg_entry_eq]
  generalize (lg_sl ([.ref (G 0 100), .int x1, .int x2]) ++ List.replicate (4 - (lg_sl ([.ref (G 0 100), .int x1, .int x2])).length) Slot.unset).toArray = ls at hl ⊢
  have hl : lv_has ls 4 [(0, .ref (G 0 100)), (1, .int x1), (2, .int x2)] := hl
  unfold fX8_of at hf
  refine lv_aload_n hx hb dX8_of_0 rfl (lv_at hl 0 rfl) ?_
  refine lv_iload_n hx hb dX8_of_1 rfl (lv_at hl 1 rfl) ?_
  rcases of_ckAt ca hf with ⟨hq, hf⟩ | ⟨hki, hq, hf⟩
  · refine va_csq (W.runV (As := [.int x1]) (rest := []) ⟨hx, hb, hml, hown, hts⟩ (mX8_chordAt l dC dI cI cC G ca nC ck J E L x1 none hq) (cwV 1 hts gX8_of_X8_chordAt rfl rfl rfl (by decide +kernel) ⟨Nat.le_of_ble_eq_true rfl, Nat.le_of_ble_eq_true rfl⟩) ⟨blindR, va_recv hK hP (ci := 5) (q0 := 0) rfl rfl, fun U hU hW => ⟨rfl, by rw [hU]; exact hP, va_K.moved hW.alike hK⟩⟩ rfl rfl hl.1 rfl (lv_room (Nat.le_of_ble_eq_true rfl)) dX8_of_2 ⟨Nat.zero_le _, Nat.zero_le _⟩) (fun rq hrq => ?_)
    subst hrq
    refine W.eq (g2 := F0 m 5 ls [.null]) rfl ?_
    refine lv_astore_nN (lv' := [(3, .null), (0, .ref (G 0 100)), (1, .int x1), (2, .int x2)]) hx hb dX8_of_5 rfl hl (by decide) rfl (fun ls hl => ?_)
    refine lv_aload_nN hx hb dX8_of_6 rfl (lv_at hl 0 rfl) ?_
    refine lv_ifnonnullN hx hb dX8_of_7 ?_
    refine lv_iconst (v := (-1 : Int32)) hx hb dX8_of_10 (by decide) ?_
    exact W.iret (v := (-1 : Int32)) hx hb hr (fun t ht hW => ⟨congrArg (fun z => Outcome.returned (some (Value.int z))) (Option.some.inj hf), ht⟩) (fun _ h => nomatch h) dX8_of_11
  · refine va_csq (W.runV (As := [.int x1]) (rest := []) ⟨hx, hb, hml, hown, hts⟩ (mX8_chordAt l dC dI cI cC G ca nC ck J E L x1 (some (ca x1.toNatClampNeg)) hq) (cwV 1 hts gX8_of_X8_chordAt rfl rfl rfl (by decide +kernel) ⟨Nat.le_of_ble_eq_true rfl, Nat.le_of_ble_eq_true rfl⟩) ⟨blindR, va_recv hK hP (ci := 5) (q0 := 0) rfl rfl, fun U hU hW => ⟨rfl, by rw [hU]; exact hP, va_K.moved hW.alike hK⟩⟩ rfl rfl hl.1 rfl (lv_room (Nat.le_of_ble_eq_true rfl)) dX8_of_2 ⟨Nat.zero_le _, Nat.zero_le _⟩) (fun rq hrq => ?_)
    subst hrq
    refine W.eq (g2 := F0 m 5 ls [.ref (ca x1.toNatClampNeg)]) rfl ?_
    refine lv_astore_n (lv' := [(3, .ref (ca x1.toNatClampNeg)), (0, .ref (G 0 100)), (1, .int x1), (2, .int x2)]) hx hb dX8_of_5 rfl hl (by decide) rfl (fun ls hl => ?_)
    refine lv_aload_n hx hb dX8_of_6 rfl (lv_at hl 0 rfl) ?_
    refine lv_ifnonnull (tgt := 12) hx hb dX8_of_7 (by decide) ?_
    refine lv_iload_n hx hb dX8_of_12 rfl (lv_at hl 3 rfl) ?_
    by_cases c1 : x2 = (0 : Int32)
    · have hf := (if_pos c1).symm.trans hf
      refine lv_tableIn (tgt := 56) hx hb dX8_of_13 (by rw [c1]; decide) (by rw [c1]; decide) (by rw [c1]; rfl) (by decide) ?_
      refine lv_aload_n hx hb dX8_of_56 rfl (lv_at hl 0 rfl) ?_
      refine va_get (D := (dC, dI)) (ci := 0) (v := .int (ck x1.toNatClampNeg 0)) (C := RX1) (T := TX1) (N := 4) hx hb hts hinX1 hown hK (wC_k hP hki) 0 rfl rfl 0 (by decide) hk66 (fun _ h9 => h9) rfl dX8_of_57 ?_
      obtain ⟨r2, hc3, hf⟩ := of_bind_some hf
      refine W.callR (r := r2) (W.runS (As := [.int (ck x1.toNatClampNeg 0)]) (rest := []) ⟨hx, hb, hml, hown, hts⟩ (mX3_pitch l en (ck x1.toNatClampNeg 0) r2 hc3) (va_cwS 1 hts gX8_of_X3_pitch rfl rfl rfl (by decide +kernel) ⟨Nat.le_of_ble_eq_true rfl, Nat.le_of_ble_eq_true rfl⟩) ⟨blindS, fun U hU hW => ⟨rfl, cE_read hE hS hW hU⟩⟩ rfl rfl hl.1 rfl (lv_room (Nat.le_of_ble_eq_true rfl)) dX8_of_60 ⟨Nat.zero_le _, Nat.zero_le _⟩) ?_
      refine W.eq (g2 := F0 m 63 ls [.int r2]) rfl ?_
      exact W.iret (v := r2) hx hb hr (fun t ht hW => ⟨congrArg (fun z => Outcome.returned (some (Value.int z))) (Option.some.inj hf), ht⟩) (fun _ h => nomatch h) dX8_of_63
    have hf := (if_neg c1).symm.trans hf
    by_cases c4 : x2 = (1 : Int32)
    · have hf := (if_pos c4).symm.trans hf
      refine lv_tableIn (tgt := 64) hx hb dX8_of_13 (by rw [c4]; decide) (by rw [c4]; decide) (by rw [c4]; rfl) (by decide) ?_
      refine lv_aload_n hx hb dX8_of_64 rfl (lv_at hl 0 rfl) ?_
      refine va_get (D := (dC, dI)) (ci := 0) (v := .int (ck x1.toNatClampNeg 2)) (C := RX1) (T := TX1) (N := 4) hx hb hts hinX1 hown hK (wC_k hP hki) 0 rfl rfl 2 (by decide) hk75 (fun _ h9 => h9) rfl dX8_of_65 ?_
      obtain ⟨r5, hc6, hf⟩ := of_bind_some hf
      refine W.callR (r := r5) (W.runS (As := [.int (ck x1.toNatClampNeg 2)]) (rest := []) ⟨hx, hb, hml, hown, hts⟩ (mX3_pitch l en (ck x1.toNatClampNeg 2) r5 hc6) (va_cwS 1 hts gX8_of_X3_pitch rfl rfl rfl (by decide +kernel) ⟨Nat.le_of_ble_eq_true rfl, Nat.le_of_ble_eq_true rfl⟩) ⟨blindS, fun U hU hW => ⟨rfl, cE_read hE hS hW hU⟩⟩ rfl rfl hl.1 rfl (lv_room (Nat.le_of_ble_eq_true rfl)) dX8_of_68 ⟨Nat.zero_le _, Nat.zero_le _⟩) ?_
      refine W.eq (g2 := F0 m 71 ls [.int r5]) rfl ?_
      exact W.iret (v := r5) hx hb hr (fun t ht hW => ⟨congrArg (fun z => Outcome.returned (some (Value.int z))) (Option.some.inj hf), ht⟩) (fun _ h => nomatch h) dX8_of_71
    have hf := (if_neg c4).symm.trans hf
    by_cases c7 : x2 = (2 : Int32)
    · have hf := (if_pos c7).symm.trans hf
      refine lv_tableIn (tgt := 72) hx hb dX8_of_13 (by rw [c7]; decide) (by rw [c7]; decide) (by rw [c7]; rfl) (by decide) ?_
      refine lv_aload_n hx hb dX8_of_72 rfl (lv_at hl 0 rfl) ?_
      refine va_get (D := (dC, dI)) (ci := 0) (v := .int (ck x1.toNatClampNeg 1)) (C := RX1) (T := TX1) (N := 4) hx hb hts hinX1 hown hK (wC_k hP hki) 0 rfl rfl 1 (by decide) hk78 (fun _ h9 => h9) rfl dX8_of_73 ?_
      refine W.callR (r := (fJ6_bitCount_0f7a4 (ck x1.toNatClampNeg 1))) (W.runS (As := [.int (ck x1.toNatClampNeg 1)]) (rest := []) ⟨hx, hb, hml, hown, hts⟩ (mJ6_bitCount_0f7a4 l (ck x1.toNatClampNeg 1) (fJ6_bitCount_0f7a4 (ck x1.toNatClampNeg 1)) rfl) (va_cwS 1 hts gX8_of_J6_bitCount_0f7a4 rfl rfl rfl (by decide +kernel) ⟨Nat.le_of_ble_eq_true rfl, Nat.le_of_ble_eq_true rfl⟩) ⟨fun _ _ _ _ q => q, fun U hU hW => ⟨rfl, trivial⟩⟩ rfl rfl hl.1 rfl (lv_room (Nat.le_of_ble_eq_true rfl)) dX8_of_76 ⟨Nat.zero_le _, Nat.zero_le _⟩) ?_
      refine W.eq (g2 := F0 m 79 ls [.int (fJ6_bitCount_0f7a4 (ck x1.toNatClampNeg 1))]) rfl ?_
      exact W.iret (v := (fJ6_bitCount_0f7a4 (ck x1.toNatClampNeg 1))) hx hb hr (fun t ht hW => ⟨congrArg (fun z => Outcome.returned (some (Value.int z))) (Option.some.inj hf), ht⟩) (fun _ h => nomatch h) dX8_of_79
    have hf := (if_neg c7).symm.trans hf
    by_cases c8 : x2 = (3 : Int32)
    · have hf := (if_pos c8).symm.trans hf
      refine lv_tableIn (tgt := 80) hx hb dX8_of_13 (by rw [c8]; decide) (by rw [c8]; decide) (by rw [c8]; rfl) (by decide) ?_
      refine lv_aload_n hx hb dX8_of_80 rfl (lv_at hl 0 rfl) ?_
      obtain ⟨r9, hc10, hf⟩ := of_bind_some hf
      refine W.callR (r := r9) (W.runV (As := []) (rest := []) ⟨hx, hb, hml, hown, hts⟩ (mX1_pitches l en dC dI cI (fun _ => ca x1.toNatClampNeg) (ck x1.toNatClampNeg)  r9 hc10) (cwV 0 hts gX8_of_X1_pitches rfl rfl rfl (by decide +kernel) ⟨Nat.le_of_ble_eq_true rfl, Nat.le_of_ble_eq_true rfl⟩) ⟨blindRE, va_recv hK (wC_k hP hki) (ci := 0) (q0 := 0) rfl rfl, fun U hU hW => ⟨rfl, by rw [hU]; exact wC_k hP hki, va_K.moved hW.alike (hK.sub [0] rfl), cE_read hE hS hW hU⟩⟩ rfl rfl hl.1 rfl (lv_room (Nat.le_of_ble_eq_true rfl)) dX8_of_81 ⟨Nat.zero_le _, Nat.zero_le _⟩) ?_
      refine W.eq (g2 := F0 m 84 ls [.int r9]) rfl ?_
      exact W.iret (v := r9) hx hb hr (fun t ht hW => ⟨congrArg (fun z => Outcome.returned (some (Value.int z))) (Option.some.inj hf), ht⟩) (fun _ h => nomatch h) dX8_of_84
    have hf := (if_neg c8).symm.trans hf
    by_cases c11 : x2 = (4 : Int32)
    · have hf := (if_pos c11).symm.trans hf
      refine lv_tableIn (tgt := 85) hx hb dX8_of_13 (by rw [c11]; decide) (by rw [c11]; decide) (by rw [c11]; rfl) (by decide) ?_
      refine lv_aload_n hx hb dX8_of_85 rfl (lv_at hl 0 rfl) ?_
      refine va_get (D := (dC, dI)) (ci := 0) (v := .int (ck x1.toNatClampNeg 0)) (C := RX1) (T := TX1) (N := 4) hx hb hts hinX1 hown hK (wC_k hP hki) 0 rfl rfl 0 (by decide) hk66 (fun _ h9 => h9) rfl dX8_of_86 ?_
      refine lv_aload_n hx hb dX8_of_89 rfl (lv_at hl 0 rfl) ?_
      refine va_get (D := (dC, dI)) (ci := 0) (v := .int (ck x1.toNatClampNeg 1)) (C := RX1) (T := TX1) (N := 4) hx hb hts hinX1 hown hK (wC_k hP hki) 0 rfl rfl 1 (by decide) hk78 (fun _ h9 => h9) rfl dX8_of_90 ?_
      refine lv_aload_n hx hb dX8_of_93 rfl (lv_at hl 0 rfl) ?_
      refine va_get (D := (dC, dI)) (ci := 0) (v := .int (ck x1.toNatClampNeg 2)) (C := RX1) (T := TX1) (N := 4) hx hb hts hinX1 hown hK (wC_k hP hki) 0 rfl rfl 2 (by decide) hk75 (fun _ h9 => h9) rfl dX8_of_94 ?_
      obtain ⟨r12, hc13, hf⟩ := of_bind_some hf
      refine W.callR (r := r12) (W.runS (As := [.int (ck x1.toNatClampNeg 0), .int (ck x1.toNatClampNeg 1), .int (ck x1.toNatClampNeg 2)]) (rest := []) ⟨hx, hb, hml, hown, hts⟩ (mX4_weight l en (ck x1.toNatClampNeg 0) (ck x1.toNatClampNeg 1) (ck x1.toNatClampNeg 2) r12 hc13) (va_cwS 3 hts gX8_of_X4_weight rfl rfl rfl (by decide +kernel) ⟨Nat.le_of_ble_eq_true rfl, Nat.le_of_ble_eq_true rfl⟩) ⟨blindS, fun U hU hW => ⟨rfl, cE_read hE hS hW hU⟩⟩ rfl rfl hl.1 rfl (lv_room (Nat.le_of_ble_eq_true rfl)) dX8_of_97 ⟨Nat.zero_le _, Nat.zero_le _⟩) ?_
      refine W.eq (g2 := F0 m 100 ls [.int r12]) rfl ?_
      exact W.iret (v := r12) hx hb hr (fun t ht hW => ⟨congrArg (fun z => Outcome.returned (some (Value.int z))) (Option.some.inj hf), ht⟩) (fun _ h => nomatch h) dX8_of_100
    have hf := (if_neg c11).symm.trans hf
    by_cases c14 : x2 = (5 : Int32)
    · have hf := (if_pos c14).symm.trans hf
      refine lv_tableIn (tgt := 101) hx hb dX8_of_13 (by rw [c14]; decide) (by rw [c14]; decide) (by rw [c14]; rfl) (by decide) ?_
      refine lv_aload_n hx hb dX8_of_101 rfl (lv_at hl 0 rfl) ?_
      obtain ⟨r15, hc16, hf⟩ := of_bind_some hf
      refine W.callR (r := r15) (W.runV (As := []) (rest := []) ⟨hx, hb, hml, hown, hts⟩ (mX1_body l en dC dI cI (fun _ => ca x1.toNatClampNeg) (ck x1.toNatClampNeg)  r15 hc16) (cwV 0 hts gX8_of_X1_body rfl rfl rfl (by decide +kernel) ⟨Nat.le_of_ble_eq_true rfl, Nat.le_of_ble_eq_true rfl⟩) ⟨blindRE, va_recv hK (wC_k hP hki) (ci := 0) (q0 := 0) rfl rfl, fun U hU hW => ⟨rfl, by rw [hU]; exact wC_k hP hki, va_K.moved hW.alike (hK.sub [0] rfl), cE_read hE hS hW hU⟩⟩ rfl rfl hl.1 rfl (lv_room (Nat.le_of_ble_eq_true rfl)) dX8_of_102 ⟨Nat.zero_le _, Nat.zero_le _⟩) ?_
      refine W.eq (g2 := F0 m 105 ls [.int r15]) rfl ?_
      refine lv_bipush (v := (20 : Int32)) hx hb dX8_of_105 (by decide) ?_
      refine lv_icmp_ne (tgt := 115) hx hb dX8_of_107 (by decide) (fun c17 => ?_) (fun c17 => ?_)
      · have hf := (if_neg c17).symm.trans hf
        refine lv_aload_n hx hb dX8_of_115 rfl (lv_at hl 0 rfl) ?_
        obtain ⟨r18, hc19, hf⟩ := of_bind_some hf
        refine W.callR (r := r18) (W.runV (As := []) (rest := []) ⟨hx, hb, hml, hown, hts⟩ (mX1_body l en dC dI cI (fun _ => ca x1.toNatClampNeg) (ck x1.toNatClampNeg)  r18 hc19) (cwV 0 hts gX8_of_X1_body rfl rfl rfl (by decide +kernel) ⟨Nat.le_of_ble_eq_true rfl, Nat.le_of_ble_eq_true rfl⟩) ⟨blindRE, va_recv hK (wC_k hP hki) (ci := 0) (q0 := 0) rfl rfl, fun U hU hW => ⟨rfl, by rw [hU]; exact wC_k hP hki, va_K.moved hW.alike (hK.sub [0] rfl), cE_read hE hS hW hU⟩⟩ rfl rfl hl.1 rfl (lv_room (Nat.le_of_ble_eq_true rfl)) dX8_of_116 ⟨Nat.zero_le _, Nat.zero_le _⟩) ?_
        refine W.eq (g2 := F0 m 119 ls [.int r18]) rfl ?_
        exact W.iret (v := r18) hx hb hr (fun t ht hW => ⟨congrArg (fun z => Outcome.returned (some (Value.int z))) (Option.some.inj hf), ht⟩) (fun _ h => nomatch h) dX8_of_119
      · have hf := (if_pos c17).symm.trans hf
        refine lv_bipush (v := (-2 : Int32)) hx hb dX8_of_110 (by decide) ?_
        refine lv_goto (tgt := 119) hx hb dX8_of_112 (by decide) ?_
        exact W.iret (v := (-2 : Int32)) hx hb hr (fun t ht hW => ⟨congrArg (fun z => Outcome.returned (some (Value.int z))) (Option.some.inj hf), ht⟩) (fun _ h => nomatch h) dX8_of_119
    have hf := (if_neg c14).symm.trans hf
    by_cases c20 : x2 = (6 : Int32)
    · have hf := (if_pos c20).symm.trans hf
      refine lv_tableIn (tgt := 120) hx hb dX8_of_13 (by rw [c20]; decide) (by rw [c20]; decide) (by rw [c20]; rfl) (by decide) ?_
      refine lv_aload_n hx hb dX8_of_120 rfl (lv_at hl 0 rfl) ?_
      refine va_get (D := (dC, dI)) (ci := 0) (v := .int (ck x1.toNatClampNeg 3)) (C := RX1) (T := TX1) (N := 4) hx hb hts hinX1 hown hK (wC_k hP hki) 0 rfl rfl 3 (by decide) hk101 (fun _ h9 => h9) rfl dX8_of_121 ?_
      refine lv_if_eq (tgt := 131) hx hb dX8_of_124 (by decide) (fun c21 => ?_) (fun c21 => ?_)
      · have hf := (if_pos c21).symm.trans hf
        refine lv_iconst (v := (0 : Int32)) hx hb dX8_of_131 (by decide) ?_
        exact W.iret (v := (0 : Int32)) hx hb hr (fun t ht hW => ⟨congrArg (fun z => Outcome.returned (some (Value.int z))) (Option.some.inj hf), ht⟩) (fun _ h => nomatch h) dX8_of_132
      · have hf := (if_neg c21).symm.trans hf
        refine lv_iconst (v := (1 : Int32)) hx hb dX8_of_127 (by decide) ?_
        refine lv_goto (tgt := 132) hx hb dX8_of_128 (by decide) ?_
        exact W.iret (v := (1 : Int32)) hx hb hr (fun t ht hW => ⟨congrArg (fun z => Outcome.returned (some (Value.int z))) (Option.some.inj hf), ht⟩) (fun _ h => nomatch h) dX8_of_132
    have hf := (if_neg c20).symm.trans hf
    refine lv_tableOut (tgt := 133) hx hb dX8_of_13 (by have := sw_ne (n := 0) (by decide) c1; have := sw_ne (n := 1) (by decide) c4; have := sw_ne (n := 2) (by decide) c7; have := sw_ne (n := 3) (by decide) c8; have := sw_ne (n := 4) (by decide) c11; have := sw_ne (n := 5) (by decide) c14; have := sw_ne (n := 6) (by decide) c20; omega) (by decide) ?_
    refine lv_iconst (v := (-1 : Int32)) hx hb dX8_of_133 (by decide) ?_
    exact W.iret (v := (-1 : Int32)) hx hb hr (fun t ht hW => ⟨congrArg (fun z => Outcome.returned (some (Value.int z))) (Option.some.inj hf), ht⟩) (fun _ h => nomatch h) dX8_of_134
def fX8_step (nC : Nat) (ck : Nat → Nat → Int32) (J : Nat → Nat → Int32) (E : Nat → Nat → Nat → Int32) (L : Nat → Int64)  (x1 : Int32) (x2 : Int32) (x3 : Int32) : Option Int32 :=
  (ckAt nC J x1 (if x2 = (-1 : Int32) then ((fX8_bassPart (ck x1.toNatClampNeg 2) x3).bind fun r7 => (some r7)) else ((fX4_nth (ck x1.toNatClampNeg 1) x2).bind fun r2 => (if r2 = (-1 : Int32) then (some (-1 : Int32)) else ((fX8_stepPart (ck x1.toNatClampNeg 0) r2 x3).bind fun r5 => (some r5))))) (some (-1 : Int32)))
set_option maxRecDepth 100000 in
set_option maxHeartbeats 4000000 in
theorem mX8_step (l : Launch) (en : Nat → Nat) (dC : Nat → ClassId) (dI : Nat → Nat → Nat) (cI cC : ClassId) (G : Nat → Nat → Nat) (ca : Nat → Nat) (nC : Nat) (ck : Nat → Nat → Int32) (J : Nat → Nat → Int32) (E : Nat → Nat → Nat → Int32) (L : Nat → Int64)  (x1 : Int32) (x2 : Int32) (x3 : Int32) (r : Int32) (hf : fX8_step nC ck J E L x1 x2 x3 = some r) : Met l yX8_step wsX8_step ({ frames := 6, cells := 0, slots := 0, locals := 128 }) (va_Pc [.ref (G 0 100), .int x1, .int x2, .int x3] (fun U => va_P (dC, dI) vwCl (wC cI cC G ca nC ck J E L) U.heap ∧ va_K (dC, dI) vwCl (t8 cI cC) U ∧ cE en NA U U.heap)) (QcRead r) 0 0 (fun _ => False) := by
  refine Met.ofW (cc := cX8_step) (maxL := 6) (ret := (some .int)) (by decide) rfl ?_
  intro p e s m args below meth c s₁ BL hml hv
  obtain ⟨rfl, hP, hK, hE⟩ := hv
  have hS : va_S NA s.heap s.heap [] := va_S.rf
  have hx := BL.exec
  have hb := BL.bytes
  have hr := BL.returns
  have hts := atoms_spec (ws := wsX8_step) BL.pre
  have hown : s.vm.findClass RX8 = some m.cls := findClass_of_methodNamed BL.named
  have hlocks := BL.notSynchronized
  have hinX1 : ∀ w ∈ u_ws RX1 TX1 4, w ∈ wsX8_step := by decide +kernel
  have hk66 := hts (.fieldLink RX8 66 "LeadSheets$Chord" "root" "I") (by decide +kernel)
  have hk75 := hts (.fieldLink RX8 75 "LeadSheets$Chord" "bass" "I") (by decide +kernel)
  have hk78 := hts (.fieldLink RX8 78 "LeadSheets$Chord" "steps" "I") (by decide +kernel)
  have hl := lv_entry ([.ref (G 0 100), .int x1, .int x2, .int x3]) (n := 6) (Nat.le_of_ble_eq_true rfl)
  rw [lg_entry_eq]
  generalize (lg_sl ([.ref (G 0 100), .int x1, .int x2, .int x3]) ++ List.replicate (6 - (lg_sl ([.ref (G 0 100), .int x1, .int x2, .int x3])).length) Slot.unset).toArray = ls at hl ⊢
  have hl : lv_has ls 6 [(0, .ref (G 0 100)), (1, .int x1), (2, .int x2), (3, .int x3)] := hl
  unfold fX8_step at hf
  refine lv_aload_n hx hb dX8_step_0 rfl (lv_at hl 0 rfl) ?_
  refine lv_iload_n hx hb dX8_step_1 rfl (lv_at hl 1 rfl) ?_
  rcases of_ckAt ca hf with ⟨hq, hf⟩ | ⟨hki, hq, hf⟩
  · refine va_csq (W.runV (As := [.int x1]) (rest := []) ⟨hx, hb, hml, hown, hts⟩ (mX8_chordAt l dC dI cI cC G ca nC ck J E L x1 none hq) (cwV 1 hts gX8_step_X8_chordAt rfl rfl rfl (by decide +kernel) ⟨Nat.le_of_ble_eq_true rfl, Nat.le_of_ble_eq_true rfl⟩) ⟨blindR, va_recv hK hP (ci := 5) (q0 := 0) rfl rfl, fun U hU hW => ⟨rfl, by rw [hU]; exact hP, va_K.moved hW.alike hK⟩⟩ rfl rfl hl.1 rfl (lv_room (Nat.le_of_ble_eq_true rfl)) dX8_step_2 ⟨Nat.zero_le _, Nat.zero_le _⟩) (fun rq hrq => ?_)
    subst hrq
    refine W.eq (g2 := F0 m 5 ls [.null]) rfl ?_
    refine lv_astoreN (lv' := [(4, .null), (0, .ref (G 0 100)), (1, .int x1), (2, .int x2), (3, .int x3)]) hx hb dX8_step_5 hl (by decide) rfl (fun ls hl => ?_)
    refine lv_aloadN hx hb dX8_step_7 (lv_at hl 0 rfl) ?_
    refine lv_ifnonnullN hx hb dX8_step_9 ?_
    refine lv_iconst (v := (-1 : Int32)) hx hb dX8_step_12 (by decide) ?_
    exact W.iret (v := (-1 : Int32)) hx hb hr (fun t ht hW => ⟨congrArg (fun z => Outcome.returned (some (Value.int z))) (Option.some.inj hf), ht⟩) (fun _ h => nomatch h) dX8_step_13
  · refine va_csq (W.runV (As := [.int x1]) (rest := []) ⟨hx, hb, hml, hown, hts⟩ (mX8_chordAt l dC dI cI cC G ca nC ck J E L x1 (some (ca x1.toNatClampNeg)) hq) (cwV 1 hts gX8_step_X8_chordAt rfl rfl rfl (by decide +kernel) ⟨Nat.le_of_ble_eq_true rfl, Nat.le_of_ble_eq_true rfl⟩) ⟨blindR, va_recv hK hP (ci := 5) (q0 := 0) rfl rfl, fun U hU hW => ⟨rfl, by rw [hU]; exact hP, va_K.moved hW.alike hK⟩⟩ rfl rfl hl.1 rfl (lv_room (Nat.le_of_ble_eq_true rfl)) dX8_step_2 ⟨Nat.zero_le _, Nat.zero_le _⟩) (fun rq hrq => ?_)
    subst hrq
    refine W.eq (g2 := F0 m 5 ls [.ref (ca x1.toNatClampNeg)]) rfl ?_
    refine lv_astore (lv' := [(4, .ref (ca x1.toNatClampNeg)), (0, .ref (G 0 100)), (1, .int x1), (2, .int x2), (3, .int x3)]) hx hb dX8_step_5 hl (by decide) rfl (fun ls hl => ?_)
    refine lv_aload hx hb dX8_step_7 (lv_at hl 0 rfl) ?_
    refine lv_ifnonnull (tgt := 14) hx hb dX8_step_9 (by decide) ?_
    refine lv_iload_n hx hb dX8_step_14 rfl (lv_at hl 3 rfl) ?_
    refine lv_iconst (v := (-1 : Int32)) hx hb dX8_step_15 (by decide) ?_
    refine lv_icmp_ne (tgt := 29) hx hb dX8_step_16 (by decide) (fun c1 => ?_) (fun c1 => ?_)
    · have hf := (if_neg c1).symm.trans hf
      refine lv_aload hx hb dX8_step_29 (lv_at hl 0 rfl) ?_
      refine va_get (D := (dC, dI)) (ci := 0) (v := .int (ck x1.toNatClampNeg 1)) (C := RX1) (T := TX1) (N := 4) hx hb hts hinX1 hown hK (wC_k hP hki) 0 rfl rfl 1 (by decide) hk78 (fun _ h9 => h9) rfl dX8_step_31 ?_
      refine lv_iload_n hx hb dX8_step_34 rfl (lv_at hl 3 rfl) ?_
      obtain ⟨r2, hc3, hf⟩ := of_bind_some hf
      refine W.callR (r := r2) (W.runS (As := [.int (ck x1.toNatClampNeg 1), .int x2]) (rest := []) ⟨hx, hb, hml, hown, hts⟩ (mX4_nth l (ck x1.toNatClampNeg 1) x2 r2 hc3) (va_cwS 2 hts gX8_step_X4_nth rfl rfl rfl (by decide +kernel) ⟨Nat.le_of_ble_eq_true rfl, Nat.le_of_ble_eq_true rfl⟩) ⟨fun _ _ _ _ q => q, fun U hU hW => ⟨rfl, trivial⟩⟩ rfl rfl hl.1 rfl (lv_room (Nat.le_of_ble_eq_true rfl)) dX8_step_35 ⟨Nat.zero_le _, Nat.zero_le _⟩) ?_
      refine W.eq (g2 := F0 m 38 ls [.int r2]) rfl ?_
      refine lv_istore (lv' := [(5, .int r2), (4, .ref (ca x1.toNatClampNeg)), (0, .ref (G 0 100)), (1, .int x1), (2, .int x2), (3, .int x3)]) hx hb dX8_step_38 hl (by decide) rfl (fun ls hl => ?_)
      refine lv_iload hx hb dX8_step_40 (lv_at hl 0 rfl) ?_
      refine lv_iconst (v := (-1 : Int32)) hx hb dX8_step_42 (by decide) ?_
      refine lv_icmp_ne (tgt := 50) hx hb dX8_step_43 (by decide) (fun c4 => ?_) (fun c4 => ?_)
      · have hf := (if_neg c4).symm.trans hf
        refine lv_aload hx hb dX8_step_50 (lv_at hl 1 rfl) ?_
        refine va_get (D := (dC, dI)) (ci := 0) (v := .int (ck x1.toNatClampNeg 0)) (C := RX1) (T := TX1) (N := 4) hx hb hts hinX1 hown hK (wC_k hP hki) 0 rfl rfl 0 (by decide) hk66 (fun _ h9 => h9) rfl dX8_step_52 ?_
        refine lv_iload hx hb dX8_step_55 (lv_at hl 0 rfl) ?_
        refine lv_iload_n hx hb dX8_step_57 rfl (lv_at hl 5 rfl) ?_
        obtain ⟨r5, hc6, hf⟩ := of_bind_some hf
        refine W.callR (r := r5) (W.runS (As := [.int (ck x1.toNatClampNeg 0), .int r2, .int x3]) (rest := []) ⟨hx, hb, hml, hown, hts⟩ (mX8_stepPart l en (ck x1.toNatClampNeg 0) r2 x3 r5 hc6) (va_cwS 3 hts gX8_step_X8_stepPart rfl rfl rfl (by decide +kernel) ⟨Nat.le_of_ble_eq_true rfl, Nat.le_of_ble_eq_true rfl⟩) ⟨blindS, fun U hU hW => ⟨rfl, cE_read hE hS hW hU⟩⟩ rfl rfl hl.1 rfl (lv_room (Nat.le_of_ble_eq_true rfl)) dX8_step_58 ⟨Nat.zero_le _, Nat.zero_le _⟩) ?_
        refine W.eq (g2 := F0 m 61 ls [.int r5]) rfl ?_
        exact W.iret (v := r5) hx hb hr (fun t ht hW => ⟨congrArg (fun z => Outcome.returned (some (Value.int z))) (Option.some.inj hf), ht⟩) (fun _ h => nomatch h) dX8_step_61
      · have hf := (if_pos c4).symm.trans hf
        refine lv_iconst (v := (-1 : Int32)) hx hb dX8_step_46 (by decide) ?_
        refine lv_goto (tgt := 61) hx hb dX8_step_47 (by decide) ?_
        exact W.iret (v := (-1 : Int32)) hx hb hr (fun t ht hW => ⟨congrArg (fun z => Outcome.returned (some (Value.int z))) (Option.some.inj hf), ht⟩) (fun _ h => nomatch h) dX8_step_61
    · have hf := (if_pos c1).symm.trans hf
      refine lv_aload hx hb dX8_step_19 (lv_at hl 0 rfl) ?_
      refine va_get (D := (dC, dI)) (ci := 0) (v := .int (ck x1.toNatClampNeg 2)) (C := RX1) (T := TX1) (N := 4) hx hb hts hinX1 hown hK (wC_k hP hki) 0 rfl rfl 2 (by decide) hk75 (fun _ h9 => h9) rfl dX8_step_21 ?_
      refine lv_iload_n hx hb dX8_step_24 rfl (lv_at hl 4 rfl) ?_
      obtain ⟨r7, hc8, hf⟩ := of_bind_some hf
      refine W.callR (r := r7) (W.runS (As := [.int (ck x1.toNatClampNeg 2), .int x3]) (rest := []) ⟨hx, hb, hml, hown, hts⟩ (mX8_bassPart l en (ck x1.toNatClampNeg 2) x3 r7 hc8) (va_cwS 2 hts gX8_step_X8_bassPart rfl rfl rfl (by decide +kernel) ⟨Nat.le_of_ble_eq_true rfl, Nat.le_of_ble_eq_true rfl⟩) ⟨blindS, fun U hU hW => ⟨rfl, cE_read hE hS hW hU⟩⟩ rfl rfl hl.1 rfl (lv_room (Nat.le_of_ble_eq_true rfl)) dX8_step_25 ⟨Nat.zero_le _, Nat.zero_le _⟩) ?_
      refine W.eq (g2 := F0 m 28 ls [.int r7]) rfl ?_
      exact W.iret (v := r7) hx hb hr (fun t ht hW => ⟨congrArg (fun z => Outcome.returned (some (Value.int z))) (Option.some.inj hf), ht⟩) (fun _ h => nomatch h) dX8_step_28
def fX8_shown (nC : Nat) (ck : Nat → Nat → Int32) (J : Nat → Nat → Int32) (E : Nat → Nat → Nat → Int32) (L : Nat → Int64)  (x1 : Int32) : Option Int32 :=
  ((fX6_byteAt (J 4) (E 4) x1).bind fun r1 => (some r1))
set_option maxRecDepth 100000 in
set_option maxHeartbeats 4000000 in
theorem mX8_shown (l : Launch) (en : Nat → Nat) (dC : Nat → ClassId) (dI : Nat → Nat → Nat) (cI cC : ClassId) (G : Nat → Nat → Nat) (ca : Nat → Nat) (nC : Nat) (ck : Nat → Nat → Int32) (J : Nat → Nat → Int32) (E : Nat → Nat → Nat → Int32) (L : Nat → Int64)  (x1 : Int32) (r : Int32) (hf : fX8_shown nC ck J E L x1 = some r) : Met l yX8_shown wsX8_shown ({ frames := 1, cells := 0, slots := 0, locals := 21 }) (va_Pc [.ref (G 0 100), .int x1] (fun U => va_P (dC, dI) vwCl (wC cI cC G ca nC ck J E L) U.heap ∧ va_K (dC, dI) vwCl (t8 cI cC) U ∧ cE en NA U U.heap)) (QcRead r) 0 0 (fun _ => False) := by
  refine Met.ofW (cc := cX8_shown) (maxL := 2) (ret := (some .int)) (by decide) rfl ?_
  intro p e s m args below meth c s₁ BL hml hv
  obtain ⟨rfl, hP, hK, hE⟩ := hv
  have hS : va_S NA s.heap s.heap [] := va_S.rf
  have hx := BL.exec
  have hb := BL.bytes
  have hr := BL.returns
  have hts := atoms_spec (ws := wsX8_shown) BL.pre
  have hown : s.vm.findClass RX8 = some m.cls := findClass_of_methodNamed BL.named
  have hlocks := BL.notSynchronized
  have hinX8 : ∀ w ∈ u_ws RX8 TX8 6, w ∈ wsX8_shown := by decide +kernel
  have hk39 := hts (.fieldLink RX8 39 "LeadSheets" "text" "LLeadSheets$Text;") (by decide +kernel)
  have hl := lv_entry ([.ref (G 0 100), .int x1]) (n := 2) (Nat.le_of_ble_eq_true rfl)
  rw [lg_entry_eq]
  generalize (lg_sl ([.ref (G 0 100), .int x1]) ++ List.replicate (2 - (lg_sl ([.ref (G 0 100), .int x1])).length) Slot.unset).toArray = ls at hl ⊢
  have hl : lv_has ls 2 [(0, .ref (G 0 100)), (1, .int x1)] := hl
  unfold fX8_shown at hf
  refine lv_aload_n hx hb dX8_shown_0 rfl (lv_at hl 0 rfl) ?_
  refine va_get (D := (dC, dI)) (ci := 5) (v := .ref (G 4 100)) (C := RX8) (T := TX8) (N := 6) hx hb hts hinX8 hown hK hP 0 rfl rfl 4 (by decide) hk39 (fun _ h9 => h9) rfl dX8_shown_1 ?_
  refine lv_iload_n hx hb dX8_shown_4 rfl (lv_at hl 1 rfl) ?_
  obtain ⟨r1, hc2, hf⟩ := of_bind_some hf
  have hs3 : va_P (dC, dI) vwCl (wX cI (G 4) (J 4) (E 4)) s.heap := hP.sub [11, 12] rfl
  refine W.callR (r := r1) (W.runV (As := [.int x1]) (rest := []) ⟨hx, hb, hml, hown, hts⟩ (mX6_byteAt l dC dI cI (G 4) (J 4) (E 4) x1 r1 hc2) (cwV 1 hts gX8_shown_X6_byteAt rfl rfl rfl (by decide +kernel) ⟨Nat.le_of_ble_eq_true rfl, Nat.le_of_ble_eq_true rfl⟩) ⟨blindR, va_recv hK hs3 (ci := 3) (q0 := 0) rfl rfl, fun U hU hW => ⟨rfl, by rw [hU]; exact hs3, va_K.moved hW.alike (hK.sub [0] rfl)⟩⟩ rfl rfl hl.1 rfl (lv_room (Nat.le_of_ble_eq_true rfl)) dX8_shown_5 ⟨Nat.zero_le _, Nat.zero_le _⟩) ?_
  refine W.eq (g2 := F0 m 8 ls [.int r1]) rfl ?_
  exact W.iret (v := r1) hx hb hr (fun t ht hW => ⟨congrArg (fun z => Outcome.returned (some (Value.int z))) (Option.some.inj hf), ht⟩) (fun _ h => nomatch h) dX8_shown_8
def fX8_normal (nC : Nat) (ck : Nat → Nat → Int32) (J : Nat → Nat → Int32) (E : Nat → Nat → Nat → Int32) (L : Nat → Int64)  (x1 : Int32) : Option Int32 :=
  (ckAt nC J x1 ((fX3_pitch (ck x1.toNatClampNeg 2)).bind fun r1 => ((fX1_pitches (ck x1.toNatClampNeg) ).bind fun r3 => ((fX2_first (J 2) (E 2) r3 r1).bind fun r5 => (if r5 = (-1 : Int32) then (some (0 : Int32)) else ((fX1_body (ck x1.toNatClampNeg) ).bind fun r9 => (if (fX2_bodyOf r5) = r9 then ((fX2_rootOf r1 r5).bind fun r12 => (if r12 = (ck x1.toNatClampNeg 0) then ((fX3_pitch (ck x1.toNatClampNeg 0)).bind fun r15 => (if r1 = r15 then (some (1 : Int32)) else ((fX2_bassNote r1).bind fun r18 => (if r18 = (ck x1.toNatClampNeg 2) then (some (1 : Int32)) else (some (0 : Int32)))))) else (some (0 : Int32)))) else (some (0 : Int32)))))))) (some (-1 : Int32)))
set_option maxRecDepth 100000 in
set_option maxHeartbeats 4000000 in
theorem mX8_normal (l : Launch) (en : Nat → Nat) (dC : Nat → ClassId) (dI : Nat → Nat → Nat) (cI cC : ClassId) (G : Nat → Nat → Nat) (ca : Nat → Nat) (nC : Nat) (ck : Nat → Nat → Int32) (J : Nat → Nat → Int32) (E : Nat → Nat → Nat → Int32) (L : Nat → Int64)  (x1 : Int32) (r : Int32) (hf : fX8_normal nC ck J E L x1 = some r) : Met l yX8_normal wsX8_normal ({ frames := 7, cells := 0, slots := 0, locals := 158 }) (va_Pc [.ref (G 0 100), .int x1] (fun U => va_P (dC, dI) vwCl (wC cI cC G ca nC ck J E L) U.heap ∧ va_K (dC, dI) vwCl (t8 cI cC) U ∧ cE en NA U U.heap)) (QcRead r) 0 0 (fun _ => False) := by
  refine Met.ofW (cc := cX8_normal) (maxL := 5) (ret := (some .int)) (by decide) rfl ?_
  intro p e s m args below meth c s₁ BL hml hv
  obtain ⟨rfl, hP, hK, hE⟩ := hv
  have hS : va_S NA s.heap s.heap [] := va_S.rf
  have hx := BL.exec
  have hb := BL.bytes
  have hr := BL.returns
  have hts := atoms_spec (ws := wsX8_normal) BL.pre
  have hown : s.vm.findClass RX8 = some m.cls := findClass_of_methodNamed BL.named
  have hlocks := BL.notSynchronized
  have hinX1 : ∀ w ∈ u_ws RX1 TX1 4, w ∈ wsX8_normal := by decide +kernel
  have hinX8 : ∀ w ∈ u_ws RX8 TX8 6, w ∈ wsX8_normal := by decide +kernel
  have hk25 := hts (.fieldLink RX8 25 "LeadSheets" "names" "LLeadSheets$Names;") (by decide +kernel)
  have hk66 := hts (.fieldLink RX8 66 "LeadSheets$Chord" "root" "I") (by decide +kernel)
  have hk75 := hts (.fieldLink RX8 75 "LeadSheets$Chord" "bass" "I") (by decide +kernel)
  have hl := lv_entry ([.ref (G 0 100), .int x1]) (n := 5) (Nat.le_of_ble_eq_true rfl)
  rw [lg_entry_eq]
  generalize (lg_sl ([.ref (G 0 100), .int x1]) ++ List.replicate (5 - (lg_sl ([.ref (G 0 100), .int x1])).length) Slot.unset).toArray = ls at hl ⊢
  have hl : lv_has ls 5 [(0, .ref (G 0 100)), (1, .int x1)] := hl
  unfold fX8_normal at hf
  refine lv_aload_n hx hb dX8_normal_0 rfl (lv_at hl 0 rfl) ?_
  refine lv_iload_n hx hb dX8_normal_1 rfl (lv_at hl 1 rfl) ?_
  rcases of_ckAt ca hf with ⟨hq, hf⟩ | ⟨hki, hq, hf⟩
  · refine va_csq (W.runV (As := [.int x1]) (rest := []) ⟨hx, hb, hml, hown, hts⟩ (mX8_chordAt l dC dI cI cC G ca nC ck J E L x1 none hq) (cwV 1 hts gX8_normal_X8_chordAt rfl rfl rfl (by decide +kernel) ⟨Nat.le_of_ble_eq_true rfl, Nat.le_of_ble_eq_true rfl⟩) ⟨blindR, va_recv hK hP (ci := 5) (q0 := 0) rfl rfl, fun U hU hW => ⟨rfl, by rw [hU]; exact hP, va_K.moved hW.alike hK⟩⟩ rfl rfl hl.1 rfl (lv_room (Nat.le_of_ble_eq_true rfl)) dX8_normal_2 ⟨Nat.zero_le _, Nat.zero_le _⟩) (fun rq hrq => ?_)
    subst hrq
    refine W.eq (g2 := F0 m 5 ls [.null]) rfl ?_
    refine lv_astore_nN (lv' := [(2, .null), (0, .ref (G 0 100)), (1, .int x1)]) hx hb dX8_normal_5 rfl hl (by decide) rfl (fun ls hl => ?_)
    refine lv_aload_nN hx hb dX8_normal_6 rfl (lv_at hl 0 rfl) ?_
    refine lv_ifnonnullN hx hb dX8_normal_7 ?_
    refine lv_iconst (v := (-1 : Int32)) hx hb dX8_normal_10 (by decide) ?_
    exact W.iret (v := (-1 : Int32)) hx hb hr (fun t ht hW => ⟨congrArg (fun z => Outcome.returned (some (Value.int z))) (Option.some.inj hf), ht⟩) (fun _ h => nomatch h) dX8_normal_11
  · refine va_csq (W.runV (As := [.int x1]) (rest := []) ⟨hx, hb, hml, hown, hts⟩ (mX8_chordAt l dC dI cI cC G ca nC ck J E L x1 (some (ca x1.toNatClampNeg)) hq) (cwV 1 hts gX8_normal_X8_chordAt rfl rfl rfl (by decide +kernel) ⟨Nat.le_of_ble_eq_true rfl, Nat.le_of_ble_eq_true rfl⟩) ⟨blindR, va_recv hK hP (ci := 5) (q0 := 0) rfl rfl, fun U hU hW => ⟨rfl, by rw [hU]; exact hP, va_K.moved hW.alike hK⟩⟩ rfl rfl hl.1 rfl (lv_room (Nat.le_of_ble_eq_true rfl)) dX8_normal_2 ⟨Nat.zero_le _, Nat.zero_le _⟩) (fun rq hrq => ?_)
    subst hrq
    refine W.eq (g2 := F0 m 5 ls [.ref (ca x1.toNatClampNeg)]) rfl ?_
    refine lv_astore_n (lv' := [(2, .ref (ca x1.toNatClampNeg)), (0, .ref (G 0 100)), (1, .int x1)]) hx hb dX8_normal_5 rfl hl (by decide) rfl (fun ls hl => ?_)
    refine lv_aload_n hx hb dX8_normal_6 rfl (lv_at hl 0 rfl) ?_
    refine lv_ifnonnull (tgt := 12) hx hb dX8_normal_7 (by decide) ?_
    refine lv_aload_n hx hb dX8_normal_12 rfl (lv_at hl 0 rfl) ?_
    refine va_get (D := (dC, dI)) (ci := 0) (v := .int (ck x1.toNatClampNeg 2)) (C := RX1) (T := TX1) (N := 4) hx hb hts hinX1 hown hK (wC_k hP hki) 0 rfl rfl 2 (by decide) hk75 (fun _ h9 => h9) rfl dX8_normal_13 ?_
    obtain ⟨r1, hc2, hf⟩ := of_bind_some hf
    refine W.callR (r := r1) (W.runS (As := [.int (ck x1.toNatClampNeg 2)]) (rest := []) ⟨hx, hb, hml, hown, hts⟩ (mX3_pitch l en (ck x1.toNatClampNeg 2) r1 hc2) (va_cwS 1 hts gX8_normal_X3_pitch rfl rfl rfl (by decide +kernel) ⟨Nat.le_of_ble_eq_true rfl, Nat.le_of_ble_eq_true rfl⟩) ⟨blindS, fun U hU hW => ⟨rfl, cE_read hE hS hW hU⟩⟩ rfl rfl hl.1 rfl (lv_room (Nat.le_of_ble_eq_true rfl)) dX8_normal_16 ⟨Nat.zero_le _, Nat.zero_le _⟩) ?_
    refine W.eq (g2 := F0 m 19 ls [.int r1]) rfl ?_
    refine lv_istore_n (lv' := [(3, .int r1), (2, .ref (ca x1.toNatClampNeg)), (0, .ref (G 0 100)), (1, .int x1)]) hx hb dX8_normal_19 rfl hl (by decide) rfl (fun ls hl => ?_)
    refine lv_aload_n hx hb dX8_normal_20 rfl (lv_at hl 2 rfl) ?_
    refine va_get (D := (dC, dI)) (ci := 5) (v := .ref (G 2 100)) (C := RX8) (T := TX8) (N := 6) hx hb hts hinX8 hown hK hP 0 rfl rfl 2 (by decide) hk25 (fun _ h9 => h9) rfl dX8_normal_21 ?_
    refine lv_aload_n hx hb dX8_normal_24 rfl (lv_at hl 1 rfl) ?_
    obtain ⟨r3, hc4, hf⟩ := of_bind_some hf
    refine W.callR (r := r3) (W.runV (As := []) (rest := [.ref (G 2 100)]) ⟨hx, hb, hml, hown, hts⟩ (mX1_pitches l en dC dI cI (fun _ => ca x1.toNatClampNeg) (ck x1.toNatClampNeg)  r3 hc4) (cwV 0 hts gX8_normal_X1_pitches rfl rfl rfl (by decide +kernel) ⟨Nat.le_of_ble_eq_true rfl, Nat.le_of_ble_eq_true rfl⟩) ⟨blindRE, va_recv hK (wC_k hP hki) (ci := 0) (q0 := 0) rfl rfl, fun U hU hW => ⟨rfl, by rw [hU]; exact wC_k hP hki, va_K.moved hW.alike (hK.sub [0] rfl), cE_read hE hS hW hU⟩⟩ rfl rfl hl.1 rfl (lv_room (Nat.le_of_ble_eq_true rfl)) dX8_normal_25 ⟨Nat.zero_le _, Nat.zero_le _⟩) ?_
    refine W.eq (g2 := F0 m 28 ls [.int r3, .ref (G 2 100)]) rfl ?_
    refine lv_iload_n hx hb dX8_normal_28 rfl (lv_at hl 0 rfl) ?_
    obtain ⟨r5, hc6, hf⟩ := of_bind_some hf
    have hs7 : va_P (dC, dI) vwCl (wN cI (G 2) (J 2) (E 2)) s.heap := hP.sub [4, 5, 6] rfl
    refine W.callR (r := r5) (W.runV (As := [.int r3, .int r1]) (rest := []) ⟨hx, hb, hml, hown, hts⟩ (mX2_first l en dC dI cI (G 2) (J 2) (E 2) r3 r1 r5 hc6) (cwV 2 hts gX8_normal_X2_first rfl rfl rfl (by decide +kernel) ⟨Nat.le_of_ble_eq_true rfl, Nat.le_of_ble_eq_true rfl⟩) ⟨blindRE, va_recv hK hs7 (ci := 1) (q0 := 0) rfl rfl, fun U hU hW => ⟨rfl, by rw [hU]; exact hs7, va_K.moved hW.alike (hK.sub [0] rfl), cE_read hE hS hW hU⟩⟩ rfl rfl hl.1 rfl (lv_room (Nat.le_of_ble_eq_true rfl)) dX8_normal_29 ⟨Nat.zero_le _, Nat.zero_le _⟩) ?_
    refine W.eq (g2 := F0 m 32 ls [.int r5]) rfl ?_
    refine lv_istore (lv' := [(4, .int r5), (3, .int r1), (2, .ref (ca x1.toNatClampNeg)), (0, .ref (G 0 100)), (1, .int x1)]) hx hb dX8_normal_32 hl (by decide) rfl (fun ls hl => ?_)
    refine lv_iload hx hb dX8_normal_34 (lv_at hl 0 rfl) ?_
    refine lv_iconst (v := (-1 : Int32)) hx hb dX8_normal_36 (by decide) ?_
    refine lv_icmp_eq (tgt := 65) hx hb dX8_normal_37 (by decide) (fun c8 => ?_) (fun c8 => ?_)
    · have hf := (if_pos c8).symm.trans hf
      refine lv_iconst (v := (0 : Int32)) hx hb dX8_normal_65 (by decide) ?_
      exact W.iret (v := (0 : Int32)) hx hb hr (fun t ht hW => ⟨congrArg (fun z => Outcome.returned (some (Value.int z))) (Option.some.inj hf), ht⟩) (fun _ h => nomatch h) dX8_normal_66
    · have hf := (if_neg c8).symm.trans hf
      refine lv_iload hx hb dX8_normal_40 (lv_at hl 0 rfl) ?_
      refine W.callR (r := (fX2_bodyOf r5)) (W.runS (As := [.int r5]) (rest := []) ⟨hx, hb, hml, hown, hts⟩ (mX2_bodyOf l r5 (fX2_bodyOf r5) rfl) (va_cwS 1 hts gX8_normal_X2_bodyOf rfl rfl rfl (by decide +kernel) ⟨Nat.le_of_ble_eq_true rfl, Nat.le_of_ble_eq_true rfl⟩) ⟨fun _ _ _ _ q => q, fun U hU hW => ⟨rfl, trivial⟩⟩ rfl rfl hl.1 rfl (lv_room (Nat.le_of_ble_eq_true rfl)) dX8_normal_42 ⟨Nat.zero_le _, Nat.zero_le _⟩) ?_
      refine W.eq (g2 := F0 m 45 ls [.int (fX2_bodyOf r5)]) rfl ?_
      refine lv_aload_n hx hb dX8_normal_45 rfl (lv_at hl 2 rfl) ?_
      obtain ⟨r9, hc10, hf⟩ := of_bind_some hf
      refine W.callR (r := r9) (W.runV (As := []) (rest := [.int (fX2_bodyOf r5)]) ⟨hx, hb, hml, hown, hts⟩ (mX1_body l en dC dI cI (fun _ => ca x1.toNatClampNeg) (ck x1.toNatClampNeg)  r9 hc10) (cwV 0 hts gX8_normal_X1_body rfl rfl rfl (by decide +kernel) ⟨Nat.le_of_ble_eq_true rfl, Nat.le_of_ble_eq_true rfl⟩) ⟨blindRE, va_recv hK (wC_k hP hki) (ci := 0) (q0 := 0) rfl rfl, fun U hU hW => ⟨rfl, by rw [hU]; exact wC_k hP hki, va_K.moved hW.alike (hK.sub [0] rfl), cE_read hE hS hW hU⟩⟩ rfl rfl hl.1 rfl (lv_room (Nat.le_of_ble_eq_true rfl)) dX8_normal_46 ⟨Nat.zero_le _, Nat.zero_le _⟩) ?_
      refine W.eq (g2 := F0 m 49 ls [.int r9, .int (fX2_bodyOf r5)]) rfl ?_
      refine lv_icmp_ne (tgt := 65) hx hb dX8_normal_49 (by decide) (fun c11 => ?_) (fun c11 => ?_)
      · have hf := (if_neg c11).symm.trans hf
        refine lv_iconst (v := (0 : Int32)) hx hb dX8_normal_65 (by decide) ?_
        exact W.iret (v := (0 : Int32)) hx hb hr (fun t ht hW => ⟨congrArg (fun z => Outcome.returned (some (Value.int z))) (Option.some.inj hf), ht⟩) (fun _ h => nomatch h) dX8_normal_66
      · have hf := (if_pos c11).symm.trans hf
        refine lv_iload_n hx hb dX8_normal_52 rfl (lv_at hl 1 rfl) ?_
        refine lv_iload hx hb dX8_normal_53 (lv_at hl 0 rfl) ?_
        obtain ⟨r12, hc13, hf⟩ := of_bind_some hf
        refine W.callR (r := r12) (W.runS (As := [.int r1, .int r5]) (rest := []) ⟨hx, hb, hml, hown, hts⟩ (mX2_rootOf l en r1 r5 r12 hc13) (va_cwS 2 hts gX8_normal_X2_rootOf rfl rfl rfl (by decide +kernel) ⟨Nat.le_of_ble_eq_true rfl, Nat.le_of_ble_eq_true rfl⟩) ⟨blindS, fun U hU hW => ⟨rfl, cE_read hE hS hW hU⟩⟩ rfl rfl hl.1 rfl (lv_room (Nat.le_of_ble_eq_true rfl)) dX8_normal_55 ⟨Nat.zero_le _, Nat.zero_le _⟩) ?_
        refine W.eq (g2 := F0 m 58 ls [.int r12]) rfl ?_
        refine lv_aload_n hx hb dX8_normal_58 rfl (lv_at hl 2 rfl) ?_
        refine va_get (D := (dC, dI)) (ci := 0) (v := .int (ck x1.toNatClampNeg 0)) (C := RX1) (T := TX1) (N := 4) hx hb hts hinX1 hown hK (wC_k hP hki) 0 rfl rfl 0 (by decide) hk66 (fun _ h9 => h9) rfl dX8_normal_59 ?_
        refine lv_icmp_eq (tgt := 67) hx hb dX8_normal_62 (by decide) (fun c14 => ?_) (fun c14 => ?_)
        · have hf := (if_pos c14).symm.trans hf
          refine lv_iload_n hx hb dX8_normal_67 rfl (lv_at hl 1 rfl) ?_
          refine lv_aload_n hx hb dX8_normal_68 rfl (lv_at hl 2 rfl) ?_
          refine va_get (D := (dC, dI)) (ci := 0) (v := .int (ck x1.toNatClampNeg 0)) (C := RX1) (T := TX1) (N := 4) hx hb hts hinX1 hown hK (wC_k hP hki) 0 rfl rfl 0 (by decide) hk66 (fun _ h9 => h9) rfl dX8_normal_69 ?_
          obtain ⟨r15, hc16, hf⟩ := of_bind_some hf
          refine W.callR (r := r15) (W.runS (As := [.int (ck x1.toNatClampNeg 0)]) (rest := [.int r1]) ⟨hx, hb, hml, hown, hts⟩ (mX3_pitch l en (ck x1.toNatClampNeg 0) r15 hc16) (va_cwS 1 hts gX8_normal_X3_pitch rfl rfl rfl (by decide +kernel) ⟨Nat.le_of_ble_eq_true rfl, Nat.le_of_ble_eq_true rfl⟩) ⟨blindS, fun U hU hW => ⟨rfl, cE_read hE hS hW hU⟩⟩ rfl rfl hl.1 rfl (lv_room (Nat.le_of_ble_eq_true rfl)) dX8_normal_72 ⟨Nat.zero_le _, Nat.zero_le _⟩) ?_
          refine W.eq (g2 := F0 m 75 ls [.int r15, .int r1]) rfl ?_
          refine lv_icmp_eq (tgt := 89) hx hb dX8_normal_75 (by decide) (fun c17 => ?_) (fun c17 => ?_)
          · have hf := (if_pos c17).symm.trans hf
            refine lv_iconst (v := (1 : Int32)) hx hb dX8_normal_89 (by decide) ?_
            refine lv_goto (tgt := 94) hx hb dX8_normal_90 (by decide) ?_
            exact W.iret (v := (1 : Int32)) hx hb hr (fun t ht hW => ⟨congrArg (fun z => Outcome.returned (some (Value.int z))) (Option.some.inj hf), ht⟩) (fun _ h => nomatch h) dX8_normal_94
          · have hf := (if_neg c17).symm.trans hf
            refine lv_iload_n hx hb dX8_normal_78 rfl (lv_at hl 1 rfl) ?_
            obtain ⟨r18, hc19, hf⟩ := of_bind_some hf
            refine W.callR (r := r18) (W.runS (As := [.int r1]) (rest := []) ⟨hx, hb, hml, hown, hts⟩ (mX2_bassNote l en r1 r18 hc19) (va_cwS 1 hts gX8_normal_X2_bassNote rfl rfl rfl (by decide +kernel) ⟨Nat.le_of_ble_eq_true rfl, Nat.le_of_ble_eq_true rfl⟩) ⟨blindS, fun U hU hW => ⟨rfl, cE_read hE hS hW hU⟩⟩ rfl rfl hl.1 rfl (lv_room (Nat.le_of_ble_eq_true rfl)) dX8_normal_79 ⟨Nat.zero_le _, Nat.zero_le _⟩) ?_
            refine W.eq (g2 := F0 m 82 ls [.int r18]) rfl ?_
            refine lv_aload_n hx hb dX8_normal_82 rfl (lv_at hl 2 rfl) ?_
            refine va_get (D := (dC, dI)) (ci := 0) (v := .int (ck x1.toNatClampNeg 2)) (C := RX1) (T := TX1) (N := 4) hx hb hts hinX1 hown hK (wC_k hP hki) 0 rfl rfl 2 (by decide) hk75 (fun _ h9 => h9) rfl dX8_normal_83 ?_
            refine lv_icmp_ne (tgt := 93) hx hb dX8_normal_86 (by decide) (fun c20 => ?_) (fun c20 => ?_)
            · have hf := (if_neg c20).symm.trans hf
              refine lv_iconst (v := (0 : Int32)) hx hb dX8_normal_93 (by decide) ?_
              exact W.iret (v := (0 : Int32)) hx hb hr (fun t ht hW => ⟨congrArg (fun z => Outcome.returned (some (Value.int z))) (Option.some.inj hf), ht⟩) (fun _ h => nomatch h) dX8_normal_94
            · have hf := (if_pos c20).symm.trans hf
              refine lv_iconst (v := (1 : Int32)) hx hb dX8_normal_89 (by decide) ?_
              refine lv_goto (tgt := 94) hx hb dX8_normal_90 (by decide) ?_
              exact W.iret (v := (1 : Int32)) hx hb hr (fun t ht hW => ⟨congrArg (fun z => Outcome.returned (some (Value.int z))) (Option.some.inj hf), ht⟩) (fun _ h => nomatch h) dX8_normal_94
        · have hf := (if_neg c14).symm.trans hf
          refine lv_iconst (v := (0 : Int32)) hx hb dX8_normal_65 (by decide) ?_
          exact W.iret (v := (0 : Int32)) hx hb hr (fun t ht hW => ⟨congrArg (fun z => Outcome.returned (some (Value.int z))) (Option.some.inj hf), ht⟩) (fun _ h => nomatch h) dX8_normal_66
def fX8_key (nC : Nat) (ck : Nat → Nat → Int32) (J : Nat → Nat → Int32) (E : Nat → Nat → Nat → Int32) (L : Nat → Int64)  (x1 : Int32) : Option Int32 :=
  ((fX7_keyAt (J 3) L (E 3) x1).bind fun r1 => (some r1))
set_option maxRecDepth 100000 in
set_option maxHeartbeats 4000000 in
theorem mX8_key (l : Launch) (en : Nat → Nat) (dC : Nat → ClassId) (dI : Nat → Nat → Nat) (cI cC : ClassId) (G : Nat → Nat → Nat) (ca : Nat → Nat) (nC : Nat) (ck : Nat → Nat → Int32) (J : Nat → Nat → Int32) (E : Nat → Nat → Nat → Int32) (L : Nat → Int64)  (x1 : Int32) (r : Int32) (hf : fX8_key nC ck J E L x1 = some r) : Met l yX8_key wsX8_key ({ frames := 1, cells := 0, slots := 0, locals := 21 }) (va_Pc [.ref (G 0 100), .int x1] (fun U => va_P (dC, dI) vwCl (wC cI cC G ca nC ck J E L) U.heap ∧ va_K (dC, dI) vwCl (t8 cI cC) U ∧ cE en NA U U.heap)) (QcRead r) 0 0 (fun _ => False) := by
  refine Met.ofW (cc := cX8_key) (maxL := 2) (ret := (some .int)) (by decide) rfl ?_
  intro p e s m args below meth c s₁ BL hml hv
  obtain ⟨rfl, hP, hK, hE⟩ := hv
  have hS : va_S NA s.heap s.heap [] := va_S.rf
  have hx := BL.exec
  have hb := BL.bytes
  have hr := BL.returns
  have hts := atoms_spec (ws := wsX8_key) BL.pre
  have hown : s.vm.findClass RX8 = some m.cls := findClass_of_methodNamed BL.named
  have hlocks := BL.notSynchronized
  have hinX8 : ∀ w ∈ u_ws RX8 TX8 6, w ∈ wsX8_key := by decide +kernel
  have hk32 := hts (.fieldLink RX8 32 "LeadSheets" "voicing" "LLeadSheets$Voicing;") (by decide +kernel)
  have hl := lv_entry ([.ref (G 0 100), .int x1]) (n := 2) (Nat.le_of_ble_eq_true rfl)
  rw [lg_entry_eq]
  generalize (lg_sl ([.ref (G 0 100), .int x1]) ++ List.replicate (2 - (lg_sl ([.ref (G 0 100), .int x1])).length) Slot.unset).toArray = ls at hl ⊢
  have hl : lv_has ls 2 [(0, .ref (G 0 100)), (1, .int x1)] := hl
  unfold fX8_key at hf
  refine lv_aload_n hx hb dX8_key_0 rfl (lv_at hl 0 rfl) ?_
  refine va_get (D := (dC, dI)) (ci := 5) (v := .ref (G 3 100)) (C := RX8) (T := TX8) (N := 6) hx hb hts hinX8 hown hK hP 0 rfl rfl 3 (by decide) hk32 (fun _ h9 => h9) rfl dX8_key_1 ?_
  refine lv_iload_n hx hb dX8_key_4 rfl (lv_at hl 1 rfl) ?_
  obtain ⟨r1, hc2, hf⟩ := of_bind_some hf
  have hs3 : va_P (dC, dI) vwCl (wV cI (G 3) (J 3) L (E 3)) s.heap := hP.sub [7, 8, 9, 10] rfl
  refine W.callR (r := r1) (W.runV (As := [.int x1]) (rest := []) ⟨hx, hb, hml, hown, hts⟩ (mX7_keyAt l dC dI cI (G 3) (J 3) L (E 3) x1 r1 hc2) (cwV 1 hts gX8_key_X7_keyAt rfl rfl rfl (by decide +kernel) ⟨Nat.le_of_ble_eq_true rfl, Nat.le_of_ble_eq_true rfl⟩) ⟨blindR, va_recv hK hs3 (ci := 4) (q0 := 0) rfl rfl, fun U hU hW => ⟨rfl, by rw [hU]; exact hs3, va_K.moved hW.alike (hK.sub [0] rfl)⟩⟩ rfl rfl hl.1 rfl (lv_room (Nat.le_of_ble_eq_true rfl)) dX8_key_5 ⟨Nat.zero_le _, Nat.zero_le _⟩) ?_
  refine W.eq (g2 := F0 m 8 ls [.int r1]) rfl ?_
  exact W.iret (v := r1) hx hb hr (fun t ht hW => ⟨congrArg (fun z => Outcome.returned (some (Value.int z))) (Option.some.inj hf), ht⟩) (fun _ h => nomatch h) dX8_key_8
def fX8_count (nC : Nat) (ck : Nat → Nat → Int32) (J : Nat → Nat → Int32) (E : Nat → Nat → Nat → Int32) (L : Nat → Int64)  (x1 : Int32) : Option Int32 :=
  (if x1 = (0 : Int32) then (some ((J 0) 5)) else (if x1 = (1 : Int32) then (some ((J 2) 2)) else (if x1 = (2 : Int32) then (some ((J 1) 1)) else (if x1 = (3 : Int32) then (some ((J 4) 1)) else (if x1 = (4 : Int32) then (some ((J 3) 1)) else (some (-1 : Int32)))))))
set_option maxRecDepth 100000 in
set_option maxHeartbeats 4000000 in
theorem mX8_count (l : Launch) (en : Nat → Nat) (dC : Nat → ClassId) (dI : Nat → Nat → Nat) (cI cC : ClassId) (G : Nat → Nat → Nat) (ca : Nat → Nat) (nC : Nat) (ck : Nat → Nat → Int32) (J : Nat → Nat → Int32) (E : Nat → Nat → Nat → Int32) (L : Nat → Int64)  (x1 : Int32) (r : Int32) (hf : fX8_count nC ck J E L x1 = some r) : Met l yX8_count wsX8_count ({ frames := 0, cells := 0, slots := 0, locals := 0 }) (va_Pc [.ref (G 0 100), .int x1] (fun U => va_P (dC, dI) vwCl (wC cI cC G ca nC ck J E L) U.heap ∧ va_K (dC, dI) vwCl (t8 cI cC) U ∧ cE en NA U U.heap)) (QcRead r) 0 0 (fun _ => False) := by
  refine Met.ofW (cc := cX8_count) (maxL := 2) (ret := (some .int)) (by decide) rfl ?_
  intro p e s m args below meth c s₁ BL hml hv
  obtain ⟨rfl, hP, hK, hE⟩ := hv
  have hS : va_S NA s.heap s.heap [] := va_S.rf
  have hx := BL.exec
  have hb := BL.bytes
  have hr := BL.returns
  have hts := atoms_spec (ws := wsX8_count) BL.pre
  have hown : s.vm.findClass RX8 = some m.cls := findClass_of_methodNamed BL.named
  have hlocks := BL.notSynchronized
  have hinX2 : ∀ w ∈ u_ws RX2 TX2 4, w ∈ wsX8_count := by decide +kernel
  have hinX5 : ∀ w ∈ u_ws RX5 TX5 4, w ∈ wsX8_count := by decide +kernel
  have hinX6 : ∀ w ∈ u_ws RX6 TX6 2, w ∈ wsX8_count := by decide +kernel
  have hinX7 : ∀ w ∈ u_ws RX7 TX7 6, w ∈ wsX8_count := by decide +kernel
  have hinX8 : ∀ w ∈ u_ws RX8 TX8 6, w ∈ wsX8_count := by decide +kernel
  have hk10 := hts (.fieldLink RX8 10 "LeadSheets" "tape" "LLeadSheets$Tape;") (by decide +kernel)
  have hk25 := hts (.fieldLink RX8 25 "LeadSheets" "names" "LLeadSheets$Names;") (by decide +kernel)
  have hk32 := hts (.fieldLink RX8 32 "LeadSheets" "voicing" "LLeadSheets$Voicing;") (by decide +kernel)
  have hk39 := hts (.fieldLink RX8 39 "LeadSheets" "text" "LLeadSheets$Text;") (by decide +kernel)
  have hk146 := hts (.fieldLink RX8 146 "LeadSheets" "chordCount" "I") (by decide +kernel)
  have hl := lv_entry ([.ref (G 0 100), .int x1]) (n := 2) (Nat.le_of_ble_eq_true rfl)
  rw [lg_entry_eq]
  generalize (lg_sl ([.ref (G 0 100), .int x1]) ++ List.replicate (2 - (lg_sl ([.ref (G 0 100), .int x1])).length) Slot.unset).toArray = ls at hl ⊢
  have hl : lv_has ls 2 [(0, .ref (G 0 100)), (1, .int x1)] := hl
  unfold fX8_count at hf
  refine lv_iload_n hx hb dX8_count_0 rfl (lv_at hl 1 rfl) ?_
  by_cases c1 : x1 = (0 : Int32)
  · have hf := (if_pos c1).symm.trans hf
    refine lv_tableIn (tgt := 36) hx hb dX8_count_1 (by rw [c1]; decide) (by rw [c1]; decide) (by rw [c1]; rfl) (by decide) ?_
    refine lv_aload_n hx hb dX8_count_36 rfl (lv_at hl 0 rfl) ?_
    refine va_get (D := (dC, dI)) (ci := 5) (v := .int ((J 0) 5)) (C := RX8) (T := TX8) (N := 6) hx hb hts hinX8 hown hK hP 0 rfl rfl 5 (by decide) hk146 (fun _ h9 => h9) rfl dX8_count_37 ?_
    exact W.iret (v := ((J 0) 5)) hx hb hr (fun t ht hW => ⟨congrArg (fun z => Outcome.returned (some (Value.int z))) (Option.some.inj hf), ht⟩) (fun _ h => nomatch h) dX8_count_40
  have hf := (if_neg c1).symm.trans hf
  by_cases c2 : x1 = (1 : Int32)
  · have hf := (if_pos c2).symm.trans hf
    refine lv_tableIn (tgt := 41) hx hb dX8_count_1 (by rw [c2]; decide) (by rw [c2]; decide) (by rw [c2]; rfl) (by decide) ?_
    refine lv_aload_n hx hb dX8_count_41 rfl (lv_at hl 0 rfl) ?_
    refine va_get (D := (dC, dI)) (ci := 5) (v := .ref (G 2 100)) (C := RX8) (T := TX8) (N := 6) hx hb hts hinX8 hown hK hP 0 rfl rfl 2 (by decide) hk25 (fun _ h9 => h9) rfl dX8_count_42 ?_
    refine va_getN (D := (dC, dI)) (ci := 1) (v := .int ((J 2) 2)) (C := RX2) (T := TX2) (N := 4) hx hb hts hinX2 hown hK hP 4 rfl rfl 2 (by decide) (va_Nw.use rfl (hE.2.2.2.2.2 (RX8, 188, RX2, "size", "I", RX8) (by decide +kernel))) (fun _ h9 => h9) rfl dX8_count_45 ?_
    exact W.iret (v := ((J 2) 2)) hx hb hr (fun t ht hW => ⟨congrArg (fun z => Outcome.returned (some (Value.int z))) (Option.some.inj hf), ht⟩) (fun _ h => nomatch h) dX8_count_48
  have hf := (if_neg c2).symm.trans hf
  by_cases c3 : x1 = (2 : Int32)
  · have hf := (if_pos c3).symm.trans hf
    refine lv_tableIn (tgt := 49) hx hb dX8_count_1 (by rw [c3]; decide) (by rw [c3]; decide) (by rw [c3]; rfl) (by decide) ?_
    refine lv_aload_n hx hb dX8_count_49 rfl (lv_at hl 0 rfl) ?_
    refine va_get (D := (dC, dI)) (ci := 5) (v := .ref (G 1 100)) (C := RX8) (T := TX8) (N := 6) hx hb hts hinX8 hown hK hP 0 rfl rfl 0 (by decide) hk10 (fun _ h9 => h9) rfl dX8_count_50 ?_
    refine va_getN (D := (dC, dI)) (ci := 2) (v := .int ((J 1) 1)) (C := RX5) (T := TX5) (N := 4) hx hb hts hinX5 hown hK hP 2 rfl rfl 1 (by decide) (va_Nw.use rfl (hE.2.2.2.2.2 (RX8, 189, RX5, "length", "I", RX8) (by decide +kernel))) (fun _ h9 => h9) rfl dX8_count_53 ?_
    exact W.iret (v := ((J 1) 1)) hx hb hr (fun t ht hW => ⟨congrArg (fun z => Outcome.returned (some (Value.int z))) (Option.some.inj hf), ht⟩) (fun _ h => nomatch h) dX8_count_56
  have hf := (if_neg c3).symm.trans hf
  by_cases c4 : x1 = (3 : Int32)
  · have hf := (if_pos c4).symm.trans hf
    refine lv_tableIn (tgt := 57) hx hb dX8_count_1 (by rw [c4]; decide) (by rw [c4]; decide) (by rw [c4]; rfl) (by decide) ?_
    refine lv_aload_n hx hb dX8_count_57 rfl (lv_at hl 0 rfl) ?_
    refine va_get (D := (dC, dI)) (ci := 5) (v := .ref (G 4 100)) (C := RX8) (T := TX8) (N := 6) hx hb hts hinX8 hown hK hP 0 rfl rfl 4 (by decide) hk39 (fun _ h9 => h9) rfl dX8_count_58 ?_
    refine va_getN (D := (dC, dI)) (ci := 3) (v := .int ((J 4) 1)) (C := RX6) (T := TX6) (N := 2) hx hb hts hinX6 hown hK hP 11 rfl rfl 1 (by decide) (va_Nw.use rfl (hE.2.2.2.2.2 (RX8, 187, RX6, "size", "I", RX8) (by decide +kernel))) (fun _ h9 => h9) rfl dX8_count_61 ?_
    exact W.iret (v := ((J 4) 1)) hx hb hr (fun t ht hW => ⟨congrArg (fun z => Outcome.returned (some (Value.int z))) (Option.some.inj hf), ht⟩) (fun _ h => nomatch h) dX8_count_64
  have hf := (if_neg c4).symm.trans hf
  by_cases c5 : x1 = (4 : Int32)
  · have hf := (if_pos c5).symm.trans hf
    refine lv_tableIn (tgt := 65) hx hb dX8_count_1 (by rw [c5]; decide) (by rw [c5]; decide) (by rw [c5]; rfl) (by decide) ?_
    refine lv_aload_n hx hb dX8_count_65 rfl (lv_at hl 0 rfl) ?_
    refine va_get (D := (dC, dI)) (ci := 5) (v := .ref (G 3 100)) (C := RX8) (T := TX8) (N := 6) hx hb hts hinX8 hown hK hP 0 rfl rfl 3 (by decide) hk32 (fun _ h9 => h9) rfl dX8_count_66 ?_
    refine va_getN (D := (dC, dI)) (ci := 4) (v := .int ((J 3) 1)) (C := RX7) (T := TX7) (N := 6) hx hb hts hinX7 hown hK hP 7 rfl rfl 1 (by decide) (va_Nw.use rfl (hE.2.2.2.2.2 (RX8, 163, RX7, "size", "I", RX8) (by decide +kernel))) (fun _ h9 => h9) rfl dX8_count_69 ?_
    exact W.iret (v := ((J 3) 1)) hx hb hr (fun t ht hW => ⟨congrArg (fun z => Outcome.returned (some (Value.int z))) (Option.some.inj hf), ht⟩) (fun _ h => nomatch h) dX8_count_72
  have hf := (if_neg c5).symm.trans hf
  refine lv_tableOut (tgt := 73) hx hb dX8_count_1 (by have := sw_ne (n := 0) (by decide) c1; have := sw_ne (n := 1) (by decide) c2; have := sw_ne (n := 2) (by decide) c3; have := sw_ne (n := 3) (by decide) c4; have := sw_ne (n := 4) (by decide) c5; omega) (by decide) ?_
  refine lv_iconst (v := (-1 : Int32)) hx hb dX8_count_73 (by decide) ?_
  exact W.iret (v := (-1 : Int32)) hx hb hr (fun t ht hW => ⟨congrArg (fun z => Outcome.returned (some (Value.int z))) (Option.some.inj hf), ht⟩) (fun _ h => nomatch h) dX8_count_74
