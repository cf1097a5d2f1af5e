/-! move() -/
theorem mb72_st : ∀ (n : Nat) (I : Nat → Int32) (v2 v3 v4 v5 v6 v7 : Int32) (z : Option (Nat → Int32) × (Nat → Int32)), fX1_movedBy_72 n I v2 v3 v4 v5 v6 v7 = some z → z.2 = I ∧ ∃ cv, z.1 = some cv := by
  intro n
  induction n with
  | zero => intro I v2 v3 v4 v5 v6 v7 z h; exact of_none h
  | succ n ih =>
    intro I v2 v3 v4 v5 v6 v7 z h
    change fX1_movedBy_72B (fX1_movedBy_72 n) I v2 v3 v4 v5 v6 v7 = some z at h
    unfold fX1_movedBy_72B at h
    split at h
    · cases h; exact ⟨rfl, _, rfl⟩
    · obtain ⟨r1, -, h⟩ := of_bind_some h
      obtain ⟨r2, -, h⟩ := of_bind_some h
      split at h
      · exact ih _ _ _ _ _ _ _ _ h
      · split at h
        · exact ih _ _ _ _ _ _ _ _ h
        · obtain ⟨r3, -, h⟩ := of_bind_some h
          split at h
          · exact ih _ _ _ _ _ _ _ _ h
          · split at h
            · exact ih _ _ _ _ _ _ _ _ h
            · exact ih _ _ _ _ _ _ _ _ h
theorem movedBy_st {I : Nat → Int32} {x1 : Int32} {z : Option (Nat → Int32) × (Nat → Int32)} (h : fX1_movedBy I x1 = some z) : z.2 = I ∧ ∃ cv, z.1 = some cv := by
  unfold fX1_movedBy at h
  obtain ⟨r1, -, h⟩ := of_bind_some h
  obtain ⟨r2, -, h⟩ := of_bind_some h
  split at h
  · obtain ⟨r3, -, h⟩ := of_bind_some h
    cases h; exact ⟨rfl, _, rfl⟩
  · exact mb72_st _ _ _ _ _ _ _ _ _ h
theorem wC_sk (cI cC : ClassId) (G : Nat → Nat → Nat) (ca : Nat → Nat) (nC : Nat) (ck : Nat → Nat → Int32) (J : Nat → Nat → Int32) (E : Nat → Nat → Nat → Int32) (L : Nat → Int64) {i : Nat} (h : i < nC) : ∃ X Y : va_W, wC cI cC G ca nC ck J E L = X ++ (wK cI (fun _ => ca i) (ck i) ++ Y) := by
  obtain ⟨hlt, hg⟩ := List.getElem?_eq_some_iff.mp (wC_get cI cC G ca nC ck J E L h)
  refine ⟨(wC cI cC G ca nC ck J E L).take (13 + i), (wC cI cC G ca nC ck J E L).drop (13 + i + 1), ?_⟩
  have e : wK cI (fun _ => ca i) (ck i) = [kc ca ck i] := rfl
  rw [e, ← hg, List.singleton_append, List.getElem_cons_drop, List.take_append_drop]
theorem pm_mid (X a N Y : va_W) : (X ++ ((a ++ N) ++ Y)).Perm ((X ++ (a ++ Y)) ++ N) := by
  rw [List.append_assoc, List.append_assoc, List.append_assoc]
  exact List.Perm.append_left _ (List.Perm.append_left _ List.perm_append_comm)
def fX8_move (nC : Nat) (ck : Nat → Nat → Int32) (J : Nat → Nat → Int32) (E : Nat → Nat → Nat → Int32) (L : Nat → Int64) (x1 x2 : Int32) : Option (Int32 × Nat × (Nat → Nat → Int32) × (Nat → Nat → Int32) × (Nat → Nat → Nat → Int32) × (Nat → Int64)) :=
  ckAt nC J x1 (if J 0 5 < 100 then ((fX1_movedBy (ck x1.toNatClampNeg) (fJ9_floorMod_7cf53 x2 12)).bind fun (oc, _) =>
    match oc with
    | none => none
    | some cv => (fX8_keep nC ck J cv).bind fun (r, n2, ck2, J2) => some (r, n2, ck2, J2, E, L)) else some (-3, nC, ck, J, E, L)) (some (-1, nC, ck, J, E, L))
set_option maxRecDepth 100000 in
set_option maxHeartbeats 4000000 in
theorem mX8_move (l : Launch) (en : Nat → Nat) (dC : Nat → ClassId) (dI : Nat → Nat → Nat) (cI cC : ClassId) (G : Nat → Nat → Nat) (ca : Nat → Nat) (nC : Nat) (ck : Nat → Nat → Int32) (J : Nat → Nat → Int32) (E : Nat → Nat → Nat → Int32) (L : Nat → Int64) (x1 x2 : Int32) (sz : Nat) (z : Int32 × Nat × (Nat → Nat → Int32) × (Nat → Nat → Int32) × (Nat → Nat → Nat → Int32) × (Nat → Int64)) (hf : fX8_move nC ck J E L x1 x2 = some z) : Met l yX8_move wsX8_move ({ frames := 7, cells := 1, slots := 4, locals := 167 }) (va_Pc [.ref (G 0 100), .int x1, .int x2] (fun U => U.heap.size = sz ∧ va_P (dC, dI) vwCl (wC cI cC G ca nC ck J E L) U.heap ∧ va_K (dC, dI) vwCl (t8 cI cC) U ∧ va_D (fun _ => True) (wC cI cC G ca nC ck J E L) ∧ cE en (va_A (wC cI cC G ca nC ck J E L) sz) U U.heap)) (va_Qi (fun (r : Int32) (u : Nat × (Nat → Nat → Int32) × (Nat → Nat → Int32) × (Nat → Nat → Nat → Int32) × (Nat → Int64)) => (r, u) = z) (fun (u : Nat × (Nat → Nat → Int32) × (Nat → Nat → Int32) × (Nat → Nat → Nat → Int32) × (Nat → Int64)) (t : State) => ∃ ca2 : Nat → Nat, va_P (dC, dI) vwCl (wC cI cC G ca2 u.1 u.2.1 u.2.2.1 u.2.2.2.1 u.2.2.2.2) t.heap ∧ va_K (dC, dI) vwCl (t8 cI cC) t ∧ va_D (va_A (wC cI cC G ca nC ck J E L) sz) (wC cI cC G ca2 u.1 u.2.1 u.2.2.1 u.2.2.2.1 u.2.2.2.2)) (va_A (wC cI cC G ca nC ck J E L) sz)) 1 4 (va_A (wC cI cC G ca nC ck J E L) sz) := by
  refine Met.ofW (cc := cX8_move) (maxL := 4) (ret := (some .int)) (by decide) rfl ?_
  intro p e s m args below meth c s₁ BL hml hv
  obtain ⟨rfl, hsz, hP, hK, hD0, hE⟩ := hv
  have hx := BL.exec
  have hb := BL.bytes
  have hr := BL.returns
  have hts := atoms_spec (ws := wsX8_move) BL.pre
  have hown : s.vm.findClass RX8 = some m.cls := findClass_of_methodNamed BL.named
  have hlocks := BL.notSynchronized
  have hinX8 : ∀ w ∈ u_ws RX8 TX8 6, w ∈ wsX8_move := by decide +kernel
  have hk146 := hts (.fieldLink RX8 146 "LeadSheets" "chordCount" "I") (by decide +kernel)
  subst hsz
  have hD := hD0.self (sz := s.heap.size)
  generalize hAe : va_A (wC cI cC G ca nC ck J E L) s.heap.size = AA at hD hE ⊢
  have hA : ∀ q : Nat, s.heap.size ≤ q → AA q := fun q h => by rw [← hAe]; exact Or.inr h
  have hS : va_S AA s.heap s.heap [] := va_S.rf
  have hl := lv_entry ([.ref (G 0 100), .int x1, .int x2]) (n := 4) (Nat.le_of_ble_eq_true rfl)
  rw [lg_entry_eq]
  generalize (lg_sl ([.ref (G 0 100), .int x1, .int x2]) ++ List.replicate (4 - (lg_sl ([.ref (G 0 100), .int x1, .int x2])).length) Slot.unset).toArray = ls at hl ⊢
  have hl : lv_has ls 4 [(0, .ref (G 0 100)), (1, .int x1), (2, .int x2)] := hl
  unfold fX8_move at hf
  refine lv_aload_n hx hb dX8_move_0 rfl (lv_at hl 0 rfl) ?_
  refine lv_iload_n hx hb dX8_move_1 rfl (lv_at hl 1 rfl) ?_
  rcases of_ckAt ca hf with ⟨hq, hf⟩ | ⟨hki, hq, hf⟩
  · refine va_csq (W.runV (As := [.int x1]) (rest := []) ⟨hx, hb, hml, hown, hts⟩ (mX8_chordAt l dC dI cI cC G ca nC ck J E L x1 none hq) (cwV 1 hts gX8_move_X8_chordAt rfl rfl rfl (by decide +kernel) ⟨Nat.le_of_ble_eq_true rfl, Nat.le_of_ble_eq_true rfl⟩) ⟨blindR, va_recv hK hP (ci := 5) (q0 := 0) rfl rfl, fun U hU hW => ⟨rfl, by rw [hU]; exact hP, va_K.moved hW.alike hK⟩⟩ rfl rfl hl.1 rfl (lv_room (Nat.le_of_ble_eq_true rfl)) dX8_move_2 ⟨Nat.zero_le _, Nat.zero_le _⟩) (fun rq hrq => ?_)
    subst hrq
    refine W.eq (g2 := F0 m 5 ls [.null]) rfl ?_
    refine lv_astore_nN (lv' := [(3, .null), (0, .ref (G 0 100)), (1, .int x1), (2, .int x2)]) hx hb dX8_move_5 rfl hl (by decide) rfl (fun ls hl => ?_)
    refine lv_aload_nN hx hb dX8_move_6 rfl (lv_at hl 0 rfl) ?_
    refine lv_ifnonnullN hx hb dX8_move_7 ?_
    refine lv_iconst (v := (-1 : Int32)) hx hb dX8_move_10 (by decide) ?_
    refine W.widen (k := 1) (n := 4) (Nat.le_of_ble_eq_true rfl) (Nat.le_of_ble_eq_true rfl) ?_
    exact W.iret (v := (-1 : Int32)) hx hb hr (fun t ht hW => ⟨⟨(-1 : Int32), (nC, ck, J, E, L), rfl, Option.some.inj hf, ca, by rw [ht]; exact hP, va_K.moved hW.alike hK, hD⟩, hS.F ht⟩) hS.2.2 dX8_move_11
  · refine va_csq (W.runV (As := [.int x1]) (rest := []) ⟨hx, hb, hml, hown, hts⟩ (mX8_chordAt l dC dI cI cC G ca nC ck J E L x1 (some (ca x1.toNatClampNeg)) hq) (cwV 1 hts gX8_move_X8_chordAt rfl rfl rfl (by decide +kernel) ⟨Nat.le_of_ble_eq_true rfl, Nat.le_of_ble_eq_true rfl⟩) ⟨blindR, va_recv hK hP (ci := 5) (q0 := 0) rfl rfl, fun U hU hW => ⟨rfl, by rw [hU]; exact hP, va_K.moved hW.alike hK⟩⟩ rfl rfl hl.1 rfl (lv_room (Nat.le_of_ble_eq_true rfl)) dX8_move_2 ⟨Nat.zero_le _, Nat.zero_le _⟩) (fun rq hrq => ?_)
    subst hrq
    refine W.eq (g2 := F0 m 5 ls [.ref (ca x1.toNatClampNeg)]) rfl ?_
    refine lv_astore_n (lv' := [(3, .ref (ca x1.toNatClampNeg)), (0, .ref (G 0 100)), (1, .int x1), (2, .int x2)]) hx hb dX8_move_5 rfl hl (by decide) rfl (fun ls hl => ?_)
    refine lv_aload_n hx hb dX8_move_6 rfl (lv_at hl 0 rfl) ?_
    refine lv_ifnonnull (tgt := 12) hx hb dX8_move_7 (by decide) ?_
    refine lv_aload_n hx hb dX8_move_12 rfl (lv_at hl 1 rfl) ?_
    refine va_get (D := (dC, dI)) (ci := 5) (v := .int (J 0 5)) (C := RX8) (T := TX8) (N := 6) hx hb hts hinX8 hown hK hP 0 rfl rfl 5 (by decide) hk146 (fun _ h9 => h9) rfl dX8_move_13 ?_
    refine lv_bipush (v := (100 : Int32)) hx hb dX8_move_16 (by decide) ?_
    refine lv_icmp_lt (tgt := 24) hx hb dX8_move_18 (by decide) (fun c1 => ?_) (fun c1 => ?_)
    · have hf := (if_pos c1).symm.trans hf
      obtain ⟨⟨oc, I9⟩, hc1, hf⟩ := of_bind_some hf
      obtain ⟨hI9, cv, hcv⟩ := movedBy_st hc1
      dsimp only at hI9 hcv
      subst hI9
      subst hcv
      obtain ⟨⟨r9, n2, ck2, J2⟩, hc3, hf⟩ := of_bind_some hf
      refine lv_aload_n hx hb dX8_move_24 rfl (lv_at hl 1 rfl) ?_
      refine lv_aload_n hx hb dX8_move_25 rfl (lv_at hl 0 rfl) ?_
      refine lv_iload_n hx hb dX8_move_26 rfl (lv_at hl 3 rfl) ?_
      refine lv_bipush (v := (12 : Int32)) hx hb dX8_move_27 (by decide) ?_
      refine W.callR (r := fJ9_floorMod_7cf53 x2 12) (W.runS (As := [.int x2, .int 12]) (rest := [.ref (ca x1.toNatClampNeg), .ref (G 0 100)]) ⟨hx, hb, hml, hown, hts⟩ (mJ9_floorMod_7cf53 l x2 12 (by decide) _ rfl) (va_cwS 2 hts gX8_move_J9_floorMod_7cf53 rfl rfl rfl (by decide +kernel) ⟨Nat.le_of_ble_eq_true rfl, Nat.le_of_ble_eq_true rfl⟩) ⟨fun _ _ _ _ q => q, fun U hU hW => ⟨rfl, trivial⟩⟩ rfl rfl hl.1 rfl (lv_room (Nat.le_of_ble_eq_true rfl)) dX8_move_29 ⟨Nat.zero_le _, Nat.zero_le _⟩) ?_
      refine W.eq (g2 := F0 m 32 ls [.int (fJ9_floorMod_7cf53 x2 12), .ref (ca x1.toNatClampNeg), .ref (G 0 100)]) rfl ?_
      obtain ⟨X, Y, hXY⟩ := wC_sk cI cC G ca nC ck J E L hki
      have hPs := Eq.mp (congrArg (fun w => va_P (dC, dI) vwCl w s.heap) hXY) hP
      have hDs := Eq.mp (congrArg (fun w => va_D AA w) hXY) hD
      have hF := va_freeMid hDs hS hA
      refine va_callq (va_runV (As := [.int (fJ9_floorMod_7cf53 x2 12)]) (rest := [.ref (G 0 100)]) ⟨hx, hb, hml, hown, hts⟩ (mX1_movedBy l en dC dI cI (fun _ => ca x1.toNatClampNeg) (ck x1.toNatClampNeg) (fJ9_floorMod_7cf53 x2 12) s.heap.size _ hc1) (cwV 1 hts gX8_move_X1_movedBy rfl rfl rfl (by decide +kernel) ⟨Nat.le_of_ble_eq_true rfl, Nat.le_of_ble_eq_true rfl⟩) ⟨blindWE, va_recv hK hPs.mid (ci := 0) (q0 := 0) rfl rfl, fun U hU hW => ⟨rfl, by rw [hU], by rw [hU]; exact hPs.mid, va_K.moved hW.alike (hK.sub [0] rfl), hDs.mid.weaken (fun _ _ _ _ => trivial), cE_sub hE hS hW hU hF⟩⟩ rfl rfl hl.1 rfl (lv_room (Nat.le_of_ble_eq_true rfl)) dX8_move_32 ⟨Nat.le_of_ble_eq_true rfl, Nat.le_of_ble_eq_true rfl⟩) hS (fun q _ h => hF q h) hF (fun r u t H locs ht hvm hw hB hz1 hk1 hS => ?_)
      obtain ⟨ur, uo, uI⟩ := u
      obtain ⟨hw1, hw2, hw3⟩ := hw
      cases hw2
      obtain rfl : ur = r := hw1
      obtain ⟨hP1, hK9, hD1⟩ := hB
      rw [ht] at hP1
      obtain ⟨hP, hD⟩ := va_joinMid hPs hDs hk1 hF hP1 hD1
      have hP := hP.perm (pm_mid X (wK cI (fun _ => ca x1.toNatClampNeg) (ck x1.toNatClampNeg)) (nwc ur (some cv)) Y)
      have hD := hD.perm (pm_mid X (wK cI (fun _ => ca x1.toNatClampNeg) (ck x1.toNatClampNeg)) (nwc ur (some cv)) Y)
      rw [← hXY] at hP hD
      clear hPs hDs hP1 hD1 hk1 hF
      obtain ⟨q, rfl⟩ : ∃ q, ur = some q := by
        cases ur with
        | none => cases hw3
        | some q => exact ⟨q, rfl⟩
      refine W.eq (g2 := F0 m 35 ls [.ref q, .ref (G 0 100)]) rfl ?_
      have hF9 := va_freeAll hD hS hA
      refine va_calli (va_runV (As := [.ref q]) (rest := []) ⟨hx, hb, hml, hown, hts⟩ (mX8_keep l dC dI cI cC G ca nC ck J E L q cv H.size _ hc3) (cwV 1 hts gX8_move_X8_keep rfl rfl rfl (by decide +kernel) ⟨Nat.le_of_ble_eq_true rfl, Nat.le_of_ble_eq_true rfl⟩) ⟨blindW, va_recv hK hP (ci := 5) (q0 := 0) rfl rfl, fun U hU hW => ⟨rfl, by rw [hU], by rw [hU]; exact hP, va_K.moved hW.alike hK, hD.weaken (fun _ _ _ _ => trivial)⟩⟩ rfl rfl hl.1 rfl (lv_room (Nat.le_of_ble_eq_true rfl)) dX8_move_35 ⟨Nat.le_of_ble_eq_true rfl, Nat.le_of_ble_eq_true rfl⟩) hS (fun q _ h => hF9 q h) hF9 (fun r0 u t H locs ht hvm hw hB hz1 hk1 hS => ?_)
      cases hw
      obtain ⟨ca2, hP, hK9, hD⟩ := hB
      rw [ht] at hP
      have hD := hD.weaken (fun _ _ _ h => hF9 _ h)
      refine W.widen (k := 1) (n := 4) (Nat.le_of_ble_eq_true rfl) (Nat.le_of_ble_eq_true rfl) ?_
      exact W.iret (v := r9) hx hb hr (fun t ht hW => ⟨⟨r9, (n2, ck2, J2, E, L), rfl, Option.some.inj hf, ca2, by rw [ht]; exact hP, va_K.moved hW.alike hK, hD⟩, hS.F ht⟩) hS.2.2 dX8_move_38
    · have hf := (if_neg c1).symm.trans hf
      refine lv_bipush (v := (-3 : Int32)) hx hb dX8_move_21 (by decide) ?_
      refine W.widen (k := 1) (n := 4) (Nat.le_of_ble_eq_true rfl) (Nat.le_of_ble_eq_true rfl) ?_
      exact W.iret (v := (-3 : Int32)) hx hb hr (fun t ht hW => ⟨⟨(-3 : Int32), (nC, ck, J, E, L), rfl, Option.some.inj hf, ca, by rw [ht]; exact hP, va_K.moved hW.alike hK, hD⟩, hS.F ht⟩) hS.2.2 dX8_move_23
