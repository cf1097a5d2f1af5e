/-! chord() -/
theorem wC_rd (cI cC : ClassId) (G : Nat → Nat → Nat) (ca : Nat → Nat) (nC : Nat) (ck : Nat → Nat → Int32) (J : Nat → Nat → Int32) (E : Nat → Nat → Nat → Int32) (L : Nat → Int64) (I1 : Nat → Int32) (A1 : Nat → Nat → Int32) (N : va_W) :
    (x8_tape cI cC G ca nC ck J E L ++ ((wT cI (G 1) I1 A1 ++ N) ++ y8_tape cI cC G ca nC ck J E L)).Perm (wC cI cC G ca nC ck (va_up J 1 I1) (va_up E 1 A1) L ++ N) := by
  rw [← wC_j_tape cI cC G ca nC ck J E L I1 A1]
  rw [List.append_assoc, List.append_assoc, List.append_assoc]
  exact List.Perm.append_left _ (List.Perm.append_left _ List.perm_append_comm)
theorem wC_sN (cI cC : ClassId) (G : Nat → Nat → Nat) (ca : Nat → Nat) (nC : Nat) (ck : Nat → Nat → Int32) (J : Nat → Nat → Int32) (E : Nat → Nat → Nat → Int32) (L : Nat → Int64) (N : va_W) :
    wC cI cC G ca nC ck J E L ++ N = x8_tape cI cC G ca nC ck J E L ++ (wT cI (G 1) (J 1) (E 1) ++ (y8_tape cI cC G ca nC ck J E L ++ N)) := by
  rw [wC_s_tape, List.append_assoc, List.append_assoc]
theorem wC_jN (cI cC : ClassId) (G : Nat → Nat → Nat) (ca : Nat → Nat) (nC : Nat) (ck : Nat → Nat → Int32) (J : Nat → Nat → Int32) (E : Nat → Nat → Nat → Int32) (L : Nat → Int64) (I1 I2 : Nat → Int32) (A1 A2 : Nat → Nat → Int32) (N : va_W) :
    x8_tape cI cC G ca nC ck (va_up J 1 I1) (va_up E 1 A1) L ++ (wT cI (G 1) I2 A2 ++ (y8_tape cI cC G ca nC ck (va_up J 1 I1) (va_up E 1 A1) L ++ N)) = wC cI cC G ca nC ck (va_up J 1 I2) (va_up E 1 A2) L ++ N := by
  rw [← vupc J 1 I1 I2, ← vupc E 1 A1 A2, ← wC_j_tape cI cC G ca nC ck (va_up J 1 I1) (va_up E 1 A1) L I2 A2, List.append_assoc, List.append_assoc]
def fX8_chord (nC : Nat) (ck : Nat → Nat → Int32) (J : Nat → Nat → Int32) (E : Nat → Nat → Nat → Int32) (L : Nat → Int64) : Option (Int32 × Nat × (Nat → Nat → Int32) × (Nat → Nat → Int32) × (Nat → Nat → Nat → Int32) × (Nat → Int64)) :=
  (fX5_read (J 1) (E 1)).bind fun (oc, I1, A1) => (fX5_clear I1 A1).bind fun (I2, A2) =>
    match oc with
    | none => some ((-10 : Int32) - I1 2, nC, ck, va_up J 1 I2, va_up E 1 A2, L)
    | some cv => (fX8_keep nC ck (va_up J 1 I2) cv).bind fun (r, n2, ck2, J2) => some (r, n2, ck2, J2, va_up E 1 A2, L)
set_option maxRecDepth 100000 in
set_option maxHeartbeats 4000000 in
theorem mX8_chord (l : Launch) (en : Nat → Nat) (dC : Nat → ClassId) (dI : Nat → Nat → Nat) (cI cC : ClassId) (G : Nat → Nat → Nat) (ca : Nat → Nat) (nC : Nat) (ck : Nat → Nat → Int32) (J : Nat → Nat → Int32) (E : Nat → Nat → Nat → Int32) (L : Nat → Int64) (sz : Nat) (z : Int32 × Nat × (Nat → Nat → Int32) × (Nat → Nat → Int32) × (Nat → Nat → Nat → Int32) × (Nat → Int64)) (hf : fX8_chord nC ck J E L = some z) : Met l yX8_chord wsX8_chord ({ frames := 9, cells := 1, slots := 4, locals := 203 }) (va_Pc [.ref (G 0 100)] (fun U => U.heap.size = sz ∧ va_P (dC, dI) vwCl (wC cI cC G ca nC ck J E L) U.heap ∧ va_K (dC, dI) vwCl (t8 cI cC) U ∧ va_D (fun _ => True) (wC cI cC G ca nC ck J E L) ∧ cE en (va_A (wC cI cC G ca nC ck J E L) sz) U U.heap)) (va_Qi (fun (r : Int32) (u : Nat × (Nat → Nat → Int32) × (Nat → Nat → Int32) × (Nat → Nat → Nat → Int32) × (Nat → Int64)) => (r, u) = z) (fun (u : Nat × (Nat → Nat → Int32) × (Nat → Nat → Int32) × (Nat → Nat → Nat → Int32) × (Nat → Int64)) (t : State) => ∃ ca2 : Nat → Nat, va_P (dC, dI) vwCl (wC cI cC G ca2 u.1 u.2.1 u.2.2.1 u.2.2.2.1 u.2.2.2.2) t.heap ∧ va_K (dC, dI) vwCl (t8 cI cC) t ∧ va_D (va_A (wC cI cC G ca nC ck J E L) sz) (wC cI cC G ca2 u.1 u.2.1 u.2.2.1 u.2.2.2.1 u.2.2.2.2)) (va_A (wC cI cC G ca nC ck J E L) sz)) 1 4 (va_A (wC cI cC G ca nC ck J E L) sz) := by
  refine Met.ofW (cc := cX8_chord) (maxL := 3) (ret := (some .int)) (by decide) rfl ?_
  intro p e s m args below meth c s₁ BL hml hv
  obtain ⟨rfl, hsz, hP, hK, hD0, hE⟩ := hv
  have hx := BL.exec
  have hb := BL.bytes
  have hr := BL.returns
  have hts := atoms_spec (ws := wsX8_chord) BL.pre
  have hown : s.vm.findClass RX8 = some m.cls := findClass_of_methodNamed BL.named
  have hlocks := BL.notSynchronized
  have hinX8 : ∀ w ∈ u_ws RX8 TX8 6, w ∈ wsX8_chord := by decide +kernel
  have hinX5 : ∀ w ∈ u_ws RX5 TX5 4, w ∈ wsX8_chord := by decide +kernel
  have hk10 := hts (.fieldLink RX8 10 "LeadSheets" "tape" "LLeadSheets$Tape;") (by decide +kernel)
  subst hsz
  have hD := hD0.self (sz := s.heap.size)
  generalize hAe : va_A (wC cI cC G ca nC ck J E L) s.heap.size = AA at hD hE ⊢
  have hA : ∀ q : Nat, s.heap.size ≤ q → AA q := fun q h => by rw [← hAe]; exact Or.inr h
  have hS : va_S AA s.heap s.heap [] := va_S.rf
  have hl := lv_entry ([.ref (G 0 100)]) (n := 3) (Nat.le_of_ble_eq_true rfl)
  rw [lg_entry_eq]
  generalize (lg_sl ([.ref (G 0 100)]) ++ List.replicate (3 - (lg_sl ([.ref (G 0 100)])).length) Slot.unset).toArray = ls at hl ⊢
  have hl : lv_has ls 3 [(0, .ref (G 0 100))] := hl
  unfold fX8_chord at hf
  obtain ⟨⟨oc, I1, A1⟩, hc1, hf⟩ := of_bind_some hf
  obtain ⟨⟨I2, A2⟩, hc2, hf⟩ := of_bind_some hf
  refine lv_aload_n hx hb dX8_chord_0 rfl (lv_at hl 0 rfl) ?_
  refine va_get (D := (dC, dI)) (ci := 5) (v := .ref (G 1 100)) (C := RX8) (T := TX8) (N := 6) hx hb hts hinX8 hown hK hP 0 rfl rfl 0 (by decide) hk10 (fun _ h9 => h9) rfl dX8_chord_1 ?_
  have hPs := Eq.mp (congrArg (fun w => va_P (dC, dI) vwCl w s.heap) (wC_s_tape cI cC G ca nC ck J E L)) hP
  have hDs := Eq.mp (congrArg (fun w => va_D AA w) (wC_s_tape cI cC G ca nC ck J E L)) hD
  have hF := va_freeMid hDs hS hA
  refine va_callq (va_runV (As := []) (rest := []) ⟨hx, hb, hml, hown, hts⟩ (mX5_read l en dC dI cI (G 1) (J 1) (E 1) s.heap.size _ hc1) (cwV 0 hts gX8_chord_X5_read rfl rfl rfl (by decide +kernel) ⟨Nat.le_of_ble_eq_true rfl, Nat.le_of_ble_eq_true rfl⟩) ⟨blindWE, va_recv hK hPs.mid (ci := 2) (q0 := 0) rfl rfl, fun U hU hW => ⟨rfl, by rw [hU], by rw [hU]; exact hPs.mid, va_K.moved hW.alike (hK.sub [0] rfl), hDs.mid.weaken (fun _ _ _ _ => trivial), cE_sub hE hS hW hU hF⟩⟩ rfl rfl hl.1 rfl (lv_room (Nat.le_of_ble_eq_true rfl)) dX8_chord_4 ⟨Nat.le_of_ble_eq_true rfl, Nat.le_of_ble_eq_true rfl⟩) hS (fun q _ h => hF q h) hF (fun r u t H locs ht hvm hw hB hz1 hk1 hS => ?_)
  obtain ⟨ur, uo, uI, uA⟩ := u
  obtain ⟨hw1, hw2, hw3⟩ := hw
  cases hw2
  obtain rfl : ur = r := hw1
  obtain ⟨hP1, hK9, hD1⟩ := hB
  rw [ht] at hP1
  obtain ⟨hP, hD⟩ := va_joinMid hPs hDs hk1 hF hP1 hD1
  have hP : va_P (dC, dI) vwCl (wC cI cC G ca nC ck (va_up J 1 I1) (va_up E 1 A1) L ++ nwc ur oc) H := hP.perm (wC_rd cI cC G ca nC ck J E L I1 A1 (nwc ur oc))
  have hD : va_D AA (wC cI cC G ca nC ck (va_up J 1 I1) (va_up E 1 A1) L ++ nwc ur oc) := hD.perm (wC_rd cI cC G ca nC ck J E L I1 A1 (nwc ur oc))
  clear hPs hDs hP1 hD1 hk1 hF
  rcases ur with _ | q
  · obtain rfl : oc = none := by
      cases oc with
      | none => rfl
      | some cv => cases hw3
    refine W.eq (g2 := F0 m 7 ls [.null]) rfl ?_
    refine lv_astore_nN (lv' := [(1, .null), (0, .ref (G 0 100))]) hx hb dX8_chord_7 rfl hl (by decide) rfl (fun ls hl => ?_)
    refine lv_aload_n hx hb dX8_chord_8 rfl (lv_at hl 1 rfl) ?_
    refine va_get (D := (dC, dI)) (ci := 5) (v := .ref (G 1 100)) (C := RX8) (T := TX8) (N := 6) hx hb hts hinX8 hown hK hP 0 rfl rfl 0 (by decide) hk10 (fun _ h9 => h9) rfl dX8_chord_9 ?_
    refine va_getN (D := (dC, dI)) (ci := 2) (v := .int (I1 2)) (C := RX5) (T := TX5) (N := 4) hx hb hts hinX5 hown hK hP 2 rfl rfl 2 (by decide) (va_Nw.use rfl (hE.2.2.2.2.2 (RX8, 51, RX5, "place", "I", RX8) (by decide +kernel))) (fun _ h9 => h9) rfl dX8_chord_12 ?_
    refine lv_istore_n (lv' := [(2, .int (I1 2)), (1, .null), (0, .ref (G 0 100))]) hx hb dX8_chord_15 rfl hl (by decide) rfl (fun ls hl => ?_)
    refine lv_aload_n hx hb dX8_chord_16 rfl (lv_at hl 2 rfl) ?_
    refine va_get (D := (dC, dI)) (ci := 5) (v := .ref (G 1 100)) (C := RX8) (T := TX8) (N := 6) hx hb hts hinX8 hown hK hP 0 rfl rfl 0 (by decide) hk10 (fun _ h9 => h9) rfl dX8_chord_17 ?_
    have hPs := Eq.mp (congrArg (fun w => va_P (dC, dI) vwCl w H) (wC_sN cI cC G ca nC ck (va_up J 1 I1) (va_up E 1 A1) L (nwc none none))) hP
    have hDs := Eq.mp (congrArg (fun w => va_D AA w) (wC_sN cI cC G ca nC ck (va_up J 1 I1) (va_up E 1 A1) L (nwc none none))) hD
    have hF := va_freeMid hDs hS hA
    refine va_callv (va_runV (As := []) (rest := []) ⟨hx, hb, hml, hown, hts⟩ (mX5_clear l dC dI cI (G 1) I1 A1 H.size _ hc2) (cwV 0 hts gX8_chord_X5_clear rfl rfl rfl (by decide +kernel) ⟨Nat.le_of_ble_eq_true rfl, Nat.le_of_ble_eq_true rfl⟩) ⟨blindW, va_recv hK hPs.mid (ci := 2) (q0 := 0) rfl rfl, fun U hU hW => ⟨rfl, by rw [hU], by rw [hU]; exact hPs.mid, va_K.moved hW.alike (hK.sub [0] rfl), hDs.mid.weaken (fun _ _ _ _ => trivial)⟩⟩ rfl rfl hl.1 rfl (lv_room (Nat.le_of_ble_eq_true rfl)) dX8_chord_20 ⟨Nat.le_of_ble_eq_true rfl, Nat.le_of_ble_eq_true rfl⟩) hS (fun q _ h => hF q h) hF (fun u t H locs ht hvm hw hB hz1 hk1 hS => ?_)
    cases hw
    obtain ⟨hP1, hK9, hD1⟩ := hB
    rw [ht] at hP1
    obtain ⟨hP, hD⟩ := va_joinMid hPs hDs hk1 hF hP1 hD1
    have hP : va_P (dC, dI) vwCl (wC cI cC G ca nC ck (va_up J 1 I2) (va_up E 1 A2) L ++ nwc none none) H := Eq.mp (congrArg (fun w => va_P (dC, dI) vwCl w H) (wC_jN cI cC G ca nC ck J E L I1 I2 A1 A2 (nwc none none))) hP
    have hD : va_D AA (wC cI cC G ca nC ck (va_up J 1 I2) (va_up E 1 A2) L ++ nwc none none) := Eq.mp (congrArg (fun w => va_D AA w) (wC_jN cI cC G ca nC ck J E L I1 I2 A1 A2 (nwc none none))) hD
    refine lv_aload_nN hx hb dX8_chord_23 rfl (lv_at hl 1 rfl) ?_
    refine lv_ifnonnullN hx hb dX8_chord_24 ?_
    refine lv_bipush (v := (-10 : Int32)) hx hb dX8_chord_27 (by decide) ?_
    refine lv_iload_n hx hb dX8_chord_29 rfl (lv_at hl 0 rfl) ?_
    refine lv_isub hx hb dX8_chord_30 ?_
    have hP := hP.left
    have hD := hD.left
    refine W.widen (k := 1) (n := 4) (Nat.le_of_ble_eq_true rfl) (Nat.le_of_ble_eq_true rfl) ?_
    exact W.iret (v := (-10 : Int32) - I1 2) hx hb hr (fun t ht hW => ⟨⟨(-10 : Int32) - I1 2, (nC, ck, va_up J 1 I2, va_up E 1 A2, L), rfl, Option.some.inj hf, ca, by rw [ht]; exact hP, va_K.moved hW.alike hK, hD⟩, hS.F ht⟩) hS.2.2 dX8_chord_31
  · obtain ⟨cv, rfl⟩ : ∃ cv, oc = some cv := by
      cases oc with
      | none => cases hw3
      | some cv => exact ⟨cv, rfl⟩
    refine W.eq (g2 := F0 m 7 ls [.ref q]) rfl ?_
    refine lv_astore_n (lv' := [(1, .ref q), (0, .ref (G 0 100))]) hx hb dX8_chord_7 rfl hl (by decide) rfl (fun ls hl => ?_)
    refine lv_aload_n hx hb dX8_chord_8 rfl (lv_at hl 1 rfl) ?_
    refine va_get (D := (dC, dI)) (ci := 5) (v := .ref (G 1 100)) (C := RX8) (T := TX8) (N := 6) hx hb hts hinX8 hown hK hP 0 rfl rfl 0 (by decide) hk10 (fun _ h9 => h9) rfl dX8_chord_9 ?_
    refine va_getN (D := (dC, dI)) (ci := 2) (v := .int (I1 2)) (C := RX5) (T := TX5) (N := 4) hx hb hts hinX5 hown hK hP 2 rfl rfl 2 (by decide) (va_Nw.use rfl (hE.2.2.2.2.2 (RX8, 51, RX5, "place", "I", RX8) (by decide +kernel))) (fun _ h9 => h9) rfl dX8_chord_12 ?_
    refine lv_istore_n (lv' := [(2, .int (I1 2)), (1, .ref q), (0, .ref (G 0 100))]) hx hb dX8_chord_15 rfl hl (by decide) rfl (fun ls hl => ?_)
    refine lv_aload_n hx hb dX8_chord_16 rfl (lv_at hl 2 rfl) ?_
    refine va_get (D := (dC, dI)) (ci := 5) (v := .ref (G 1 100)) (C := RX8) (T := TX8) (N := 6) hx hb hts hinX8 hown hK hP 0 rfl rfl 0 (by decide) hk10 (fun _ h9 => h9) rfl dX8_chord_17 ?_
    have hPs := Eq.mp (congrArg (fun w => va_P (dC, dI) vwCl w H) (wC_sN cI cC G ca nC ck (va_up J 1 I1) (va_up E 1 A1) L (nwc (some q) (some cv)))) hP
    have hDs := Eq.mp (congrArg (fun w => va_D AA w) (wC_sN cI cC G ca nC ck (va_up J 1 I1) (va_up E 1 A1) L (nwc (some q) (some cv)))) hD
    have hF := va_freeMid hDs hS hA
    refine va_callv (va_runV (As := []) (rest := []) ⟨hx, hb, hml, hown, hts⟩ (mX5_clear l dC dI cI (G 1) I1 A1 H.size _ hc2) (cwV 0 hts gX8_chord_X5_clear rfl rfl rfl (by decide +kernel) ⟨Nat.le_of_ble_eq_true rfl, Nat.le_of_ble_eq_true rfl⟩) ⟨blindW, va_recv hK hPs.mid (ci := 2) (q0 := 0) rfl rfl, fun U hU hW => ⟨rfl, by rw [hU], by rw [hU]; exact hPs.mid, va_K.moved hW.alike (hK.sub [0] rfl), hDs.mid.weaken (fun _ _ _ _ => trivial)⟩⟩ rfl rfl hl.1 rfl (lv_room (Nat.le_of_ble_eq_true rfl)) dX8_chord_20 ⟨Nat.le_of_ble_eq_true rfl, Nat.le_of_ble_eq_true rfl⟩) hS (fun q _ h => hF q h) hF (fun u t H locs ht hvm hw hB hz1 hk1 hS => ?_)
    cases hw
    obtain ⟨hP1, hK9, hD1⟩ := hB
    rw [ht] at hP1
    obtain ⟨hP, hD⟩ := va_joinMid hPs hDs hk1 hF hP1 hD1
    have hP : va_P (dC, dI) vwCl (wC cI cC G ca nC ck (va_up J 1 I2) (va_up E 1 A2) L ++ nwc (some q) (some cv)) H := Eq.mp (congrArg (fun w => va_P (dC, dI) vwCl w H) (wC_jN cI cC G ca nC ck J E L I1 I2 A1 A2 (nwc (some q) (some cv)))) hP
    have hD : va_D AA (wC cI cC G ca nC ck (va_up J 1 I2) (va_up E 1 A2) L ++ nwc (some q) (some cv)) := Eq.mp (congrArg (fun w => va_D AA w) (wC_jN cI cC G ca nC ck J E L I1 I2 A1 A2 (nwc (some q) (some cv)))) hD
    refine lv_aload_n hx hb dX8_chord_23 rfl (lv_at hl 1 rfl) ?_
    refine lv_ifnonnull (tgt := 32) hx hb dX8_chord_24 (by decide) ?_
    refine lv_aload_n hx hb dX8_chord_32 rfl (lv_at hl 2 rfl) ?_
    refine lv_aload_n hx hb dX8_chord_33 rfl (lv_at hl 1 rfl) ?_
    obtain ⟨⟨r9, n2, ck2, J2⟩, hc3, hf⟩ := of_bind_some hf
    have hF9 := va_freeAll hD hS hA
    refine va_calli (va_runV (As := [.ref q]) (rest := []) ⟨hx, hb, hml, hown, hts⟩ (mX8_keep l dC dI cI cC G ca nC ck (va_up J 1 I2) (va_up E 1 A2) L q cv H.size _ hc3) (cwV 1 hts gX8_chord_X8_keep rfl rfl rfl (by decide +kernel) ⟨Nat.le_of_ble_eq_true rfl, Nat.le_of_ble_eq_true rfl⟩) ⟨blindW, va_recv hK hP (ci := 5) (q0 := 0) rfl rfl, fun U hU hW => ⟨rfl, by rw [hU], by rw [hU]; exact hP, va_K.moved hW.alike hK, hD.weaken (fun _ _ _ _ => trivial)⟩⟩ rfl rfl hl.1 rfl (lv_room (Nat.le_of_ble_eq_true rfl)) dX8_chord_34 ⟨Nat.le_of_ble_eq_true rfl, Nat.le_of_ble_eq_true rfl⟩) hS (fun q _ h => hF9 q h) hF9 (fun r0 u t H locs ht hvm hw hB hz1 hk1 hS => ?_)
    cases hw
    obtain ⟨ca2, hP, hK9, hD⟩ := hB
    rw [ht] at hP
    have hD := hD.weaken (fun _ _ _ h => hF9 _ h)
    refine W.widen (k := 1) (n := 4) (Nat.le_of_ble_eq_true rfl) (Nat.le_of_ble_eq_true rfl) ?_
    exact W.iret (v := r9) hx hb hr (fun t ht hW => ⟨⟨r9, (n2, ck2, J2, va_up E 1 A2, L), rfl, Option.some.inj hf, ca2, by rw [ht]; exact hP, va_K.moved hW.alike hK, hD⟩, hS.F ht⟩) hS.2.2 dX8_chord_37
