def fX8_feed (nC : Nat) (ck : Nat → Nat → Int32) (J : Nat → Nat → Int32) (E : Nat → Nat → Nat → Int32) (L : Nat → Int64) (x1 : Int32) (x2 : Int64) : Option (Int32 × (Nat → Nat → Int32) × (Nat → Nat → Nat → Int32) × (Nat → Int64)) :=
  ((fX5_add (J 1) (E 1) x1 x2).bind fun (r4, I2, A3) => (some (r4, ((va_up J 1 I2), (va_up E 1 A3), L))))
set_option maxRecDepth 100000 in
set_option maxHeartbeats 4000000 in
theorem mX8_feed (l : Launch) (en : Nat → Nat) (dC : Nat → ClassId) (dI : Nat → Nat → Nat) (cI cC : ClassId) (G : Nat → Nat → Nat) (ca : Nat → Nat) (nC : Nat) (ck : Nat → Nat → Int32) (J : Nat → Nat → Int32) (E : Nat → Nat → Nat → Int32) (L : Nat → Int64) (x1 : Int32) (x2 : Int64) (sz : Nat) (z : Int32 × (Nat → Nat → Int32) × (Nat → Nat → Nat → Int32) × (Nat → Int64)) (hf : fX8_feed nC ck J E L x1 x2 = some z) : Met l yX8_feed wsX8_feed ({ frames := 1, cells := 0, slots := 0, locals := 24 }) (va_Pc [.ref (G 0 100), .int x1, .long x2] (fun U => U.heap.size = sz ∧ va_P (dC, dI) vwCl (wC cI cC G ca nC ck J E L) U.heap ∧ va_K (dC, dI) vwCl (t8 cI cC) U ∧ va_D (fun _ => True) (wC cI cC G ca nC ck J E L) ∧ cE en (va_A (wC cI cC G ca nC ck J E L) sz) U U.heap)) (va_Qi (fun (r : Int32) (u : (Nat → Nat → Int32) × (Nat → Nat → Nat → Int32) × (Nat → Int64)) => (r, u) = z) (at8 dC dI cI cC G ca nC ck (va_A (wC cI cC G ca nC ck J E L) sz)) (va_A (wC cI cC G ca nC ck J E L) sz)) 0 0 (va_A (wC cI cC G ca nC ck J E L) sz) := by
  refine Met.ofW (cc := cX8_feed) (maxL := 4) (ret := (some .int)) (by decide) rfl ?_
  intro p e s m args below meth c s₁ BL hml hv
  obtain ⟨rfl, hsz, hP, hK, hD0, hE⟩ := hv
  have hx := BL.exec
  have hb := BL.bytes
  have hr := BL.returns
  have hts := atoms_spec (ws := wsX8_feed) BL.pre
  have hown : s.vm.findClass RX8 = some m.cls := findClass_of_methodNamed BL.named
  have hlocks := BL.notSynchronized
  have hinX8 : ∀ w ∈ u_ws RX8 TX8 6, w ∈ wsX8_feed := by decide +kernel
  have hk10 := hts (.fieldLink RX8 10 "LeadSheets" "tape" "LLeadSheets$Tape;") (by decide +kernel)
  subst hsz
  have hD := hD0.self (sz := s.heap.size)
  generalize hAe : va_A (wC cI cC G ca nC ck J E L) s.heap.size = AA at hD hE ⊢
  have hA : ∀ q : Nat, s.heap.size ≤ q → AA q := fun q h => by rw [← hAe]; exact Or.inr h
  have hS : va_S AA s.heap s.heap [] := va_S.rf
  have hl := lv_entry ([.ref (G 0 100), .int x1, .long x2]) (n := 4) (Nat.le_of_ble_eq_true rfl)
  rw [lg_entry_eq]
  generalize (lg_sl ([.ref (G 0 100), .int x1, .long x2]) ++ List.replicate (4 - (lg_sl ([.ref (G 0 100), .int x1, .long x2])).length) Slot.unset).toArray = ls at hl ⊢
  have hl : lv_has ls 4 [(0, .ref (G 0 100)), (1, .int x1), (2, .long x2)] := hl
  unfold fX8_feed at hf
  refine lv_aload_n hx hb dX8_feed_0 rfl (lv_at hl 0 rfl) ?_
  refine va_get (D := (dC, dI)) (ci := 5) (v := .ref (G 1 100)) (C := RX8) (T := TX8) (N := 6) hx hb hts hinX8 hown hK hP 0 rfl rfl 0 (by decide) hk10 (fun _ h9 => h9) rfl dX8_feed_1 ?_
  refine lv_iload_n hx hb dX8_feed_4 rfl (lv_at hl 1 rfl) ?_
  refine lv_lload_n hx hb dX8_feed_5 rfl (lv_at hl 2 rfl) ?_
  obtain ⟨⟨r4, I2, A3⟩, hc1, hf⟩ := of_bind_some hf
  have hPs := Eq.mp (congrArg (fun w => va_P (dC, dI) vwCl w s.heap) (wC_s_tape cI cC G ca nC ck J E L)) hP
  have hDs := Eq.mp (congrArg (fun w => va_D AA w) (wC_s_tape cI cC G ca nC ck J E L)) hD
  have hF5 := va_freeMid hDs hS hA
  refine va_calli (va_runV (As := [.int x1, .long x2]) (rest := []) ⟨hx, hb, hml, hown, hts⟩ (mX5_add l dC dI cI (G 1) (J 1) (E 1) x1 x2 s.heap.size _ hc1) (cwV 2 hts gX8_feed_X5_add rfl rfl rfl (by decide +kernel) ⟨Nat.le_of_ble_eq_true rfl, Nat.le_of_ble_eq_true rfl⟩) ⟨blindW, va_recv hK hPs.mid (ci := 2) (q0 := 0) rfl rfl, fun U hU hW => ⟨rfl, by rw [hU], by rw [hU]; exact hPs.mid, va_K.moved hW.alike (hK.sub [0] rfl), hDs.mid.weaken (fun _ _ _ _ => trivial)⟩⟩ rfl rfl hl.1 rfl (lv_room (Nat.le_of_ble_eq_true rfl)) dX8_feed_6 ⟨Nat.zero_le _, Nat.zero_le _⟩) hS (fun q _ h => hF5 q h) hF5 (fun r0 u t H locs ht hvm hw hB hz1 hk1 hS => ?_)
  cases hw
  obtain ⟨hP1, hK9, hD1⟩ := hB
  rw [ht] at hP1
  obtain ⟨hP, hD⟩ := va_joinMid hPs hDs hk1 hF5 hP1 hD1
  have hP : va_P (dC, dI) vwCl (wC cI cC G ca nC ck (va_up J 1 I2) (va_up E 1 A3) L) H := Eq.mp (congrArg (fun w => va_P (dC, dI) vwCl w H) (wC_j_tape cI cC G ca nC ck J E L I2 A3)) hP
  have hD : va_D AA (wC cI cC G ca nC ck (va_up J 1 I2) (va_up E 1 A3) L) := Eq.mp (congrArg (fun w => va_D AA w) (wC_j_tape cI cC G ca nC ck J E L I2 A3)) hD
  exact W.iret (v := r4) hx hb hr (fun t ht hW => ⟨⟨r4, ((va_up J 1 I2), (va_up E 1 A3), L), rfl, Option.some.inj hf, by rw [ht]; exact hP, va_K.moved hW.alike hK, hD⟩, hS.F ht⟩) hS.2.2 dX8_feed_9
def fX8_show (nC : Nat) (ck : Nat → Nat → Int32) (J : Nat → Nat → Int32) (E : Nat → Nat → Nat → Int32) (L : Nat → Int64) (x1 : Int32) (x2 : Int32) (x3 : Int32) : Option (Int32 × (Nat → Nat → Int32) × (Nat → Nat → Nat → Int32) × (Nat → Int64)) :=
  ((fX6_clear (J 4) (E 4)).bind fun (I2, A3) => ((fX6_addNote I2 A3 x1).bind fun (I6, A7) => ((fX6_addWord I6 A7 0 x2 (0 : Int32)).bind fun (I10, A11) => ((fX3_pitch x3).bind fun r13 => ((fX3_pitch x1).bind fun r15 => (if r13 = r15 then (some ((I10 1), ((va_up J 4 I10), (va_up E 4 A11), L))) else ((fX6_add I10 A11 (47 : Int32)).bind fun (I19, A20) => ((fX6_addNote I19 A20 x3).bind fun (I23, A24) => (some ((I23 1), ((va_up J 4 I23), (va_up E 4 A24), L)))))))))))
set_option maxRecDepth 100000 in
set_option maxHeartbeats 4000000 in
theorem mX8_show (l : Launch) (en : Nat → Nat) (dC : Nat → ClassId) (dI : Nat → Nat → Nat) (cI cC : ClassId) (G : Nat → Nat → Nat) (ca : Nat → Nat) (nC : Nat) (ck : Nat → Nat → Int32) (J : Nat → Nat → Int32) (E : Nat → Nat → Nat → Int32) (L : Nat → Int64) (x1 : Int32) (x2 : Int32) (x3 : Int32) (sz : Nat) (z : Int32 × (Nat → Nat → Int32) × (Nat → Nat → Nat → Int32) × (Nat → Int64)) (hf : fX8_show nC ck J E L x1 x2 x3 = some z) : Met l yX8_show wsX8_show ({ frames := 6, cells := 0, slots := 0, locals := 132 }) (va_Pc [.ref (G 0 100), .int x1, .int x2, .int x3] (fun U => U.heap.size = sz ∧ va_P (dC, dI) vwCl (wC cI cC G ca nC ck J E L) U.heap ∧ va_K (dC, dI) vwCl (t8 cI cC) U ∧ va_D (fun _ => True) (wC cI cC G ca nC ck J E L) ∧ cE en (va_A (wC cI cC G ca nC ck J E L) sz) U U.heap)) (va_Qi (fun (r : Int32) (u : (Nat → Nat → Int32) × (Nat → Nat → Nat → Int32) × (Nat → Int64)) => (r, u) = z) (at8 dC dI cI cC G ca nC ck (va_A (wC cI cC G ca nC ck J E L) sz)) (va_A (wC cI cC G ca nC ck J E L) sz)) 0 0 (va_A (wC cI cC G ca nC ck J E L) sz) := by
  refine Met.ofW (cc := cX8_show) (maxL := 4) (ret := (some .int)) (by decide) rfl ?_
  intro p e s m args below meth c s₁ BL hml hv
  obtain ⟨rfl, hsz, hP, hK, hD0, hE⟩ := hv
  have hx := BL.exec
  have hb := BL.bytes
  have hr := BL.returns
  have hts := atoms_spec (ws := wsX8_show) BL.pre
  have hown : s.vm.findClass RX8 = some m.cls := findClass_of_methodNamed BL.named
  have hlocks := BL.notSynchronized
  have hinX6 : ∀ w ∈ u_ws RX6 TX6 2, w ∈ wsX8_show := by decide +kernel
  have hinX8 : ∀ w ∈ u_ws RX8 TX8 6, w ∈ wsX8_show := by decide +kernel
  have hk39 := hts (.fieldLink RX8 39 "LeadSheets" "text" "LLeadSheets$Text;") (by decide +kernel)
  subst hsz
  have hD := hD0.self (sz := s.heap.size)
  generalize hAe : va_A (wC cI cC G ca nC ck J E L) s.heap.size = AA at hD hE ⊢
  have hA : ∀ q : Nat, s.heap.size ≤ q → AA q := fun q h => by rw [← hAe]; exact Or.inr h
  have hS : va_S AA s.heap s.heap [] := va_S.rf
  have hl := lv_entry ([.ref (G 0 100), .int x1, .int x2, .int x3]) (n := 4) (Nat.le_of_ble_eq_true rfl)
  rw [lg_entry_eq]
  generalize (lg_sl ([.ref (G 0 100), .int x1, .int x2, .int x3]) ++ List.replicate (4 - (lg_sl ([.ref (G 0 100), .int x1, .int x2, .int x3])).length) Slot.unset).toArray = ls at hl ⊢
  have hl : lv_has ls 4 [(0, .ref (G 0 100)), (1, .int x1), (2, .int x2), (3, .int x3)] := hl
  unfold fX8_show at hf
  refine lv_aload_n hx hb dX8_show_0 rfl (lv_at hl 0 rfl) ?_
  refine va_get (D := (dC, dI)) (ci := 5) (v := .ref (G 4 100)) (C := RX8) (T := TX8) (N := 6) hx hb hts hinX8 hown hK hP 0 rfl rfl 4 (by decide) hk39 (fun _ h9 => h9) rfl dX8_show_1 ?_
  obtain ⟨⟨I2, A3⟩, hc1, hf⟩ := of_bind_some hf
  have hPs := Eq.mp (congrArg (fun w => va_P (dC, dI) vwCl w s.heap) (wC_s_text cI cC G ca nC ck J E L)) hP
  have hDs := Eq.mp (congrArg (fun w => va_D AA w) (wC_s_text cI cC G ca nC ck J E L)) hD
  have hF4 := va_freeMid hDs hS hA
  refine va_callv (va_runV (As := []) (rest := []) ⟨hx, hb, hml, hown, hts⟩ (mX6_clear l dC dI cI (G 4) (J 4) (E 4) s.heap.size _ hc1) (cwV 0 hts gX8_show_X6_clear rfl rfl rfl (by decide +kernel) ⟨Nat.le_of_ble_eq_true rfl, Nat.le_of_ble_eq_true rfl⟩) ⟨blindW, va_recv hK hPs.mid (ci := 3) (q0 := 0) rfl rfl, fun U hU hW => ⟨rfl, by rw [hU], by rw [hU]; exact hPs.mid, va_K.moved hW.alike (hK.sub [0] rfl), hDs.mid.weaken (fun _ _ _ _ => trivial)⟩⟩ rfl rfl hl.1 rfl (lv_room (Nat.le_of_ble_eq_true rfl)) dX8_show_4 ⟨Nat.zero_le _, Nat.zero_le _⟩) hS (fun q _ h => hF4 q h) hF4 (fun u t H locs ht hvm hw hB hz1 hk1 hS => ?_)
  cases hw
  obtain ⟨hP1, hK9, hD1⟩ := hB
  rw [ht] at hP1
  obtain ⟨hP, hD⟩ := va_joinMid hPs hDs hk1 hF4 hP1 hD1
  have hP : va_P (dC, dI) vwCl (wC cI cC G ca nC ck (va_up J 4 I2) (va_up E 4 A3) L) H := Eq.mp (congrArg (fun w => va_P (dC, dI) vwCl w H) (wC_j_text cI cC G ca nC ck J E L I2 A3)) hP
  have hD : va_D AA (wC cI cC G ca nC ck (va_up J 4 I2) (va_up E 4 A3) L) := Eq.mp (congrArg (fun w => va_D AA w) (wC_j_text cI cC G ca nC ck J E L I2 A3)) hD
  refine lv_aload_n hx hb dX8_show_7 rfl (lv_at hl 0 rfl) ?_
  refine va_get (D := (dC, dI)) (ci := 5) (v := .ref (G 4 100)) (C := RX8) (T := TX8) (N := 6) hx hb hts hinX8 hown hK hP 0 rfl rfl 4 (by decide) hk39 (fun _ h9 => h9) rfl dX8_show_8 ?_
  refine lv_iload_n hx hb dX8_show_11 rfl (lv_at hl 1 rfl) ?_
  obtain ⟨⟨I6, A7⟩, hc5, hf⟩ := of_bind_some hf
  have hPs := Eq.mp (congrArg (fun w => va_P (dC, dI) vwCl w H) (wC_s_text cI cC G ca nC ck (va_up J 4 I2) (va_up E 4 A3) L)) hP
  have hDs := Eq.mp (congrArg (fun w => va_D AA w) (wC_s_text cI cC G ca nC ck (va_up J 4 I2) (va_up E 4 A3) L)) hD
  have hF8 := va_freeMid hDs hS hA
  refine va_callv (va_runV (As := [.int x1]) (rest := []) ⟨hx, hb, hml, hown, hts⟩ (mX6_addNote l en dC dI cI (G 4) I2 A3 x1 H.size _ hc5) (cwV 1 hts gX8_show_X6_addNote rfl rfl rfl (by decide +kernel) ⟨Nat.le_of_ble_eq_true rfl, Nat.le_of_ble_eq_true rfl⟩) ⟨blindWE, va_recv hK hPs.mid (ci := 3) (q0 := 0) rfl rfl, fun U hU hW => ⟨rfl, by rw [hU], by rw [hU]; exact hPs.mid, va_K.moved hW.alike (hK.sub [0] rfl), hDs.mid.weaken (fun _ _ _ _ => trivial), cE_sub hE hS hW hU hF8⟩⟩ rfl rfl hl.1 rfl (lv_room (Nat.le_of_ble_eq_true rfl)) dX8_show_12 ⟨Nat.zero_le _, Nat.zero_le _⟩) hS (fun q _ h => hF8 q h) hF8 (fun u t H locs ht hvm hw hB hz1 hk1 hS => ?_)
  cases hw
  obtain ⟨hP1, hK9, hD1⟩ := hB
  rw [ht] at hP1
  obtain ⟨hP, hD⟩ := va_joinMid hPs hDs hk1 hF8 hP1 hD1
  have hP : va_P (dC, dI) vwCl (wC cI cC G ca nC ck (va_up (va_up J 4 I2) 4 I6) (va_up (va_up E 4 A3) 4 A7) L) H := Eq.mp (congrArg (fun w => va_P (dC, dI) vwCl w H) (wC_j_text cI cC G ca nC ck (va_up J 4 I2) (va_up E 4 A3) L I6 A7)) hP
  have hD : va_D AA (wC cI cC G ca nC ck (va_up (va_up J 4 I2) 4 I6) (va_up (va_up E 4 A3) 4 A7) L) := Eq.mp (congrArg (fun w => va_D AA w) (wC_j_text cI cC G ca nC ck (va_up J 4 I2) (va_up E 4 A3) L I6 A7)) hD
  have hP : va_P (dC, dI) vwCl (wC cI cC G ca nC ck (va_up J 4 I6) (va_up (va_up E 4 A3) 4 A7) L) H := Eq.mp (congrArg (fun j9 => va_P (dC, dI) vwCl (wC cI cC G ca nC ck j9 (va_up (va_up E 4 A3) 4 A7) L) H) (vupc J 4 I2 I6)) hP
  have hD : va_D AA (wC cI cC G ca nC ck (va_up J 4 I6) (va_up (va_up E 4 A3) 4 A7) L) := Eq.mp (congrArg (fun j9 => va_D AA (wC cI cC G ca nC ck j9 (va_up (va_up E 4 A3) 4 A7) L)) (vupc J 4 I2 I6)) hD
  have hP : va_P (dC, dI) vwCl (wC cI cC G ca nC ck (va_up J 4 I6) (va_up E 4 A7) L) H := Eq.mp (congrArg (fun j9 => va_P (dC, dI) vwCl (wC cI cC G ca nC ck (va_up J 4 I6) j9 L) H) (vupc E 4 A3 A7)) hP
  have hD : va_D AA (wC cI cC G ca nC ck (va_up J 4 I6) (va_up E 4 A7) L) := Eq.mp (congrArg (fun j9 => va_D AA (wC cI cC G ca nC ck (va_up J 4 I6) j9 L)) (vupc E 4 A3 A7)) hD
  refine lv_aload_n hx hb dX8_show_15 rfl (lv_at hl 0 rfl) ?_
  refine va_get (D := (dC, dI)) (ci := 5) (v := .ref (G 4 100)) (C := RX8) (T := TX8) (N := 6) hx hb hts hinX8 hown hK hP 0 rfl rfl 4 (by decide) hk39 (fun _ h9 => h9) rfl dX8_show_16 ?_
  refine va_ldcS hx hb hown (hE.2.1 0 (by decide)).2 dX8_show_19 ?_
  refine lv_iload_n hx hb dX8_show_21 rfl (lv_at hl 2 rfl) ?_
  refine lv_iconst (v := (0 : Int32)) hx hb dX8_show_22 (by decide) ?_
  obtain ⟨⟨I10, A11⟩, hc9, hf⟩ := of_bind_some hf
  have hPs := Eq.mp (congrArg (fun w => va_P (dC, dI) vwCl w H) (wC_s_text cI cC G ca nC ck (va_up J 4 I6) (va_up E 4 A7) L)) hP
  have hDs := Eq.mp (congrArg (fun w => va_D AA w) (wC_s_text cI cC G ca nC ck (va_up J 4 I6) (va_up E 4 A7) L)) hD
  have hF12 := va_freeMid hDs hS hA
  refine va_callv (va_runV (As := [.ref (en (100 + 0)), .int x2, .int (0 : Int32)]) (rest := []) ⟨hx, hb, hml, hown, hts⟩ (mX6_addWord l en dC dI cI (G 4) I6 A7 0 (by decide) x2 (0 : Int32) H.size _ hc9) (cwV 3 hts gX8_show_X6_addWord rfl rfl rfl (by decide +kernel) ⟨Nat.le_of_ble_eq_true rfl, Nat.le_of_ble_eq_true rfl⟩) ⟨blindWE, va_recv hK hPs.mid (ci := 3) (q0 := 0) rfl rfl, fun U hU hW => ⟨rfl, by rw [hU], by rw [hU]; exact hPs.mid, va_K.moved hW.alike (hK.sub [0] rfl), hDs.mid.weaken (fun _ _ _ _ => trivial), cE_sub hE hS hW hU hF12⟩⟩ rfl rfl hl.1 rfl (lv_room (Nat.le_of_ble_eq_true rfl)) dX8_show_23 ⟨Nat.zero_le _, Nat.zero_le _⟩) hS (fun q _ h => hF12 q h) hF12 (fun u t H locs ht hvm hw hB hz1 hk1 hS => ?_)
  cases hw
  obtain ⟨hP1, hK9, hD1⟩ := hB
  rw [ht] at hP1
  obtain ⟨hP, hD⟩ := va_joinMid hPs hDs hk1 hF12 hP1 hD1
  have hP : va_P (dC, dI) vwCl (wC cI cC G ca nC ck (va_up (va_up J 4 I6) 4 I10) (va_up (va_up E 4 A7) 4 A11) L) H := Eq.mp (congrArg (fun w => va_P (dC, dI) vwCl w H) (wC_j_text cI cC G ca nC ck (va_up J 4 I6) (va_up E 4 A7) L I10 A11)) hP
  have hD : va_D AA (wC cI cC G ca nC ck (va_up (va_up J 4 I6) 4 I10) (va_up (va_up E 4 A7) 4 A11) L) := Eq.mp (congrArg (fun w => va_D AA w) (wC_j_text cI cC G ca nC ck (va_up J 4 I6) (va_up E 4 A7) L I10 A11)) hD
  have hP : va_P (dC, dI) vwCl (wC cI cC G ca nC ck (va_up J 4 I10) (va_up (va_up E 4 A7) 4 A11) L) H := Eq.mp (congrArg (fun j9 => va_P (dC, dI) vwCl (wC cI cC G ca nC ck j9 (va_up (va_up E 4 A7) 4 A11) L) H) (vupc J 4 I6 I10)) hP
  have hD : va_D AA (wC cI cC G ca nC ck (va_up J 4 I10) (va_up (va_up E 4 A7) 4 A11) L) := Eq.mp (congrArg (fun j9 => va_D AA (wC cI cC G ca nC ck j9 (va_up (va_up E 4 A7) 4 A11) L)) (vupc J 4 I6 I10)) hD
  have hP : va_P (dC, dI) vwCl (wC cI cC G ca nC ck (va_up J 4 I10) (va_up E 4 A11) L) H := Eq.mp (congrArg (fun j9 => va_P (dC, dI) vwCl (wC cI cC G ca nC ck (va_up J 4 I10) j9 L) H) (vupc E 4 A7 A11)) hP
  have hD : va_D AA (wC cI cC G ca nC ck (va_up J 4 I10) (va_up E 4 A11) L) := Eq.mp (congrArg (fun j9 => va_D AA (wC cI cC G ca nC ck (va_up J 4 I10) j9 L)) (vupc E 4 A7 A11)) hD
  refine lv_iload_n hx hb dX8_show_26 rfl (lv_at hl 3 rfl) ?_
  obtain ⟨r13, hc14, hf⟩ := of_bind_some hf
  refine W.callR (r := r13) (W.runS (As := [.int x3]) (rest := []) ⟨hx, hb, hml, hown, hts⟩ (mX3_pitch l en x3 r13 hc14) (va_cwS 1 hts gX8_show_X3_pitch rfl rfl rfl (by decide +kernel) ⟨Nat.le_of_ble_eq_true rfl, Nat.le_of_ble_eq_true rfl⟩) ⟨blindS, fun U hU hW => ⟨rfl, cE_read hE hS hW hU⟩⟩ rfl rfl hl.1 rfl (lv_room (Nat.le_of_ble_eq_true rfl)) dX8_show_27 ⟨Nat.zero_le _, Nat.zero_le _⟩) ?_
  refine W.eq (g2 := F0 m 30 ls [.int r13]) rfl ?_
  refine lv_iload_n hx hb dX8_show_30 rfl (lv_at hl 1 rfl) ?_
  obtain ⟨r15, hc16, hf⟩ := of_bind_some hf
  refine W.callR (r := r15) (W.runS (As := [.int x1]) (rest := [.int r13]) ⟨hx, hb, hml, hown, hts⟩ (mX3_pitch l en x1 r15 hc16) (va_cwS 1 hts gX8_show_X3_pitch rfl rfl rfl (by decide +kernel) ⟨Nat.le_of_ble_eq_true rfl, Nat.le_of_ble_eq_true rfl⟩) ⟨blindS, fun U hU hW => ⟨rfl, cE_read hE hS hW hU⟩⟩ rfl rfl hl.1 rfl (lv_room (Nat.le_of_ble_eq_true rfl)) dX8_show_31 ⟨Nat.zero_le _, Nat.zero_le _⟩) ?_
  refine W.eq (g2 := F0 m 34 ls [.int r15, .int r13]) rfl ?_
  refine lv_icmp_eq (tgt := 54) hx hb dX8_show_34 (by decide) (fun c17 => ?_) (fun c17 => ?_)
  · have hf := (if_pos c17).symm.trans hf
    refine lv_aload_n hx hb dX8_show_54 rfl (lv_at hl 0 rfl) ?_
    refine va_get (D := (dC, dI)) (ci := 5) (v := .ref (G 4 100)) (C := RX8) (T := TX8) (N := 6) hx hb hts hinX8 hown hK hP 0 rfl rfl 4 (by decide) hk39 (fun _ h9 => h9) rfl dX8_show_55 ?_
    refine va_getN (D := (dC, dI)) (ci := 3) (v := .int (I10 1)) (C := RX6) (T := TX6) (N := 2) hx hb hts hinX6 hown hK hP 11 rfl rfl 1 (by decide) (va_Nw.use rfl (hE.2.2.2.2.2 (RX8, 187, RX6, "size", "I", RX8) (by decide +kernel))) (fun _ h9 => h9) rfl dX8_show_58 ?_
    exact W.iret (v := (I10 1)) hx hb hr (fun t ht hW => ⟨⟨(I10 1), ((va_up J 4 I10), (va_up E 4 A11), L), rfl, Option.some.inj hf, by rw [ht]; exact hP, va_K.moved hW.alike hK, hD⟩, hS.F ht⟩) hS.2.2 dX8_show_61
  · have hf := (if_neg c17).symm.trans hf
    refine lv_aload_n hx hb dX8_show_37 rfl (lv_at hl 0 rfl) ?_
    refine va_get (D := (dC, dI)) (ci := 5) (v := .ref (G 4 100)) (C := RX8) (T := TX8) (N := 6) hx hb hts hinX8 hown hK hP 0 rfl rfl 4 (by decide) hk39 (fun _ h9 => h9) rfl dX8_show_38 ?_
    refine lv_bipush (v := (47 : Int32)) hx hb dX8_show_41 (by decide) ?_
    obtain ⟨⟨I19, A20⟩, hc18, hf⟩ := of_bind_some hf
    have hPs := Eq.mp (congrArg (fun w => va_P (dC, dI) vwCl w H) (wC_s_text cI cC G ca nC ck (va_up J 4 I10) (va_up E 4 A11) L)) hP
    have hDs := Eq.mp (congrArg (fun w => va_D AA w) (wC_s_text cI cC G ca nC ck (va_up J 4 I10) (va_up E 4 A11) L)) hD
    have hF21 := va_freeMid hDs hS hA
    refine va_callv (va_runV (As := [.int (47 : Int32)]) (rest := []) ⟨hx, hb, hml, hown, hts⟩ (mX6_add l dC dI cI (G 4) I10 A11 (47 : Int32) H.size _ hc18) (cwV 1 hts gX8_show_X6_add rfl rfl rfl (by decide +kernel) ⟨Nat.le_of_ble_eq_true rfl, Nat.le_of_ble_eq_true rfl⟩) ⟨blindW, va_recv hK hPs.mid (ci := 3) (q0 := 0) rfl rfl, fun U hU hW => ⟨rfl, by rw [hU], by rw [hU]; exact hPs.mid, va_K.moved hW.alike (hK.sub [0] rfl), hDs.mid.weaken (fun _ _ _ _ => trivial)⟩⟩ rfl rfl hl.1 rfl (lv_room (Nat.le_of_ble_eq_true rfl)) dX8_show_43 ⟨Nat.zero_le _, Nat.zero_le _⟩) hS (fun q _ h => hF21 q h) hF21 (fun u t H locs ht hvm hw hB hz1 hk1 hS => ?_)
    cases hw
    obtain ⟨hP1, hK9, hD1⟩ := hB
    rw [ht] at hP1
    obtain ⟨hP, hD⟩ := va_joinMid hPs hDs hk1 hF21 hP1 hD1
    have hP : va_P (dC, dI) vwCl (wC cI cC G ca nC ck (va_up (va_up J 4 I10) 4 I19) (va_up (va_up E 4 A11) 4 A20) L) H := Eq.mp (congrArg (fun w => va_P (dC, dI) vwCl w H) (wC_j_text cI cC G ca nC ck (va_up J 4 I10) (va_up E 4 A11) L I19 A20)) hP
    have hD : va_D AA (wC cI cC G ca nC ck (va_up (va_up J 4 I10) 4 I19) (va_up (va_up E 4 A11) 4 A20) L) := Eq.mp (congrArg (fun w => va_D AA w) (wC_j_text cI cC G ca nC ck (va_up J 4 I10) (va_up E 4 A11) L I19 A20)) hD
    have hP : va_P (dC, dI) vwCl (wC cI cC G ca nC ck (va_up J 4 I19) (va_up (va_up E 4 A11) 4 A20) L) H := Eq.mp (congrArg (fun j9 => va_P (dC, dI) vwCl (wC cI cC G ca nC ck j9 (va_up (va_up E 4 A11) 4 A20) L) H) (vupc J 4 I10 I19)) hP
    have hD : va_D AA (wC cI cC G ca nC ck (va_up J 4 I19) (va_up (va_up E 4 A11) 4 A20) L) := Eq.mp (congrArg (fun j9 => va_D AA (wC cI cC G ca nC ck j9 (va_up (va_up E 4 A11) 4 A20) L)) (vupc J 4 I10 I19)) hD
    have hP : va_P (dC, dI) vwCl (wC cI cC G ca nC ck (va_up J 4 I19) (va_up E 4 A20) L) H := Eq.mp (congrArg (fun j9 => va_P (dC, dI) vwCl (wC cI cC G ca nC ck (va_up J 4 I19) j9 L) H) (vupc E 4 A11 A20)) hP
    have hD : va_D AA (wC cI cC G ca nC ck (va_up J 4 I19) (va_up E 4 A20) L) := Eq.mp (congrArg (fun j9 => va_D AA (wC cI cC G ca nC ck (va_up J 4 I19) j9 L)) (vupc E 4 A11 A20)) hD
    refine lv_aload_n hx hb dX8_show_46 rfl (lv_at hl 0 rfl) ?_
    refine va_get (D := (dC, dI)) (ci := 5) (v := .ref (G 4 100)) (C := RX8) (T := TX8) (N := 6) hx hb hts hinX8 hown hK hP 0 rfl rfl 4 (by decide) hk39 (fun _ h9 => h9) rfl dX8_show_47 ?_
    refine lv_iload_n hx hb dX8_show_50 rfl (lv_at hl 3 rfl) ?_
    obtain ⟨⟨I23, A24⟩, hc22, hf⟩ := of_bind_some hf
    have hPs := Eq.mp (congrArg (fun w => va_P (dC, dI) vwCl w H) (wC_s_text cI cC G ca nC ck (va_up J 4 I19) (va_up E 4 A20) L)) hP
    have hDs := Eq.mp (congrArg (fun w => va_D AA w) (wC_s_text cI cC G ca nC ck (va_up J 4 I19) (va_up E 4 A20) L)) hD
    have hF25 := va_freeMid hDs hS hA
    refine va_callv (va_runV (As := [.int x3]) (rest := []) ⟨hx, hb, hml, hown, hts⟩ (mX6_addNote l en dC dI cI (G 4) I19 A20 x3 H.size _ hc22) (cwV 1 hts gX8_show_X6_addNote rfl rfl rfl (by decide +kernel) ⟨Nat.le_of_ble_eq_true rfl, Nat.le_of_ble_eq_true rfl⟩) ⟨blindWE, va_recv hK hPs.mid (ci := 3) (q0 := 0) rfl rfl, fun U hU hW => ⟨rfl, by rw [hU], by rw [hU]; exact hPs.mid, va_K.moved hW.alike (hK.sub [0] rfl), hDs.mid.weaken (fun _ _ _ _ => trivial), cE_sub hE hS hW hU hF25⟩⟩ rfl rfl hl.1 rfl (lv_room (Nat.le_of_ble_eq_true rfl)) dX8_show_51 ⟨Nat.zero_le _, Nat.zero_le _⟩) hS (fun q _ h => hF25 q h) hF25 (fun u t H locs ht hvm hw hB hz1 hk1 hS => ?_)
    cases hw
    obtain ⟨hP1, hK9, hD1⟩ := hB
    rw [ht] at hP1
    obtain ⟨hP, hD⟩ := va_joinMid hPs hDs hk1 hF25 hP1 hD1
    have hP : va_P (dC, dI) vwCl (wC cI cC G ca nC ck (va_up (va_up J 4 I19) 4 I23) (va_up (va_up E 4 A20) 4 A24) L) H := Eq.mp (congrArg (fun w => va_P (dC, dI) vwCl w H) (wC_j_text cI cC G ca nC ck (va_up J 4 I19) (va_up E 4 A20) L I23 A24)) hP
    have hD : va_D AA (wC cI cC G ca nC ck (va_up (va_up J 4 I19) 4 I23) (va_up (va_up E 4 A20) 4 A24) L) := Eq.mp (congrArg (fun w => va_D AA w) (wC_j_text cI cC G ca nC ck (va_up J 4 I19) (va_up E 4 A20) L I23 A24)) hD
    have hP : va_P (dC, dI) vwCl (wC cI cC G ca nC ck (va_up J 4 I23) (va_up (va_up E 4 A20) 4 A24) L) H := Eq.mp (congrArg (fun j9 => va_P (dC, dI) vwCl (wC cI cC G ca nC ck j9 (va_up (va_up E 4 A20) 4 A24) L) H) (vupc J 4 I19 I23)) hP
    have hD : va_D AA (wC cI cC G ca nC ck (va_up J 4 I23) (va_up (va_up E 4 A20) 4 A24) L) := Eq.mp (congrArg (fun j9 => va_D AA (wC cI cC G ca nC ck j9 (va_up (va_up E 4 A20) 4 A24) L)) (vupc J 4 I19 I23)) hD
    have hP : va_P (dC, dI) vwCl (wC cI cC G ca nC ck (va_up J 4 I23) (va_up E 4 A24) L) H := Eq.mp (congrArg (fun j9 => va_P (dC, dI) vwCl (wC cI cC G ca nC ck (va_up J 4 I23) j9 L) H) (vupc E 4 A20 A24)) hP
    have hD : va_D AA (wC cI cC G ca nC ck (va_up J 4 I23) (va_up E 4 A24) L) := Eq.mp (congrArg (fun j9 => va_D AA (wC cI cC G ca nC ck (va_up J 4 I23) j9 L)) (vupc E 4 A20 A24)) hD
    refine lv_aload_n hx hb dX8_show_54 rfl (lv_at hl 0 rfl) ?_
    refine va_get (D := (dC, dI)) (ci := 5) (v := .ref (G 4 100)) (C := RX8) (T := TX8) (N := 6) hx hb hts hinX8 hown hK hP 0 rfl rfl 4 (by decide) hk39 (fun _ h9 => h9) rfl dX8_show_55 ?_
    refine va_getN (D := (dC, dI)) (ci := 3) (v := .int (I23 1)) (C := RX6) (T := TX6) (N := 2) hx hb hts hinX6 hown hK hP 11 rfl rfl 1 (by decide) (va_Nw.use rfl (hE.2.2.2.2.2 (RX8, 187, RX6, "size", "I", RX8) (by decide +kernel))) (fun _ h9 => h9) rfl dX8_show_58 ?_
    exact W.iret (v := (I23 1)) hx hb hr (fun t ht hW => ⟨⟨(I23 1), ((va_up J 4 I23), (va_up E 4 A24), L), rfl, Option.some.inj hf, by rw [ht]; exact hP, va_K.moved hW.alike hK, hD⟩, hS.F ht⟩) hS.2.2 dX8_show_61
def fX8_write (nC : Nat) (ck : Nat → Nat → Int32) (J : Nat → Nat → Int32) (E : Nat → Nat → Nat → Int32) (L : Nat → Int64) (x1 : Int32) : Option (Int32 × (Nat → Nat → Int32) × (Nat → Nat → Nat → Int32) × (Nat → Int64)) :=
  (ckAt nC J x1 ((fX1_body (ck x1.toNatClampNeg) ).bind fun r1 => ((fX8_show nC ck J E L (ck x1.toNatClampNeg 0) r1 (ck x1.toNatClampNeg 2)).bind fun (r7, J4, E5, L6) => (some (r7, (J4, E5, L6))))) (some ((-1 : Int32), (J, E, L))))
set_option maxRecDepth 100000 in
set_option maxHeartbeats 4000000 in
theorem mX8_write (l : Launch) (en : Nat → Nat) (dC : Nat → ClassId) (dI : Nat → Nat → Nat) (cI cC : ClassId) (G : Nat → Nat → Nat) (ca : Nat → Nat) (nC : Nat) (ck : Nat → Nat → Int32) (J : Nat → Nat → Int32) (E : Nat → Nat → Nat → Int32) (L : Nat → Int64) (x1 : Int32) (sz : Nat) (z : Int32 × (Nat → Nat → Int32) × (Nat → Nat → Nat → Int32) × (Nat → Int64)) (hf : fX8_write nC ck J E L x1 = some z) : Met l yX8_write wsX8_write ({ frames := 7, cells := 0, slots := 0, locals := 155 }) (va_Pc [.ref (G 0 100), .int x1] (fun U => U.heap.size = sz ∧ va_P (dC, dI) vwCl (wC cI cC G ca nC ck J E L) U.heap ∧ va_K (dC, dI) vwCl (t8 cI cC) U ∧ va_D (fun _ => True) (wC cI cC G ca nC ck J E L) ∧ cE en (va_A (wC cI cC G ca nC ck J E L) sz) U U.heap)) (va_Qi (fun (r : Int32) (u : (Nat → Nat → Int32) × (Nat → Nat → Nat → Int32) × (Nat → Int64)) => (r, u) = z) (at8 dC dI cI cC G ca nC ck (va_A (wC cI cC G ca nC ck J E L) sz)) (va_A (wC cI cC G ca nC ck J E L) sz)) 0 0 (va_A (wC cI cC G ca nC ck J E L) sz) := by
  refine Met.ofW (cc := cX8_write) (maxL := 3) (ret := (some .int)) (by decide) rfl ?_
  intro p e s m args below meth c s₁ BL hml hv
  obtain ⟨rfl, hsz, hP, hK, hD0, hE⟩ := hv
  have hx := BL.exec
  have hb := BL.bytes
  have hr := BL.returns
  have hts := atoms_spec (ws := wsX8_write) BL.pre
  have hown : s.vm.findClass RX8 = some m.cls := findClass_of_methodNamed BL.named
  have hlocks := BL.notSynchronized
  have hinX1 : ∀ w ∈ u_ws RX1 TX1 4, w ∈ wsX8_write := by decide +kernel
  have hk66 := hts (.fieldLink RX8 66 "LeadSheets$Chord" "root" "I") (by decide +kernel)
  have hk75 := hts (.fieldLink RX8 75 "LeadSheets$Chord" "bass" "I") (by decide +kernel)
  subst hsz
  have hD := hD0.self (sz := s.heap.size)
  generalize hAe : va_A (wC cI cC G ca nC ck J E L) s.heap.size = AA at hD hE ⊢
  have hA : ∀ q : Nat, s.heap.size ≤ q → AA q := fun q h => by rw [← hAe]; exact Or.inr h
  have hS : va_S AA s.heap s.heap [] := va_S.rf
  have hl := lv_entry ([.ref (G 0 100), .int x1]) (n := 3) (Nat.le_of_ble_eq_true rfl)
  rw [lg_entry_eq]
  generalize (lg_sl ([.ref (G 0 100), .int x1]) ++ List.replicate (3 - (lg_sl ([.ref (G 0 100), .int x1])).length) Slot.unset).toArray = ls at hl ⊢
  have hl : lv_has ls 3 [(0, .ref (G 0 100)), (1, .int x1)] := hl
  unfold fX8_write at hf
  refine lv_aload_n hx hb dX8_write_0 rfl (lv_at hl 0 rfl) ?_
  refine lv_iload_n hx hb dX8_write_1 rfl (lv_at hl 1 rfl) ?_
  rcases of_ckAt ca hf with ⟨hq, hf⟩ | ⟨hki, hq, hf⟩
  · refine va_csq (W.runV (As := [.int x1]) (rest := []) ⟨hx, hb, hml, hown, hts⟩ (mX8_chordAt l dC dI cI cC G ca nC ck J E L x1 none hq) (cwV 1 hts gX8_write_X8_chordAt rfl rfl rfl (by decide +kernel) ⟨Nat.le_of_ble_eq_true rfl, Nat.le_of_ble_eq_true rfl⟩) ⟨blindR, va_recv hK hP (ci := 5) (q0 := 0) rfl rfl, fun U hU hW => ⟨rfl, by rw [hU]; exact hP, va_K.moved hW.alike hK⟩⟩ rfl rfl hl.1 rfl (lv_room (Nat.le_of_ble_eq_true rfl)) dX8_write_2 ⟨Nat.zero_le _, Nat.zero_le _⟩) (fun rq hrq => ?_)
    subst hrq
    refine W.eq (g2 := F0 m 5 ls [.null]) rfl ?_
    refine lv_astore_nN (lv' := [(2, .null), (0, .ref (G 0 100)), (1, .int x1)]) hx hb dX8_write_5 rfl hl (by decide) rfl (fun ls hl => ?_)
    refine lv_aload_nN hx hb dX8_write_6 rfl (lv_at hl 0 rfl) ?_
    refine lv_ifnonnullN hx hb dX8_write_7 ?_
    refine lv_iconst (v := (-1 : Int32)) hx hb dX8_write_10 (by decide) ?_
    exact W.iret (v := (-1 : Int32)) hx hb hr (fun t ht hW => ⟨⟨(-1 : Int32), (J, E, L), rfl, Option.some.inj hf, by rw [ht]; exact hP, va_K.moved hW.alike hK, hD⟩, hS.F ht⟩) hS.2.2 dX8_write_11
  · refine va_csq (W.runV (As := [.int x1]) (rest := []) ⟨hx, hb, hml, hown, hts⟩ (mX8_chordAt l dC dI cI cC G ca nC ck J E L x1 (some (ca x1.toNatClampNeg)) hq) (cwV 1 hts gX8_write_X8_chordAt rfl rfl rfl (by decide +kernel) ⟨Nat.le_of_ble_eq_true rfl, Nat.le_of_ble_eq_true rfl⟩) ⟨blindR, va_recv hK hP (ci := 5) (q0 := 0) rfl rfl, fun U hU hW => ⟨rfl, by rw [hU]; exact hP, va_K.moved hW.alike hK⟩⟩ rfl rfl hl.1 rfl (lv_room (Nat.le_of_ble_eq_true rfl)) dX8_write_2 ⟨Nat.zero_le _, Nat.zero_le _⟩) (fun rq hrq => ?_)
    subst hrq
    refine W.eq (g2 := F0 m 5 ls [.ref (ca x1.toNatClampNeg)]) rfl ?_
    refine lv_astore_n (lv' := [(2, .ref (ca x1.toNatClampNeg)), (0, .ref (G 0 100)), (1, .int x1)]) hx hb dX8_write_5 rfl hl (by decide) rfl (fun ls hl => ?_)
    refine lv_aload_n hx hb dX8_write_6 rfl (lv_at hl 0 rfl) ?_
    refine lv_ifnonnull (tgt := 12) hx hb dX8_write_7 (by decide) ?_
    refine lv_aload_n hx hb dX8_write_12 rfl (lv_at hl 1 rfl) ?_
    refine lv_aload_n hx hb dX8_write_13 rfl (lv_at hl 0 rfl) ?_
    refine va_get (D := (dC, dI)) (ci := 0) (v := .int (ck x1.toNatClampNeg 0)) (C := RX1) (T := TX1) (N := 4) hx hb hts hinX1 hown hK (wC_k hP hki) 0 rfl rfl 0 (by decide) hk66 (fun _ h9 => h9) rfl dX8_write_14 ?_
    refine lv_aload_n hx hb dX8_write_17 rfl (lv_at hl 0 rfl) ?_
    obtain ⟨r1, hc2, hf⟩ := of_bind_some hf
    refine W.callR (r := r1) (W.runV (As := []) (rest := [.int (ck x1.toNatClampNeg 0), .ref (G 0 100)]) ⟨hx, hb, hml, hown, hts⟩ (mX1_body l en dC dI cI (fun _ => ca x1.toNatClampNeg) (ck x1.toNatClampNeg)  r1 hc2) (cwV 0 hts gX8_write_X1_body rfl rfl rfl (by decide +kernel) ⟨Nat.le_of_ble_eq_true rfl, Nat.le_of_ble_eq_true rfl⟩) ⟨blindRE, va_recv hK (wC_k hP hki) (ci := 0) (q0 := 0) rfl rfl, fun U hU hW => ⟨rfl, by rw [hU]; exact wC_k hP hki, va_K.moved hW.alike (hK.sub [0] rfl), cE_read hE hS hW hU⟩⟩ rfl rfl hl.1 rfl (lv_room (Nat.le_of_ble_eq_true rfl)) dX8_write_18 ⟨Nat.zero_le _, Nat.zero_le _⟩) ?_
    refine W.eq (g2 := F0 m 21 ls [.int r1, .int (ck x1.toNatClampNeg 0), .ref (G 0 100)]) rfl ?_
    refine lv_aload_n hx hb dX8_write_21 rfl (lv_at hl 0 rfl) ?_
    refine va_get (D := (dC, dI)) (ci := 0) (v := .int (ck x1.toNatClampNeg 2)) (C := RX1) (T := TX1) (N := 4) hx hb hts hinX1 hown hK (wC_k hP hki) 0 rfl rfl 2 (by decide) hk75 (fun _ h9 => h9) rfl dX8_write_22 ?_
    obtain ⟨⟨r7, J4, E5, L6⟩, hc3, hf⟩ := of_bind_some hf
    have hF8 := va_freeAll hD hS hA
    refine va_calli (va_runV (As := [.int (ck x1.toNatClampNeg 0), .int r1, .int (ck x1.toNatClampNeg 2)]) (rest := []) ⟨hx, hb, hml, hown, hts⟩ (mX8_show l en dC dI cI cC G ca nC ck J E L (ck x1.toNatClampNeg 0) r1 (ck x1.toNatClampNeg 2) s.heap.size _ hc3) (cwV 3 hts gX8_write_X8_show rfl rfl rfl (by decide +kernel) ⟨Nat.le_of_ble_eq_true rfl, Nat.le_of_ble_eq_true rfl⟩) ⟨blindWE, va_recv hK hP (ci := 5) (q0 := 0) rfl rfl, fun U hU hW => ⟨rfl, by rw [hU], by rw [hU]; exact hP, va_K.moved hW.alike hK, hD.weaken (fun _ _ _ _ => trivial), cE_sub hE hS hW hU hF8⟩⟩ rfl rfl hl.1 rfl (lv_room (Nat.le_of_ble_eq_true rfl)) dX8_write_25 ⟨Nat.zero_le _, Nat.zero_le _⟩) hS (fun q _ h => hF8 q h) hF8 (fun r0 u t H locs ht hvm hw hB hz1 hk1 hS => ?_)
    cases hw
    obtain ⟨hP, hK9, hD⟩ := hB
    rw [ht] at hP
    have hP : va_P (dC, dI) vwCl (wC cI cC G ca nC ck J4 E5 L6) H := hP
    have hD : va_D AA (wC cI cC G ca nC ck J4 E5 L6) := hD.weaken (fun _ _ _ h => hF8 _ h)
    exact W.iret (v := r7) hx hb hr (fun t ht hW => ⟨⟨r7, (J4, E5, L6), rfl, Option.some.inj hf, by rw [ht]; exact hP, va_K.moved hW.alike hK, hD⟩, hS.F ht⟩) hS.2.2 dX8_write_28
def fX8_named (nC : Nat) (ck : Nat → Nat → Int32) (J : Nat → Nat → Int32) (E : Nat → Nat → Nat → Int32) (L : Nat → Int64) (x1 : Int32) (x2 : Int32) : Option (Int32 × (Nat → Nat → Int32) × (Nat → Nat → Nat → Int32) × (Nat → Int64)) :=
  (if x1 < (1 : Int32) then (some ((-1 : Int32), (J, E, L))) else (if (4095 : Int32) < x1 then (some ((-1 : Int32), (J, E, L))) else (if (fX8_isPitch x2) = 0 then (some ((-1 : Int32), (J, E, L))) else (if ((x1 >>> (x2 &&& 31)) &&& (1 : Int32)) = 0 then (some ((-1 : Int32), (J, E, L))) else ((fX2_find (J 2) (E 2) x1 x2).bind fun (r8, I6, A7) => (some (r8, ((va_up J 2 I6), (va_up E 2 A7), L))))))))
set_option maxRecDepth 100000 in
set_option maxHeartbeats 4000000 in
theorem mX8_named (l : Launch) (en : Nat → Nat) (dC : Nat → ClassId) (dI : Nat → Nat → Nat) (cI cC : ClassId) (G : Nat → Nat → Nat) (ca : Nat → Nat) (nC : Nat) (ck : Nat → Nat → Int32) (J : Nat → Nat → Int32) (E : Nat → Nat → Nat → Int32) (L : Nat → Int64) (x1 : Int32) (x2 : Int32) (sz : Nat) (z : Int32 × (Nat → Nat → Int32) × (Nat → Nat → Nat → Int32) × (Nat → Int64)) (hf : fX8_named nC ck J E L x1 x2 = some z) : Met l yX8_named wsX8_named ({ frames := 3, cells := 0, slots := 0, locals := 70 }) (va_Pc [.ref (G 0 100), .int x1, .int x2] (fun U => U.heap.size = sz ∧ va_P (dC, dI) vwCl (wC cI cC G ca nC ck J E L) U.heap ∧ va_K (dC, dI) vwCl (t8 cI cC) U ∧ va_D (fun _ => True) (wC cI cC G ca nC ck J E L) ∧ cE en (va_A (wC cI cC G ca nC ck J E L) sz) U U.heap)) (va_Qi (fun (r : Int32) (u : (Nat → Nat → Int32) × (Nat → Nat → Nat → Int32) × (Nat → Int64)) => (r, u) = z) (at8 dC dI cI cC G ca nC ck (va_A (wC cI cC G ca nC ck J E L) sz)) (va_A (wC cI cC G ca nC ck J E L) sz)) 0 0 (va_A (wC cI cC G ca nC ck J E L) sz) := by
  refine Met.ofW (cc := cX8_named) (maxL := 3) (ret := (some .int)) (by decide) rfl ?_
  intro p e s m args below meth c s₁ BL hml hv
  obtain ⟨rfl, hsz, hP, hK, hD0, hE⟩ := hv
  have hx := BL.exec
  have hb := BL.bytes
  have hr := BL.returns
  have hts := atoms_spec (ws := wsX8_named) BL.pre
  have hown : s.vm.findClass RX8 = some m.cls := findClass_of_methodNamed BL.named
  have hlocks := BL.notSynchronized
  have hinX8 : ∀ w ∈ u_ws RX8 TX8 6, w ∈ wsX8_named := by decide +kernel
  have hk25 := hts (.fieldLink RX8 25 "LeadSheets" "names" "LLeadSheets$Names;") (by decide +kernel)
  subst hsz
  have hD := hD0.self (sz := s.heap.size)
  generalize hAe : va_A (wC cI cC G ca nC ck J E L) s.heap.size = AA at hD hE ⊢
  have hA : ∀ q : Nat, s.heap.size ≤ q → AA q := fun q h => by rw [← hAe]; exact Or.inr h
  have hS : va_S AA s.heap s.heap [] := va_S.rf
  have hl := lv_entry ([.ref (G 0 100), .int x1, .int x2]) (n := 3) (Nat.le_of_ble_eq_true rfl)
  rw [lg_entry_eq]
  generalize (lg_sl ([.ref (G 0 100), .int x1, .int x2]) ++ List.replicate (3 - (lg_sl ([.ref (G 0 100), .int x1, .int x2])).length) Slot.unset).toArray = ls at hl ⊢
  have hl : lv_has ls 3 [(0, .ref (G 0 100)), (1, .int x1), (2, .int x2)] := hl
  unfold fX8_named at hf
  refine lv_iload_n hx hb dX8_named_0 rfl (lv_at hl 1 rfl) ?_
  refine lv_iconst (v := (1 : Int32)) hx hb dX8_named_1 (by decide) ?_
  refine lv_icmp_lt (tgt := 27) hx hb dX8_named_2 (by decide) (fun c1 => ?_) (fun c1 => ?_)
  · have hf := (if_pos c1).symm.trans hf
    refine lv_iconst (v := (-1 : Int32)) hx hb dX8_named_27 (by decide) ?_
    exact W.iret (v := (-1 : Int32)) hx hb hr (fun t ht hW => ⟨⟨(-1 : Int32), (J, E, L), rfl, Option.some.inj hf, by rw [ht]; exact hP, va_K.moved hW.alike hK, hD⟩, hS.F ht⟩) hS.2.2 dX8_named_28
  · have hf := (if_neg c1).symm.trans hf
    refine lv_iload_n hx hb dX8_named_5 rfl (lv_at hl 1 rfl) ?_
    refine lv_sipush (v := (4095 : Int32)) hx hb dX8_named_6 (by decide) ?_
    refine lv_icmp_gt (tgt := 27) hx hb dX8_named_9 (by decide) (fun c2 => ?_) (fun c2 => ?_)
    · have hf := (if_pos c2).symm.trans hf
      refine lv_iconst (v := (-1 : Int32)) hx hb dX8_named_27 (by decide) ?_
      exact W.iret (v := (-1 : Int32)) hx hb hr (fun t ht hW => ⟨⟨(-1 : Int32), (J, E, L), rfl, Option.some.inj hf, by rw [ht]; exact hP, va_K.moved hW.alike hK, hD⟩, hS.F ht⟩) hS.2.2 dX8_named_28
    · have hf := (if_neg c2).symm.trans hf
      refine lv_iload_n hx hb dX8_named_12 rfl (lv_at hl 2 rfl) ?_
      refine W.callR (r := (fX8_isPitch x2)) (W.runS (As := [.int x2]) (rest := []) ⟨hx, hb, hml, hown, hts⟩ (mX8_isPitch l x2 (fX8_isPitch x2) rfl) (va_cwS 1 hts gX8_named_X8_isPitch rfl rfl rfl (by decide +kernel) ⟨Nat.le_of_ble_eq_true rfl, Nat.le_of_ble_eq_true rfl⟩) ⟨fun _ _ _ _ q => q, fun U hU hW => ⟨rfl, trivial⟩⟩ rfl rfl hl.1 rfl (lv_room (Nat.le_of_ble_eq_true rfl)) dX8_named_13 ⟨Nat.zero_le _, Nat.zero_le _⟩) ?_
      refine W.eq (g2 := F0 m 16 ls [.int (fX8_isPitch x2)]) rfl ?_
      refine lv_if_eq (tgt := 27) hx hb dX8_named_16 (by decide) (fun c3 => ?_) (fun c3 => ?_)
      · have hf := (if_pos c3).symm.trans hf
        refine lv_iconst (v := (-1 : Int32)) hx hb dX8_named_27 (by decide) ?_
        exact W.iret (v := (-1 : Int32)) hx hb hr (fun t ht hW => ⟨⟨(-1 : Int32), (J, E, L), rfl, Option.some.inj hf, by rw [ht]; exact hP, va_K.moved hW.alike hK, hD⟩, hS.F ht⟩) hS.2.2 dX8_named_28
      · have hf := (if_neg c3).symm.trans hf
        refine lv_iload_n hx hb dX8_named_19 rfl (lv_at hl 1 rfl) ?_
        refine lv_iload_n hx hb dX8_named_20 rfl (lv_at hl 2 rfl) ?_
        refine lv_ishr hx hb dX8_named_21 ?_
        refine lv_iconst (v := (1 : Int32)) hx hb dX8_named_22 (by decide) ?_
        refine lv_iand hx hb dX8_named_23 ?_
        refine lv_if_ne (tgt := 29) hx hb dX8_named_24 (by decide) (fun c4 => ?_) (fun c4 => ?_)
        · have hf := (if_neg c4).symm.trans hf
          refine lv_aload_n hx hb dX8_named_29 rfl (lv_at hl 0 rfl) ?_
          refine va_get (D := (dC, dI)) (ci := 5) (v := .ref (G 2 100)) (C := RX8) (T := TX8) (N := 6) hx hb hts hinX8 hown hK hP 0 rfl rfl 2 (by decide) hk25 (fun _ h9 => h9) rfl dX8_named_30 ?_
          refine lv_iload_n hx hb dX8_named_33 rfl (lv_at hl 1 rfl) ?_
          refine lv_iload_n hx hb dX8_named_34 rfl (lv_at hl 2 rfl) ?_
          obtain ⟨⟨r8, I6, A7⟩, hc5, hf⟩ := of_bind_some hf
          have hPs := Eq.mp (congrArg (fun w => va_P (dC, dI) vwCl w s.heap) (wC_s_names cI cC G ca nC ck J E L)) hP
          have hDs := Eq.mp (congrArg (fun w => va_D AA w) (wC_s_names cI cC G ca nC ck J E L)) hD
          have hF9 := va_freeMid hDs hS hA
          refine va_calli (va_runV (As := [.int x1, .int x2]) (rest := []) ⟨hx, hb, hml, hown, hts⟩ (mX2_find l en dC dI cI (G 2) (J 2) (E 2) x1 x2 s.heap.size _ hc5) (cwV 2 hts gX8_named_X2_find rfl rfl rfl (by decide +kernel) ⟨Nat.le_of_ble_eq_true rfl, Nat.le_of_ble_eq_true rfl⟩) ⟨blindWE, va_recv hK hPs.mid (ci := 1) (q0 := 0) rfl rfl, fun U hU hW => ⟨rfl, by rw [hU], by rw [hU]; exact hPs.mid, va_K.moved hW.alike (hK.sub [0] rfl), hDs.mid.weaken (fun _ _ _ _ => trivial), cE_sub hE hS hW hU hF9⟩⟩ rfl rfl hl.1 rfl (lv_room (Nat.le_of_ble_eq_true rfl)) dX8_named_35 ⟨Nat.zero_le _, Nat.zero_le _⟩) hS (fun q _ h => hF9 q h) hF9 (fun r0 u t H locs ht hvm hw hB hz1 hk1 hS => ?_)
          cases hw
          obtain ⟨hP1, hK9, hD1⟩ := hB
          rw [ht] at hP1
          obtain ⟨hP, hD⟩ := va_joinMid hPs hDs hk1 hF9 hP1 hD1
          have hP : va_P (dC, dI) vwCl (wC cI cC G ca nC ck (va_up J 2 I6) (va_up E 2 A7) L) H := Eq.mp (congrArg (fun w => va_P (dC, dI) vwCl w H) (wC_j_names cI cC G ca nC ck J E L I6 A7)) hP
          have hD : va_D AA (wC cI cC G ca nC ck (va_up J 2 I6) (va_up E 2 A7) L) := Eq.mp (congrArg (fun w => va_D AA w) (wC_j_names cI cC G ca nC ck J E L I6 A7)) hD
          exact W.iret (v := r8) hx hb hr (fun t ht hW => ⟨⟨r8, ((va_up J 2 I6), (va_up E 2 A7), L), rfl, Option.some.inj hf, by rw [ht]; exact hP, va_K.moved hW.alike hK, hD⟩, hS.F ht⟩) hS.2.2 dX8_named_38
        · have hf := (if_pos c4).symm.trans hf
          refine lv_iconst (v := (-1 : Int32)) hx hb dX8_named_27 (by decide) ?_
          exact W.iret (v := (-1 : Int32)) hx hb hr (fun t ht hW => ⟨⟨(-1 : Int32), (J, E, L), rfl, Option.some.inj hf, by rw [ht]; exact hP, va_K.moved hW.alike hK, hD⟩, hS.F ht⟩) hS.2.2 dX8_named_28
def fX8_name (nC : Nat) (ck : Nat → Nat → Int32) (J : Nat → Nat → Int32) (E : Nat → Nat → Nat → Int32) (L : Nat → Int64) (x1 : Int32) : Option (Int32 × (Nat → Nat → Int32) × (Nat → Nat → Nat → Int32) × (Nat → Int64)) :=
  ((fX2_placeOf (J 2) (E 2) x1).bind fun r1 => (if r1 = (-1 : Int32) then (some ((-1 : Int32), (J, E, L))) else ((fX2_rootOf ((J 2) 3) r1).bind fun r5 => ((fX2_bassNote ((J 2) 3)).bind fun r7 => ((fX8_show nC ck J E L r5 (fX2_bodyOf r1) r7).bind fun (r13, J10, E11, L12) => (some (r13, (J10, E11, L12))))))))
set_option maxRecDepth 100000 in
set_option maxHeartbeats 4000000 in
theorem mX8_name (l : Launch) (en : Nat → Nat) (dC : Nat → ClassId) (dI : Nat → Nat → Nat) (cI cC : ClassId) (G : Nat → Nat → Nat) (ca : Nat → Nat) (nC : Nat) (ck : Nat → Nat → Int32) (J : Nat → Nat → Int32) (E : Nat → Nat → Nat → Int32) (L : Nat → Int64) (x1 : Int32) (sz : Nat) (z : Int32 × (Nat → Nat → Int32) × (Nat → Nat → Nat → Int32) × (Nat → Int64)) (hf : fX8_name nC ck J E L x1 = some z) : Met l yX8_name wsX8_name ({ frames := 7, cells := 0, slots := 0, locals := 158 }) (va_Pc [.ref (G 0 100), .int x1] (fun U => U.heap.size = sz ∧ va_P (dC, dI) vwCl (wC cI cC G ca nC ck J E L) U.heap ∧ va_K (dC, dI) vwCl (t8 cI cC) U ∧ va_D (fun _ => True) (wC cI cC G ca nC ck J E L) ∧ cE en (va_A (wC cI cC G ca nC ck J E L) sz) U U.heap)) (va_Qi (fun (r : Int32) (u : (Nat → Nat → Int32) × (Nat → Nat → Nat → Int32) × (Nat → Int64)) => (r, u) = z) (at8 dC dI cI cC G ca nC ck (va_A (wC cI cC G ca nC ck J E L) sz)) (va_A (wC cI cC G ca nC ck J E L) sz)) 0 0 (va_A (wC cI cC G ca nC ck J E L) sz) := by
  refine Met.ofW (cc := cX8_name) (maxL := 4) (ret := (some .int)) (by decide) rfl ?_
  intro p e s m args below meth c s₁ BL hml hv
  obtain ⟨rfl, hsz, hP, hK, hD0, hE⟩ := hv
  have hx := BL.exec
  have hb := BL.bytes
  have hr := BL.returns
  have hts := atoms_spec (ws := wsX8_name) BL.pre
  have hown : s.vm.findClass RX8 = some m.cls := findClass_of_methodNamed BL.named
  have hlocks := BL.notSynchronized
  have hinX2 : ∀ w ∈ u_ws RX2 TX2 4, w ∈ wsX8_name := by decide +kernel
  have hinX8 : ∀ w ∈ u_ws RX8 TX8 6, w ∈ wsX8_name := by decide +kernel
  have hk25 := hts (.fieldLink RX8 25 "LeadSheets" "names" "LLeadSheets$Names;") (by decide +kernel)
  subst hsz
  have hD := hD0.self (sz := s.heap.size)
  generalize hAe : va_A (wC cI cC G ca nC ck J E L) s.heap.size = AA at hD hE ⊢
  have hA : ∀ q : Nat, s.heap.size ≤ q → AA q := fun q h => by rw [← hAe]; exact Or.inr h
  have hS : va_S AA s.heap s.heap [] := va_S.rf
  have hl := lv_entry ([.ref (G 0 100), .int x1]) (n := 4) (Nat.le_of_ble_eq_true rfl)
  rw [lg_entry_eq]
  generalize (lg_sl ([.ref (G 0 100), .int x1]) ++ List.replicate (4 - (lg_sl ([.ref (G 0 100), .int x1])).length) Slot.unset).toArray = ls at hl ⊢
  have hl : lv_has ls 4 [(0, .ref (G 0 100)), (1, .int x1)] := hl
  unfold fX8_name at hf
  refine lv_aload_n hx hb dX8_name_0 rfl (lv_at hl 0 rfl) ?_
  refine va_get (D := (dC, dI)) (ci := 5) (v := .ref (G 2 100)) (C := RX8) (T := TX8) (N := 6) hx hb hts hinX8 hown hK hP 0 rfl rfl 2 (by decide) hk25 (fun _ h9 => h9) rfl dX8_name_1 ?_
  refine lv_iload_n hx hb dX8_name_4 rfl (lv_at hl 1 rfl) ?_
  obtain ⟨r1, hc2, hf⟩ := of_bind_some hf
  have hs3 : va_P (dC, dI) vwCl (wN cI (G 2) (J 2) (E 2)) s.heap := hP.sub [4, 5, 6] rfl
  refine W.callR (r := r1) (W.runV (As := [.int x1]) (rest := []) ⟨hx, hb, hml, hown, hts⟩ (mX2_placeOf l dC dI cI (G 2) (J 2) (E 2) x1 r1 hc2) (cwV 1 hts gX8_name_X2_placeOf rfl rfl rfl (by decide +kernel) ⟨Nat.le_of_ble_eq_true rfl, Nat.le_of_ble_eq_true rfl⟩) ⟨blindR, va_recv hK hs3 (ci := 1) (q0 := 0) rfl rfl, fun U hU hW => ⟨rfl, by rw [hU]; exact hs3, va_K.moved hW.alike (hK.sub [0] rfl)⟩⟩ rfl rfl hl.1 rfl (lv_room (Nat.le_of_ble_eq_true rfl)) dX8_name_5 ⟨Nat.zero_le _, Nat.zero_le _⟩) ?_
  refine W.eq (g2 := F0 m 8 ls [.int r1]) rfl ?_
  refine lv_istore_n (lv' := [(2, .int r1), (0, .ref (G 0 100)), (1, .int x1)]) hx hb dX8_name_8 rfl hl (by decide) rfl (fun ls hl => ?_)
  refine lv_iload_n hx hb dX8_name_9 rfl (lv_at hl 0 rfl) ?_
  refine lv_iconst (v := (-1 : Int32)) hx hb dX8_name_10 (by decide) ?_
  refine lv_icmp_ne (tgt := 16) hx hb dX8_name_11 (by decide) (fun c4 => ?_) (fun c4 => ?_)
  · have hf := (if_neg c4).symm.trans hf
    refine lv_aload_n hx hb dX8_name_16 rfl (lv_at hl 1 rfl) ?_
    refine va_get (D := (dC, dI)) (ci := 5) (v := .ref (G 2 100)) (C := RX8) (T := TX8) (N := 6) hx hb hts hinX8 hown hK hP 0 rfl rfl 2 (by decide) hk25 (fun _ h9 => h9) rfl dX8_name_17 ?_
    refine va_getN (D := (dC, dI)) (ci := 1) (v := .int ((J 2) 3)) (C := RX2) (T := TX2) (N := 4) hx hb hts hinX2 hown hK hP 4 rfl rfl 3 (by decide) (va_Nw.use rfl (hE.2.2.2.2.2 (RX8, 131, RX2, "foundBass", "I", RX8) (by decide +kernel))) (fun _ h9 => h9) rfl dX8_name_20 ?_
    refine lv_istore_n (lv' := [(3, .int ((J 2) 3)), (2, .int r1), (0, .ref (G 0 100)), (1, .int x1)]) hx hb dX8_name_23 rfl hl (by decide) rfl (fun ls hl => ?_)
    refine lv_aload_n hx hb dX8_name_24 rfl (lv_at hl 2 rfl) ?_
    refine lv_iload_n hx hb dX8_name_25 rfl (lv_at hl 0 rfl) ?_
    refine lv_iload_n hx hb dX8_name_26 rfl (lv_at hl 1 rfl) ?_
    obtain ⟨r5, hc6, hf⟩ := of_bind_some hf
    refine W.callR (r := r5) (W.runS (As := [.int ((J 2) 3), .int r1]) (rest := [.ref (G 0 100)]) ⟨hx, hb, hml, hown, hts⟩ (mX2_rootOf l en ((J 2) 3) r1 r5 hc6) (va_cwS 2 hts gX8_name_X2_rootOf rfl rfl rfl (by decide +kernel) ⟨Nat.le_of_ble_eq_true rfl, Nat.le_of_ble_eq_true rfl⟩) ⟨blindS, fun U hU hW => ⟨rfl, cE_read hE hS hW hU⟩⟩ rfl rfl hl.1 rfl (lv_room (Nat.le_of_ble_eq_true rfl)) dX8_name_27 ⟨Nat.zero_le _, Nat.zero_le _⟩) ?_
    refine W.eq (g2 := F0 m 30 ls [.int r5, .ref (G 0 100)]) rfl ?_
    refine lv_iload_n hx hb dX8_name_30 rfl (lv_at hl 1 rfl) ?_
    refine W.callR (r := (fX2_bodyOf r1)) (W.runS (As := [.int r1]) (rest := [.int r5, .ref (G 0 100)]) ⟨hx, hb, hml, hown, hts⟩ (mX2_bodyOf l r1 (fX2_bodyOf r1) rfl) (va_cwS 1 hts gX8_name_X2_bodyOf rfl rfl rfl (by decide +kernel) ⟨Nat.le_of_ble_eq_true rfl, Nat.le_of_ble_eq_true rfl⟩) ⟨fun _ _ _ _ q => q, fun U hU hW => ⟨rfl, trivial⟩⟩ rfl rfl hl.1 rfl (lv_room (Nat.le_of_ble_eq_true rfl)) dX8_name_31 ⟨Nat.zero_le _, Nat.zero_le _⟩) ?_
    refine W.eq (g2 := F0 m 34 ls [.int (fX2_bodyOf r1), .int r5, .ref (G 0 100)]) rfl ?_
    refine lv_iload_n hx hb dX8_name_34 rfl (lv_at hl 0 rfl) ?_
    obtain ⟨r7, hc8, hf⟩ := of_bind_some hf
    refine W.callR (r := r7) (W.runS (As := [.int ((J 2) 3)]) (rest := [.int (fX2_bodyOf r1), .int r5, .ref (G 0 100)]) ⟨hx, hb, hml, hown, hts⟩ (mX2_bassNote l en ((J 2) 3) r7 hc8) (va_cwS 1 hts gX8_name_X2_bassNote rfl rfl rfl (by decide +kernel) ⟨Nat.le_of_ble_eq_true rfl, Nat.le_of_ble_eq_true rfl⟩) ⟨blindS, fun U hU hW => ⟨rfl, cE_read hE hS hW hU⟩⟩ rfl rfl hl.1 rfl (lv_room (Nat.le_of_ble_eq_true rfl)) dX8_name_35 ⟨Nat.zero_le _, Nat.zero_le _⟩) ?_
    refine W.eq (g2 := F0 m 38 ls [.int r7, .int (fX2_bodyOf r1), .int r5, .ref (G 0 100)]) rfl ?_
    obtain ⟨⟨r13, J10, E11, L12⟩, hc9, hf⟩ := of_bind_some hf
    have hF14 := va_freeAll hD hS hA
    refine va_calli (va_runV (As := [.int r5, .int (fX2_bodyOf r1), .int r7]) (rest := []) ⟨hx, hb, hml, hown, hts⟩ (mX8_show l en dC dI cI cC G ca nC ck J E L r5 (fX2_bodyOf r1) r7 s.heap.size _ hc9) (cwV 3 hts gX8_name_X8_show rfl rfl rfl (by decide +kernel) ⟨Nat.le_of_ble_eq_true rfl, Nat.le_of_ble_eq_true rfl⟩) ⟨blindWE, va_recv hK hP (ci := 5) (q0 := 0) rfl rfl, fun U hU hW => ⟨rfl, by rw [hU], by rw [hU]; exact hP, va_K.moved hW.alike hK, hD.weaken (fun _ _ _ _ => trivial), cE_sub hE hS hW hU hF14⟩⟩ rfl rfl hl.1 rfl (lv_room (Nat.le_of_ble_eq_true rfl)) dX8_name_38 ⟨Nat.zero_le _, Nat.zero_le _⟩) hS (fun q _ h => hF14 q h) hF14 (fun r0 u t H locs ht hvm hw hB hz1 hk1 hS => ?_)
    cases hw
    obtain ⟨hP, hK9, hD⟩ := hB
    rw [ht] at hP
    have hP : va_P (dC, dI) vwCl (wC cI cC G ca nC ck J10 E11 L12) H := hP
    have hD : va_D AA (wC cI cC G ca nC ck J10 E11 L12) := hD.weaken (fun _ _ _ h => hF14 _ h)
    exact W.iret (v := r13) hx hb hr (fun t ht hW => ⟨⟨r13, (J10, E11, L12), rfl, Option.some.inj hf, by rw [ht]; exact hP, va_K.moved hW.alike hK, hD⟩, hS.F ht⟩) hS.2.2 dX8_name_41
  · have hf := (if_pos c4).symm.trans hf
    refine lv_iconst (v := (-1 : Int32)) hx hb dX8_name_14 (by decide) ?_
    exact W.iret (v := (-1 : Int32)) hx hb hr (fun t ht hW => ⟨⟨(-1 : Int32), (J, E, L), rfl, Option.some.inj hf, by rw [ht]; exact hP, va_K.moved hW.alike hK, hD⟩, hS.F ht⟩) hS.2.2 dX8_name_15
def fX8_voice (nC : Nat) (ck : Nat → Nat → Int32) (J : Nat → Nat → Int32) (E : Nat → Nat → Nat → Int32) (L : Nat → Int64) (x1 : Int32) (x2 : Int32) (x3 : Int32) : Option (Int32 × (Nat → Nat → Int32) × (Nat → Nat → Nat → Int32) × (Nat → Int64)) :=
  (ckAt nC J x1 (if (fX8_isKey x2) = 0 then (some ((-1 : Int32), (J, E, L))) else (if (fX8_isKey x3) = 0 then (some ((-1 : Int32), (J, E, L))) else (if x3 < x2 then (some ((-1 : Int32), (J, E, L))) else (if (x3 - x2) ≤ (36 : Int32) then ((fX1_pitches (ck x1.toNatClampNeg) ).bind fun r5 => ((fX3_pitch (ck x1.toNatClampNeg 2)).bind fun r7 => ((fX7_find (J 3) L (E 3) r5 r7 x2 x3).bind fun (r13, I10, L11, A12) => (if r13 = 0 then (some ((-2 : Int32), ((va_up J 3 I10), (va_up E 3 A12), L11))) else (some ((I10 1), ((va_up J 3 I10), (va_up E 3 A12), L11))))))) else (some ((-1 : Int32), (J, E, L))))))) (some ((-1 : Int32), (J, E, L))))
set_option maxRecDepth 100000 in
set_option maxHeartbeats 4000000 in
theorem mX8_voice (l : Launch) (en : Nat → Nat) (dC : Nat → ClassId) (dI : Nat → Nat → Nat) (cI cC : ClassId) (G : Nat → Nat → Nat) (ca : Nat → Nat) (nC : Nat) (ck : Nat → Nat → Int32) (J : Nat → Nat → Int32) (E : Nat → Nat → Nat → Int32) (L : Nat → Int64) (x1 : Int32) (x2 : Int32) (x3 : Int32) (sz : Nat) (z : Int32 × (Nat → Nat → Int32) × (Nat → Nat → Nat → Int32) × (Nat → Int64)) (hf : fX8_voice nC ck J E L x1 x2 x3 = some z) : Met l yX8_voice wsX8_voice ({ frames := 4, cells := 0, slots := 0, locals := 84 }) (va_Pc [.ref (G 0 100), .int x1, .int x2, .int x3] (fun U => U.heap.size = sz ∧ va_P (dC, dI) vwCl (wC cI cC G ca nC ck J E L) U.heap ∧ va_K (dC, dI) vwCl (t8 cI cC) U ∧ va_D (fun _ => True) (wC cI cC G ca nC ck J E L) ∧ cE en (va_A (wC cI cC G ca nC ck J E L) sz) U U.heap)) (va_Qi (fun (r : Int32) (u : (Nat → Nat → Int32) × (Nat → Nat → Nat → Int32) × (Nat → Int64)) => (r, u) = z) (at8 dC dI cI cC G ca nC ck (va_A (wC cI cC G ca nC ck J E L) sz)) (va_A (wC cI cC G ca nC ck J E L) sz)) 0 0 (va_A (wC cI cC G ca nC ck J E L) sz) := by
  refine Met.ofW (cc := cX8_voice) (maxL := 5) (ret := (some .int)) (by decide) rfl ?_
  intro p e s m args below meth c s₁ BL hml hv
  obtain ⟨rfl, hsz, hP, hK, hD0, hE⟩ := hv
  have hx := BL.exec
  have hb := BL.bytes
  have hr := BL.returns
  have hts := atoms_spec (ws := wsX8_voice) BL.pre
  have hown : s.vm.findClass RX8 = some m.cls := findClass_of_methodNamed BL.named
  have hlocks := BL.notSynchronized
  have hinX1 : ∀ w ∈ u_ws RX1 TX1 4, w ∈ wsX8_voice := by decide +kernel
  have hinX7 : ∀ w ∈ u_ws RX7 TX7 6, w ∈ wsX8_voice := by decide +kernel
  have hinX8 : ∀ w ∈ u_ws RX8 TX8 6, w ∈ wsX8_voice := by decide +kernel
  have hk32 := hts (.fieldLink RX8 32 "LeadSheets" "voicing" "LLeadSheets$Voicing;") (by decide +kernel)
  have hk75 := hts (.fieldLink RX8 75 "LeadSheets$Chord" "bass" "I") (by decide +kernel)
  subst hsz
  have hD := hD0.self (sz := s.heap.size)
  generalize hAe : va_A (wC cI cC G ca nC ck J E L) s.heap.size = AA at hD hE ⊢
  have hA : ∀ q : Nat, s.heap.size ≤ q → AA q := fun q h => by rw [← hAe]; exact Or.inr h
  have hS : va_S AA s.heap s.heap [] := va_S.rf
  have hl := lv_entry ([.ref (G 0 100), .int x1, .int x2, .int x3]) (n := 5) (Nat.le_of_ble_eq_true rfl)
  rw [lg_entry_eq]
  generalize (lg_sl ([.ref (G 0 100), .int x1, .int x2, .int x3]) ++ List.replicate (5 - (lg_sl ([.ref (G 0 100), .int x1, .int x2, .int x3])).length) Slot.unset).toArray = ls at hl ⊢
  have hl : lv_has ls 5 [(0, .ref (G 0 100)), (1, .int x1), (2, .int x2), (3, .int x3)] := hl
  unfold fX8_voice at hf
  refine lv_aload_n hx hb dX8_voice_0 rfl (lv_at hl 0 rfl) ?_
  refine lv_iload_n hx hb dX8_voice_1 rfl (lv_at hl 1 rfl) ?_
  rcases of_ckAt ca hf with ⟨hq, hf⟩ | ⟨hki, hq, hf⟩
  · refine va_csq (W.runV (As := [.int x1]) (rest := []) ⟨hx, hb, hml, hown, hts⟩ (mX8_chordAt l dC dI cI cC G ca nC ck J E L x1 none hq) (cwV 1 hts gX8_voice_X8_chordAt rfl rfl rfl (by decide +kernel) ⟨Nat.le_of_ble_eq_true rfl, Nat.le_of_ble_eq_true rfl⟩) ⟨blindR, va_recv hK hP (ci := 5) (q0 := 0) rfl rfl, fun U hU hW => ⟨rfl, by rw [hU]; exact hP, va_K.moved hW.alike hK⟩⟩ rfl rfl hl.1 rfl (lv_room (Nat.le_of_ble_eq_true rfl)) dX8_voice_2 ⟨Nat.zero_le _, Nat.zero_le _⟩) (fun rq hrq => ?_)
    subst hrq
    refine W.eq (g2 := F0 m 5 ls [.null]) rfl ?_
    refine lv_astoreN (lv' := [(4, .null), (0, .ref (G 0 100)), (1, .int x1), (2, .int x2), (3, .int x3)]) hx hb dX8_voice_5 hl (by decide) rfl (fun ls hl => ?_)
    refine lv_aloadN hx hb dX8_voice_7 (lv_at hl 0 rfl) ?_
    refine lv_ifnullN (tgt := 39) hx hb dX8_voice_9 (by decide) ?_
    refine lv_iconst (v := (-1 : Int32)) hx hb dX8_voice_39 (by decide) ?_
    exact W.iret (v := (-1 : Int32)) hx hb hr (fun t ht hW => ⟨⟨(-1 : Int32), (J, E, L), rfl, Option.some.inj hf, by rw [ht]; exact hP, va_K.moved hW.alike hK, hD⟩, hS.F ht⟩) hS.2.2 dX8_voice_40
  · refine va_csq (W.runV (As := [.int x1]) (rest := []) ⟨hx, hb, hml, hown, hts⟩ (mX8_chordAt l dC dI cI cC G ca nC ck J E L x1 (some (ca x1.toNatClampNeg)) hq) (cwV 1 hts gX8_voice_X8_chordAt rfl rfl rfl (by decide +kernel) ⟨Nat.le_of_ble_eq_true rfl, Nat.le_of_ble_eq_true rfl⟩) ⟨blindR, va_recv hK hP (ci := 5) (q0 := 0) rfl rfl, fun U hU hW => ⟨rfl, by rw [hU]; exact hP, va_K.moved hW.alike hK⟩⟩ rfl rfl hl.1 rfl (lv_room (Nat.le_of_ble_eq_true rfl)) dX8_voice_2 ⟨Nat.zero_le _, Nat.zero_le _⟩) (fun rq hrq => ?_)
    subst hrq
    refine W.eq (g2 := F0 m 5 ls [.ref (ca x1.toNatClampNeg)]) rfl ?_
    refine lv_astore (lv' := [(4, .ref (ca x1.toNatClampNeg)), (0, .ref (G 0 100)), (1, .int x1), (2, .int x2), (3, .int x3)]) hx hb dX8_voice_5 hl (by decide) rfl (fun ls hl => ?_)
    refine lv_aload hx hb dX8_voice_7 (lv_at hl 0 rfl) ?_
    refine lv_ifnull hx hb dX8_voice_9 ?_
    refine lv_iload_n hx hb dX8_voice_12 rfl (lv_at hl 3 rfl) ?_
    refine W.callR (r := (fX8_isKey x2)) (W.runS (As := [.int x2]) (rest := []) ⟨hx, hb, hml, hown, hts⟩ (mX8_isKey l x2 (fX8_isKey x2) rfl) (va_cwS 1 hts gX8_voice_X8_isKey rfl rfl rfl (by decide +kernel) ⟨Nat.le_of_ble_eq_true rfl, Nat.le_of_ble_eq_true rfl⟩) ⟨fun _ _ _ _ q => q, fun U hU hW => ⟨rfl, trivial⟩⟩ rfl rfl hl.1 rfl (lv_room (Nat.le_of_ble_eq_true rfl)) dX8_voice_13 ⟨Nat.zero_le _, Nat.zero_le _⟩) ?_
    refine W.eq (g2 := F0 m 16 ls [.int (fX8_isKey x2)]) rfl ?_
    refine lv_if_eq (tgt := 39) hx hb dX8_voice_16 (by decide) (fun c1 => ?_) (fun c1 => ?_)
    · have hf := (if_pos c1).symm.trans hf
      refine lv_iconst (v := (-1 : Int32)) hx hb dX8_voice_39 (by decide) ?_
      exact W.iret (v := (-1 : Int32)) hx hb hr (fun t ht hW => ⟨⟨(-1 : Int32), (J, E, L), rfl, Option.some.inj hf, by rw [ht]; exact hP, va_K.moved hW.alike hK, hD⟩, hS.F ht⟩) hS.2.2 dX8_voice_40
    · have hf := (if_neg c1).symm.trans hf
      refine lv_iload_n hx hb dX8_voice_19 rfl (lv_at hl 4 rfl) ?_
      refine W.callR (r := (fX8_isKey x3)) (W.runS (As := [.int x3]) (rest := []) ⟨hx, hb, hml, hown, hts⟩ (mX8_isKey l x3 (fX8_isKey x3) rfl) (va_cwS 1 hts gX8_voice_X8_isKey rfl rfl rfl (by decide +kernel) ⟨Nat.le_of_ble_eq_true rfl, Nat.le_of_ble_eq_true rfl⟩) ⟨fun _ _ _ _ q => q, fun U hU hW => ⟨rfl, trivial⟩⟩ rfl rfl hl.1 rfl (lv_room (Nat.le_of_ble_eq_true rfl)) dX8_voice_20 ⟨Nat.zero_le _, Nat.zero_le _⟩) ?_
      refine W.eq (g2 := F0 m 23 ls [.int (fX8_isKey x3)]) rfl ?_
      refine lv_if_eq (tgt := 39) hx hb dX8_voice_23 (by decide) (fun c2 => ?_) (fun c2 => ?_)
      · have hf := (if_pos c2).symm.trans hf
        refine lv_iconst (v := (-1 : Int32)) hx hb dX8_voice_39 (by decide) ?_
        exact W.iret (v := (-1 : Int32)) hx hb hr (fun t ht hW => ⟨⟨(-1 : Int32), (J, E, L), rfl, Option.some.inj hf, by rw [ht]; exact hP, va_K.moved hW.alike hK, hD⟩, hS.F ht⟩) hS.2.2 dX8_voice_40
      · have hf := (if_neg c2).symm.trans hf
        refine lv_iload_n hx hb dX8_voice_26 rfl (lv_at hl 4 rfl) ?_
        refine lv_iload_n hx hb dX8_voice_27 rfl (lv_at hl 3 rfl) ?_
        refine lv_icmp_lt (tgt := 39) hx hb dX8_voice_28 (by decide) (fun c3 => ?_) (fun c3 => ?_)
        · have hf := (if_pos c3).symm.trans hf
          refine lv_iconst (v := (-1 : Int32)) hx hb dX8_voice_39 (by decide) ?_
          exact W.iret (v := (-1 : Int32)) hx hb hr (fun t ht hW => ⟨⟨(-1 : Int32), (J, E, L), rfl, Option.some.inj hf, by rw [ht]; exact hP, va_K.moved hW.alike hK, hD⟩, hS.F ht⟩) hS.2.2 dX8_voice_40
        · have hf := (if_neg c3).symm.trans hf
          refine lv_iload_n hx hb dX8_voice_31 rfl (lv_at hl 4 rfl) ?_
          refine lv_iload_n hx hb dX8_voice_32 rfl (lv_at hl 3 rfl) ?_
          refine lv_isub hx hb dX8_voice_33 ?_
          refine lv_bipush (v := (36 : Int32)) hx hb dX8_voice_34 (by decide) ?_
          refine lv_icmp_le (tgt := 41) hx hb dX8_voice_36 (by decide) (fun c4 => ?_) (fun c4 => ?_)
          · have hf := (if_pos c4).symm.trans hf
            refine lv_aload_n hx hb dX8_voice_41 rfl (lv_at hl 1 rfl) ?_
            refine va_get (D := (dC, dI)) (ci := 5) (v := .ref (G 3 100)) (C := RX8) (T := TX8) (N := 6) hx hb hts hinX8 hown hK hP 0 rfl rfl 3 (by decide) hk32 (fun _ h9 => h9) rfl dX8_voice_42 ?_
            refine lv_aload hx hb dX8_voice_45 (lv_at hl 0 rfl) ?_
            obtain ⟨r5, hc6, hf⟩ := of_bind_some hf
            refine W.callR (r := r5) (W.runV (As := []) (rest := [.ref (G 3 100)]) ⟨hx, hb, hml, hown, hts⟩ (mX1_pitches l en dC dI cI (fun _ => ca x1.toNatClampNeg) (ck x1.toNatClampNeg)  r5 hc6) (cwV 0 hts gX8_voice_X1_pitches rfl rfl rfl (by decide +kernel) ⟨Nat.le_of_ble_eq_true rfl, Nat.le_of_ble_eq_true rfl⟩) ⟨blindRE, va_recv hK (wC_k hP hki) (ci := 0) (q0 := 0) rfl rfl, fun U hU hW => ⟨rfl, by rw [hU]; exact wC_k hP hki, va_K.moved hW.alike (hK.sub [0] rfl), cE_read hE hS hW hU⟩⟩ rfl rfl hl.1 rfl (lv_room (Nat.le_of_ble_eq_true rfl)) dX8_voice_47 ⟨Nat.zero_le _, Nat.zero_le _⟩) ?_
            refine W.eq (g2 := F0 m 50 ls [.int r5, .ref (G 3 100)]) rfl ?_
            refine lv_aload hx hb dX8_voice_50 (lv_at hl 0 rfl) ?_
            refine va_get (D := (dC, dI)) (ci := 0) (v := .int (ck x1.toNatClampNeg 2)) (C := RX1) (T := TX1) (N := 4) hx hb hts hinX1 hown hK (wC_k hP hki) 0 rfl rfl 2 (by decide) hk75 (fun _ h9 => h9) rfl dX8_voice_52 ?_
            obtain ⟨r7, hc8, hf⟩ := of_bind_some hf
            refine W.callR (r := r7) (W.runS (As := [.int (ck x1.toNatClampNeg 2)]) (rest := [.int r5, .ref (G 3 100)]) ⟨hx, hb, hml, hown, hts⟩ (mX3_pitch l en (ck x1.toNatClampNeg 2) r7 hc8) (va_cwS 1 hts gX8_voice_X3_pitch rfl rfl rfl (by decide +kernel) ⟨Nat.le_of_ble_eq_true rfl, Nat.le_of_ble_eq_true rfl⟩) ⟨blindS, fun U hU hW => ⟨rfl, cE_read hE hS hW hU⟩⟩ rfl rfl hl.1 rfl (lv_room (Nat.le_of_ble_eq_true rfl)) dX8_voice_55 ⟨Nat.zero_le _, Nat.zero_le _⟩) ?_
            refine W.eq (g2 := F0 m 58 ls [.int r7, .int r5, .ref (G 3 100)]) rfl ?_
            refine lv_iload_n hx hb dX8_voice_58 rfl (lv_at hl 3 rfl) ?_
            refine lv_iload_n hx hb dX8_voice_59 rfl (lv_at hl 4 rfl) ?_
            obtain ⟨⟨r13, I10, L11, A12⟩, hc9, hf⟩ := of_bind_some hf
            have hPs := Eq.mp (congrArg (fun w => va_P (dC, dI) vwCl w s.heap) (wC_s_voicing cI cC G ca nC ck J E L)) hP
            have hDs := Eq.mp (congrArg (fun w => va_D AA w) (wC_s_voicing cI cC G ca nC ck J E L)) hD
            have hF14 := va_freeMid hDs hS hA
            refine va_calli (va_runV (As := [.int r5, .int r7, .int x2, .int x3]) (rest := []) ⟨hx, hb, hml, hown, hts⟩ (mX7_find l en dC dI cI (G 3) (J 3) L (E 3) r5 r7 x2 x3 s.heap.size _ hc9) (cwV 4 hts gX8_voice_X7_find rfl rfl rfl (by decide +kernel) ⟨Nat.le_of_ble_eq_true rfl, Nat.le_of_ble_eq_true rfl⟩) ⟨blindWE, va_recv hK hPs.mid (ci := 4) (q0 := 0) rfl rfl, fun U hU hW => ⟨rfl, by rw [hU], by rw [hU]; exact hPs.mid, va_K.moved hW.alike (hK.sub [0] rfl), hDs.mid.weaken (fun _ _ _ _ => trivial), cE_sub hE hS hW hU hF14⟩⟩ rfl rfl hl.1 rfl (lv_room (Nat.le_of_ble_eq_true rfl)) dX8_voice_60 ⟨Nat.zero_le _, Nat.zero_le _⟩) hS (fun q _ h => hF14 q h) hF14 (fun r0 u t H locs ht hvm hw hB hz1 hk1 hS => ?_)
            cases hw
            obtain ⟨hP1, hK9, hD1⟩ := hB
            rw [ht] at hP1
            obtain ⟨hP, hD⟩ := va_joinMid hPs hDs hk1 hF14 hP1 hD1
            have hP : va_P (dC, dI) vwCl (wC cI cC G ca nC ck (va_up J 3 I10) (va_up E 3 A12) L11) H := Eq.mp (congrArg (fun w => va_P (dC, dI) vwCl w H) (wC_j_voicing cI cC G ca nC ck J E L I10 A12 L11)) hP
            have hD : va_D AA (wC cI cC G ca nC ck (va_up J 3 I10) (va_up E 3 A12) L11) := Eq.mp (congrArg (fun w => va_D AA w) (wC_j_voicing cI cC G ca nC ck J E L I10 A12 L11)) hD
            refine lv_if_eq (tgt := 76) hx hb dX8_voice_63 (by decide) (fun c15 => ?_) (fun c15 => ?_)
            · have hf := (if_pos c15).symm.trans hf
              refine lv_bipush (v := (-2 : Int32)) hx hb dX8_voice_76 (by decide) ?_
              exact W.iret (v := (-2 : Int32)) hx hb hr (fun t ht hW => ⟨⟨(-2 : Int32), ((va_up J 3 I10), (va_up E 3 A12), L11), rfl, Option.some.inj hf, by rw [ht]; exact hP, va_K.moved hW.alike hK, hD⟩, hS.F ht⟩) hS.2.2 dX8_voice_78
            · have hf := (if_neg c15).symm.trans hf
              refine lv_aload_n hx hb dX8_voice_66 rfl (lv_at hl 1 rfl) ?_
              refine va_get (D := (dC, dI)) (ci := 5) (v := .ref (G 3 100)) (C := RX8) (T := TX8) (N := 6) hx hb hts hinX8 hown hK hP 0 rfl rfl 3 (by decide) hk32 (fun _ h9 => h9) rfl dX8_voice_67 ?_
              refine va_getN (D := (dC, dI)) (ci := 4) (v := .int (I10 1)) (C := RX7) (T := TX7) (N := 6) hx hb hts hinX7 hown hK hP 7 rfl rfl 1 (by decide) (va_Nw.use rfl (hE.2.2.2.2.2 (RX8, 163, RX7, "size", "I", RX8) (by decide +kernel))) (fun _ h9 => h9) rfl dX8_voice_70 ?_
              refine lv_goto (tgt := 78) hx hb dX8_voice_73 (by decide) ?_
              exact W.iret (v := (I10 1)) hx hb hr (fun t ht hW => ⟨⟨(I10 1), ((va_up J 3 I10), (va_up E 3 A12), L11), rfl, Option.some.inj hf, by rw [ht]; exact hP, va_K.moved hW.alike hK, hD⟩, hS.F ht⟩) hS.2.2 dX8_voice_78
          · have hf := (if_neg c4).symm.trans hf
            refine lv_iconst (v := (-1 : Int32)) hx hb dX8_voice_39 (by decide) ?_
            exact W.iret (v := (-1 : Int32)) hx hb hr (fun t ht hW => ⟨⟨(-1 : Int32), (J, E, L), rfl, Option.some.inj hf, by rw [ht]; exact hP, va_K.moved hW.alike hK, hD⟩, hS.F ht⟩) hS.2.2 dX8_voice_40
def fX8_rest (nC : Nat) (ck : Nat → Nat → Int32) (J : Nat → Nat → Int32) (E : Nat → Nat → Nat → Int32) (L : Nat → Int64)  : Option (Int32 × (Nat → Nat → Int32) × (Nat → Nat → Nat → Int32) × (Nat → Int64)) :=
  ((fX7_drop (J 3) L (E 3)).bind fun (r5, I2, L3, A4) => (some (r5, ((va_up J 3 I2), (va_up E 3 A4), L3))))
set_option maxRecDepth 100000 in
set_option maxHeartbeats 4000000 in
theorem mX8_rest (l : Launch) (en : Nat → Nat) (dC : Nat → ClassId) (dI : Nat → Nat → Nat) (cI cC : ClassId) (G : Nat → Nat → Nat) (ca : Nat → Nat) (nC : Nat) (ck : Nat → Nat → Int32) (J : Nat → Nat → Int32) (E : Nat → Nat → Nat → Int32) (L : Nat → Int64)  (sz : Nat) (z : Int32 × (Nat → Nat → Int32) × (Nat → Nat → Nat → Int32) × (Nat → Int64)) (hf : fX8_rest nC ck J E L = some z) : Met l yX8_rest wsX8_rest ({ frames := 1, cells := 0, slots := 0, locals := 21 }) (va_Pc [.ref (G 0 100)] (fun U => U.heap.size = sz ∧ va_P (dC, dI) vwCl (wC cI cC G ca nC ck J E L) U.heap ∧ va_K (dC, dI) vwCl (t8 cI cC) U ∧ va_D (fun _ => True) (wC cI cC G ca nC ck J E L) ∧ cE en (va_A (wC cI cC G ca nC ck J E L) sz) U U.heap)) (va_Qi (fun (r : Int32) (u : (Nat → Nat → Int32) × (Nat → Nat → Nat → Int32) × (Nat → Int64)) => (r, u) = z) (at8 dC dI cI cC G ca nC ck (va_A (wC cI cC G ca nC ck J E L) sz)) (va_A (wC cI cC G ca nC ck J E L) sz)) 0 0 (va_A (wC cI cC G ca nC ck J E L) sz) := by
  refine Met.ofW (cc := cX8_rest) (maxL := 1) (ret := (some .int)) (by decide) rfl ?_
  intro p e s m args below meth c s₁ BL hml hv
  obtain ⟨rfl, hsz, hP, hK, hD0, hE⟩ := hv
  have hx := BL.exec
  have hb := BL.bytes
  have hr := BL.returns
  have hts := atoms_spec (ws := wsX8_rest) BL.pre
  have hown : s.vm.findClass RX8 = some m.cls := findClass_of_methodNamed BL.named
  have hlocks := BL.notSynchronized
  have hinX8 : ∀ w ∈ u_ws RX8 TX8 6, w ∈ wsX8_rest := by decide +kernel
  have hk32 := hts (.fieldLink RX8 32 "LeadSheets" "voicing" "LLeadSheets$Voicing;") (by decide +kernel)
  subst hsz
  have hD := hD0.self (sz := s.heap.size)
  generalize hAe : va_A (wC cI cC G ca nC ck J E L) s.heap.size = AA at hD hE ⊢
  have hA : ∀ q : Nat, s.heap.size ≤ q → AA q := fun q h => by rw [← hAe]; exact Or.inr h
  have hS : va_S AA s.heap s.heap [] := va_S.rf
  have hl := lv_entry ([.ref (G 0 100)]) (n := 1) (Nat.le_of_ble_eq_true rfl)
  rw [lg_entry_eq]
  generalize (lg_sl ([.ref (G 0 100)]) ++ List.replicate (1 - (lg_sl ([.ref (G 0 100)])).length) Slot.unset).toArray = ls at hl ⊢
  have hl : lv_has ls 1 [(0, .ref (G 0 100))] := hl
  unfold fX8_rest at hf
  refine lv_aload_n hx hb dX8_rest_0 rfl (lv_at hl 0 rfl) ?_
  refine va_get (D := (dC, dI)) (ci := 5) (v := .ref (G 3 100)) (C := RX8) (T := TX8) (N := 6) hx hb hts hinX8 hown hK hP 0 rfl rfl 3 (by decide) hk32 (fun _ h9 => h9) rfl dX8_rest_1 ?_
  obtain ⟨⟨r5, I2, L3, A4⟩, hc1, hf⟩ := of_bind_some hf
  have hPs := Eq.mp (congrArg (fun w => va_P (dC, dI) vwCl w s.heap) (wC_s_voicing cI cC G ca nC ck J E L)) hP
  have hDs := Eq.mp (congrArg (fun w => va_D AA w) (wC_s_voicing cI cC G ca nC ck J E L)) hD
  have hF6 := va_freeMid hDs hS hA
  refine va_calli (va_runV (As := []) (rest := []) ⟨hx, hb, hml, hown, hts⟩ (mX7_drop l dC dI cI (G 3) (J 3) L (E 3) s.heap.size _ hc1) (cwV 0 hts gX8_rest_X7_drop rfl rfl rfl (by decide +kernel) ⟨Nat.le_of_ble_eq_true rfl, Nat.le_of_ble_eq_true rfl⟩) ⟨blindW, va_recv hK hPs.mid (ci := 4) (q0 := 0) rfl rfl, fun U hU hW => ⟨rfl, by rw [hU], by rw [hU]; exact hPs.mid, va_K.moved hW.alike (hK.sub [0] rfl), hDs.mid.weaken (fun _ _ _ _ => trivial)⟩⟩ rfl rfl hl.1 rfl (lv_room (Nat.le_of_ble_eq_true rfl)) dX8_rest_4 ⟨Nat.zero_le _, Nat.zero_le _⟩) hS (fun q _ h => hF6 q h) hF6 (fun r0 u t H locs ht hvm hw hB hz1 hk1 hS => ?_)
  cases hw
  obtain ⟨hP1, hK9, hD1⟩ := hB
  rw [ht] at hP1
  obtain ⟨hP, hD⟩ := va_joinMid hPs hDs hk1 hF6 hP1 hD1
  have hP : va_P (dC, dI) vwCl (wC cI cC G ca nC ck (va_up J 3 I2) (va_up E 3 A4) L3) H := Eq.mp (congrArg (fun w => va_P (dC, dI) vwCl w H) (wC_j_voicing cI cC G ca nC ck J E L I2 A4 L3)) hP
  have hD : va_D AA (wC cI cC G ca nC ck (va_up J 3 I2) (va_up E 3 A4) L3) := Eq.mp (congrArg (fun w => va_D AA w) (wC_j_voicing cI cC G ca nC ck J E L I2 A4 L3)) hD
  exact W.iret (v := r5) hx hb hr (fun t ht hW => ⟨⟨r5, ((va_up J 3 I2), (va_up E 3 A4), L3), rfl, Option.some.inj hf, by rw [ht]; exact hP, va_K.moved hW.alike hK, hD⟩, hS.F ht⟩) hS.2.2 dX8_rest_7
def fX8_addNumeral (nC : Nat) (ck : Nat → Nat → Int32) (J : Nat → Nat → Int32) (E : Nat → Nat → Nat → Int32) (L : Nat → Int64) (x1 : Int32) (x2 : Int32) : Option ((Nat → Nat → Int32) × (Nat → Nat → Nat → Int32) × (Nat → Int64)) :=
  ((fX6_addWord (J 4) (E 4) 1 (fJ9_floorMod_7cf53 x1 (12 : Int32)) x2).bind fun (I2, A3) => (some ((va_up J 4 I2), (va_up E 4 A3), L)))
set_option maxRecDepth 100000 in
set_option maxHeartbeats 4000000 in
theorem mX8_addNumeral (l : Launch) (en : Nat → Nat) (dC : Nat → ClassId) (dI : Nat → Nat → Nat) (cI cC : ClassId) (G : Nat → Nat → Nat) (ca : Nat → Nat) (nC : Nat) (ck : Nat → Nat → Int32) (J : Nat → Nat → Int32) (E : Nat → Nat → Nat → Int32) (L : Nat → Int64) (x1 : Int32) (x2 : Int32) (sz : Nat) (z : (Nat → Nat → Int32) × (Nat → Nat → Nat → Int32) × (Nat → Int64)) (hf : fX8_addNumeral nC ck J E L x1 x2 = some z) : Met l yX8_addNumeral wsX8_addNumeral ({ frames := 5, cells := 0, slots := 0, locals := 111 }) (va_Pc [.ref (G 0 100), .int x1, .int x2] (fun U => U.heap.size = sz ∧ va_P (dC, dI) vwCl (wC cI cC G ca nC ck J E L) U.heap ∧ va_K (dC, dI) vwCl (t8 cI cC) U ∧ va_D (fun _ => True) (wC cI cC G ca nC ck J E L) ∧ cE en (va_A (wC cI cC G ca nC ck J E L) sz) U U.heap)) (va_Qv (fun (u : (Nat → Nat → Int32) × (Nat → Nat → Nat → Int32) × (Nat → Int64)) => u = z) (at8 dC dI cI cC G ca nC ck (va_A (wC cI cC G ca nC ck J E L) sz)) (va_A (wC cI cC G ca nC ck J E L) sz)) 0 0 (va_A (wC cI cC G ca nC ck J E L) sz) := by
  refine Met.ofW (cc := cX8_addNumeral) (maxL := 3) (ret := none) (by decide) rfl ?_
  intro p e s m args below meth c s₁ BL hml hv
  obtain ⟨rfl, hsz, hP, hK, hD0, hE⟩ := hv
  have hx := BL.exec
  have hb := BL.bytes
  have hr := BL.returns
  have hts := atoms_spec (ws := wsX8_addNumeral) BL.pre
  have hown : s.vm.findClass RX8 = some m.cls := findClass_of_methodNamed BL.named
  have hlocks := BL.notSynchronized
  have hinX8 : ∀ w ∈ u_ws RX8 TX8 6, w ∈ wsX8_addNumeral := by decide +kernel
  have hk39 := hts (.fieldLink RX8 39 "LeadSheets" "text" "LLeadSheets$Text;") (by decide +kernel)
  subst hsz
  have hD := hD0.self (sz := s.heap.size)
  generalize hAe : va_A (wC cI cC G ca nC ck J E L) s.heap.size = AA at hD hE ⊢
  have hA : ∀ q : Nat, s.heap.size ≤ q → AA q := fun q h => by rw [← hAe]; exact Or.inr h
  have hS : va_S AA s.heap s.heap [] := va_S.rf
  have hl := lv_entry ([.ref (G 0 100), .int x1, .int x2]) (n := 3) (Nat.le_of_ble_eq_true rfl)
  rw [lg_entry_eq]
  generalize (lg_sl ([.ref (G 0 100), .int x1, .int x2]) ++ List.replicate (3 - (lg_sl ([.ref (G 0 100), .int x1, .int x2])).length) Slot.unset).toArray = ls at hl ⊢
  have hl : lv_has ls 3 [(0, .ref (G 0 100)), (1, .int x1), (2, .int x2)] := hl
  unfold fX8_addNumeral at hf
  refine lv_aload_n hx hb dX8_addNumeral_0 rfl (lv_at hl 0 rfl) ?_
  refine va_get (D := (dC, dI)) (ci := 5) (v := .ref (G 4 100)) (C := RX8) (T := TX8) (N := 6) hx hb hts hinX8 hown hK hP 0 rfl rfl 4 (by decide) hk39 (fun _ h9 => h9) rfl dX8_addNumeral_1 ?_
  refine va_ldcS hx hb hown (hE.2.1 1 (by decide)).2 dX8_addNumeral_4 ?_
  refine lv_iload_n hx hb dX8_addNumeral_6 rfl (lv_at hl 1 rfl) ?_
  refine lv_bipush (v := (12 : Int32)) hx hb dX8_addNumeral_7 (by decide) ?_
  refine W.callR (r := (fJ9_floorMod_7cf53 x1 (12 : Int32))) (W.runS (As := [.int x1, .int (12 : Int32)]) (rest := [.ref (en (100 + 1)), .ref (G 4 100)]) ⟨hx, hb, hml, hown, hts⟩ (mJ9_floorMod_7cf53 l x1 (12 : Int32) (by decide) (fJ9_floorMod_7cf53 x1 (12 : Int32)) rfl) (va_cwS 2 hts gX8_addNumeral_J9_floorMod_7cf53 rfl rfl rfl (by decide +kernel) ⟨Nat.le_of_ble_eq_true rfl, Nat.le_of_ble_eq_true rfl⟩) ⟨fun _ _ _ _ q => q, fun U hU hW => ⟨rfl, trivial⟩⟩ rfl rfl hl.1 rfl (lv_room (Nat.le_of_ble_eq_true rfl)) dX8_addNumeral_9 ⟨Nat.zero_le _, Nat.zero_le _⟩) ?_
  refine W.eq (g2 := F0 m 12 ls [.int (fJ9_floorMod_7cf53 x1 (12 : Int32)), .ref (en (100 + 1)), .ref (G 4 100)]) rfl ?_
  refine lv_iload_n hx hb dX8_addNumeral_12 rfl (lv_at hl 2 rfl) ?_
  obtain ⟨⟨I2, A3⟩, hc1, hf⟩ := of_bind_some hf
  have hPs := Eq.mp (congrArg (fun w => va_P (dC, dI) vwCl w s.heap) (wC_s_text cI cC G ca nC ck J E L)) hP
  have hDs := Eq.mp (congrArg (fun w => va_D AA w) (wC_s_text cI cC G ca nC ck J E L)) hD
  have hF4 := va_freeMid hDs hS hA
  refine va_callv (va_runV (As := [.ref (en (100 + 1)), .int (fJ9_floorMod_7cf53 x1 (12 : Int32)), .int x2]) (rest := []) ⟨hx, hb, hml, hown, hts⟩ (mX6_addWord l en dC dI cI (G 4) (J 4) (E 4) 1 (by decide) (fJ9_floorMod_7cf53 x1 (12 : Int32)) x2 s.heap.size _ hc1) (cwV 3 hts gX8_addNumeral_X6_addWord rfl rfl rfl (by decide +kernel) ⟨Nat.le_of_ble_eq_true rfl, Nat.le_of_ble_eq_true rfl⟩) ⟨blindWE, va_recv hK hPs.mid (ci := 3) (q0 := 0) rfl rfl, fun U hU hW => ⟨rfl, by rw [hU], by rw [hU]; exact hPs.mid, va_K.moved hW.alike (hK.sub [0] rfl), hDs.mid.weaken (fun _ _ _ _ => trivial), cE_sub hE hS hW hU hF4⟩⟩ rfl rfl hl.1 rfl (lv_room (Nat.le_of_ble_eq_true rfl)) dX8_addNumeral_13 ⟨Nat.zero_le _, Nat.zero_le _⟩) hS (fun q _ h => hF4 q h) hF4 (fun u t H locs ht hvm hw hB hz1 hk1 hS => ?_)
  cases hw
  obtain ⟨hP1, hK9, hD1⟩ := hB
  rw [ht] at hP1
  obtain ⟨hP, hD⟩ := va_joinMid hPs hDs hk1 hF4 hP1 hD1
  have hP : va_P (dC, dI) vwCl (wC cI cC G ca nC ck (va_up J 4 I2) (va_up E 4 A3) L) H := Eq.mp (congrArg (fun w => va_P (dC, dI) vwCl w H) (wC_j_text cI cC G ca nC ck J E L I2 A3)) hP
  have hD : va_D AA (wC cI cC G ca nC ck (va_up J 4 I2) (va_up E 4 A3) L) := Eq.mp (congrArg (fun w => va_D AA w) (wC_j_text cI cC G ca nC ck J E L I2 A3)) hD
  exact W.vret hx hb hr (fun t ht hW => ⟨⟨((va_up J 4 I2), (va_up E 4 A3), L), rfl, Option.some.inj hf, by rw [ht]; exact hP, va_K.moved hW.alike hK, hD⟩, hS.F ht⟩) hS.2.2 dX8_addNumeral_16
def fX8_addInversion (nC : Nat) (ck : Nat → Nat → Int32) (J : Nat → Nat → Int32) (E : Nat → Nat → Nat → Int32) (L : Nat → Int64) (ki : Nat) (x2 : Int32) : Option ((Nat → Nat → Int32) × (Nat → Nat → Nat → Int32) × (Nat → Int64)) :=
  ((fX1_has (ck ki) (3584 : Int32)).bind fun r1 => ((fX1_degreeOfBass (ck ki) ).bind fun r3 => (if r3 = (1 : Int32) then (if r1 = 0 then ((fX6_addWord (J 4) (E 4) 3 (r3 / (2 : Int32)) (0 : Int32)).bind fun (I8, A9) => (some ((va_up J 4 I8), (va_up E 4 A9), L))) else ((fX6_addWord (J 4) (E 4) 2 (r3 / (2 : Int32)) (0 : Int32)).bind fun (I12, A13) => (some ((va_up J 4 I12), (va_up E 4 A13), L)))) else (if r3 = (3 : Int32) then (if r1 = 0 then ((fX6_addWord (J 4) (E 4) 3 (r3 / (2 : Int32)) (0 : Int32)).bind fun (I18, A19) => (some ((va_up J 4 I18), (va_up E 4 A19), L))) else ((fX6_addWord (J 4) (E 4) 2 (r3 / (2 : Int32)) (0 : Int32)).bind fun (I22, A23) => (some ((va_up J 4 I22), (va_up E 4 A23), L)))) else (if r3 = (5 : Int32) then (if r1 = 0 then ((fX6_addWord (J 4) (E 4) 3 (r3 / (2 : Int32)) (0 : Int32)).bind fun (I28, A29) => (some ((va_up J 4 I28), (va_up E 4 A29), L))) else ((fX6_addWord (J 4) (E 4) 2 (r3 / (2 : Int32)) (0 : Int32)).bind fun (I32, A33) => (some ((va_up J 4 I32), (va_up E 4 A33), L)))) else (if r3 = (7 : Int32) then (if r1 = 0 then ((fX6_addWord (J 4) (E 4) 3 (r3 / (2 : Int32)) (0 : Int32)).bind fun (I65, A66) => (some ((va_up J 4 I65), (va_up E 4 A66), L))) else ((fX6_addWord (J 4) (E 4) 2 (r3 / (2 : Int32)) (0 : Int32)).bind fun (I69, A70) => (some ((va_up J 4 I69), (va_up E 4 A70), L)))) else (if r1 = 0 then ((fX6_add (J 4) (E 4) (47 : Int32)).bind fun (I38, A39) => ((fX3_pitch (ck ki 2)).bind fun r41 => ((fX8_addNumeral nC ck (va_up J 4 I38) (va_up E 4 A39) L (r41 - x2) (0 : Int32)).bind fun (J44, E45, L46) => (some (J44, E45, L46))))) else ((fX6_add (J 4) (E 4) (55 : Int32)).bind fun (I49, A50) => ((fX6_add I49 A50 (47 : Int32)).bind fun (I53, A54) => ((fX3_pitch (ck ki 2)).bind fun r56 => ((fX8_addNumeral nC ck (va_up J 4 I53) (va_up E 4 A54) L (r56 - x2) (0 : Int32)).bind fun (J59, E60, L61) => (some (J59, E60, L61)))))))))))))
set_option maxRecDepth 100000 in
set_option maxHeartbeats 4000000 in
theorem mX8_addInversion (l : Launch) (en : Nat → Nat) (dC : Nat → ClassId) (dI : Nat → Nat → Nat) (cI cC : ClassId) (G : Nat → Nat → Nat) (ca : Nat → Nat) (nC : Nat) (ck : Nat → Nat → Int32) (J : Nat → Nat → Int32) (E : Nat → Nat → Nat → Int32) (L : Nat → Int64) (ki : Nat) (hki : ki < nC) (x2 : Int32) (sz : Nat) (z : (Nat → Nat → Int32) × (Nat → Nat → Nat → Int32) × (Nat → Int64)) (hf : fX8_addInversion nC ck J E L ki x2 = some z) : Met l yX8_addInversion wsX8_addInversion ({ frames := 6, cells := 0, slots := 0, locals := 133 }) (va_Pc [.ref (G 0 100), .ref (ca ki), .int x2] (fun U => U.heap.size = sz ∧ va_P (dC, dI) vwCl (wC cI cC G ca nC ck J E L) U.heap ∧ va_K (dC, dI) vwCl (t8 cI cC) U ∧ va_D (fun _ => True) (wC cI cC G ca nC ck J E L) ∧ cE en (va_A (wC cI cC G ca nC ck J E L) sz) U U.heap)) (va_Qv (fun (u : (Nat → Nat → Int32) × (Nat → Nat → Nat → Int32) × (Nat → Int64)) => u = z) (at8 dC dI cI cC G ca nC ck (va_A (wC cI cC G ca nC ck J E L) sz)) (va_A (wC cI cC G ca nC ck J E L) sz)) 0 0 (va_A (wC cI cC G ca nC ck J E L) sz) := by
  refine Met.ofW (cc := cX8_addInversion) (maxL := 5) (ret := none) (by decide) rfl ?_
  intro p e s m args below meth c s₁ BL hml hv
  obtain ⟨rfl, hsz, hP, hK, hD0, hE⟩ := hv
  have hx := BL.exec
  have hb := BL.bytes
  have hr := BL.returns
  have hts := atoms_spec (ws := wsX8_addInversion) BL.pre
  have hown : s.vm.findClass RX8 = some m.cls := findClass_of_methodNamed BL.named
  have hlocks := BL.notSynchronized
  have hinX1 : ∀ w ∈ u_ws RX1 TX1 4, w ∈ wsX8_addInversion := by decide +kernel
  have hinX8 : ∀ w ∈ u_ws RX8 TX8 6, w ∈ wsX8_addInversion := by decide +kernel
  have hk39 := hts (.fieldLink RX8 39 "LeadSheets" "text" "LLeadSheets$Text;") (by decide +kernel)
  have hk75 := hts (.fieldLink RX8 75 "LeadSheets$Chord" "bass" "I") (by decide +kernel)
  subst hsz
  have hD := hD0.self (sz := s.heap.size)
  generalize hAe : va_A (wC cI cC G ca nC ck J E L) s.heap.size = AA at hD hE ⊢
  have hA : ∀ q : Nat, s.heap.size ≤ q → AA q := fun q h => by rw [← hAe]; exact Or.inr h
  have hS : va_S AA s.heap s.heap [] := va_S.rf
  have hl := lv_entry ([.ref (G 0 100), .ref (ca ki), .int x2]) (n := 5) (Nat.le_of_ble_eq_true rfl)
  rw [lg_entry_eq]
  generalize (lg_sl ([.ref (G 0 100), .ref (ca ki), .int x2]) ++ List.replicate (5 - (lg_sl ([.ref (G 0 100), .ref (ca ki), .int x2])).length) Slot.unset).toArray = ls at hl ⊢
  have hl : lv_has ls 5 [(0, .ref (G 0 100)), (1, .ref (ca ki)), (2, .int x2)] := hl
  unfold fX8_addInversion at hf
  refine lv_aload_n hx hb dX8_addInversion_0 rfl (lv_at hl 1 rfl) ?_
  refine lv_sipush (v := (3584 : Int32)) hx hb dX8_addInversion_1 (by decide) ?_
  obtain ⟨r1, hc2, hf⟩ := of_bind_some hf
  refine W.callR (r := r1) (W.runV (As := [.int (3584 : Int32)]) (rest := []) ⟨hx, hb, hml, hown, hts⟩ (mX1_has l dC dI cI (fun _ => ca ki) (ck ki) (3584 : Int32) r1 hc2) (cwV 1 hts gX8_addInversion_X1_has rfl rfl rfl (by decide +kernel) ⟨Nat.le_of_ble_eq_true rfl, Nat.le_of_ble_eq_true rfl⟩) ⟨blindR, va_recv hK (wC_k hP hki) (ci := 0) (q0 := 0) rfl rfl, fun U hU hW => ⟨rfl, by rw [hU]; exact wC_k hP hki, va_K.moved hW.alike (hK.sub [0] rfl)⟩⟩ rfl rfl hl.1 rfl (lv_room (Nat.le_of_ble_eq_true rfl)) dX8_addInversion_4 ⟨Nat.zero_le _, Nat.zero_le _⟩) ?_
  refine W.eq (g2 := F0 m 7 ls [.int r1]) rfl ?_
  refine lv_istore_n (lv' := [(3, .int r1), (0, .ref (G 0 100)), (1, .ref (ca ki)), (2, .int x2)]) hx hb dX8_addInversion_7 rfl hl (by decide) rfl (fun ls hl => ?_)
  refine lv_aload_n hx hb dX8_addInversion_8 rfl (lv_at hl 2 rfl) ?_
  obtain ⟨r3, hc4, hf⟩ := of_bind_some hf
  refine W.callR (r := r3) (W.runV (As := []) (rest := []) ⟨hx, hb, hml, hown, hts⟩ (mX1_degreeOfBass l en dC dI cI (fun _ => ca ki) (ck ki)  r3 hc4) (cwV 0 hts gX8_addInversion_X1_degreeOfBass rfl rfl rfl (by decide +kernel) ⟨Nat.le_of_ble_eq_true rfl, Nat.le_of_ble_eq_true rfl⟩) ⟨blindRE, va_recv hK (wC_k hP hki) (ci := 0) (q0 := 0) rfl rfl, fun U hU hW => ⟨rfl, by rw [hU]; exact wC_k hP hki, va_K.moved hW.alike (hK.sub [0] rfl), cE_read hE hS hW hU⟩⟩ rfl rfl hl.1 rfl (lv_room (Nat.le_of_ble_eq_true rfl)) dX8_addInversion_9 ⟨Nat.zero_le _, Nat.zero_le _⟩) ?_
  refine W.eq (g2 := F0 m 12 ls [.int r3]) rfl ?_
  refine lv_istore (lv' := [(4, .int r3), (3, .int r1), (0, .ref (G 0 100)), (1, .ref (ca ki)), (2, .int x2)]) hx hb dX8_addInversion_12 hl (by decide) rfl (fun ls hl => ?_)
  refine lv_iload hx hb dX8_addInversion_14 (lv_at hl 0 rfl) ?_
  refine lv_iconst (v := (1 : Int32)) hx hb dX8_addInversion_16 (by decide) ?_
  refine lv_icmp_eq (tgt := 39) hx hb dX8_addInversion_17 (by decide) (fun c5 => ?_) (fun c5 => ?_)
  · have hf := (if_pos c5).symm.trans hf
    refine lv_aload_n hx hb dX8_addInversion_39 rfl (lv_at hl 2 rfl) ?_
    refine va_get (D := (dC, dI)) (ci := 5) (v := .ref (G 4 100)) (C := RX8) (T := TX8) (N := 6) hx hb hts hinX8 hown hK hP 0 rfl rfl 4 (by decide) hk39 (fun _ h9 => h9) rfl dX8_addInversion_40 ?_
    refine lv_iload_n hx hb dX8_addInversion_43 rfl (lv_at hl 1 rfl) ?_
    refine lv_if_eq (tgt := 52) hx hb dX8_addInversion_44 (by decide) (fun c6 => ?_) (fun c6 => ?_)
    · have hf := (if_pos c6).symm.trans hf
      refine va_ldcS hx hb hown (hE.2.1 3 (by decide)).2 dX8_addInversion_52 ?_
      refine lv_iload hx hb dX8_addInversion_54 (lv_at hl 0 rfl) ?_
      refine lv_iconst (v := (2 : Int32)) hx hb dX8_addInversion_56 (by decide) ?_
      refine lv_idiv hx hb dX8_addInversion_57 (by decide) ?_
      refine lv_iconst (v := (0 : Int32)) hx hb dX8_addInversion_58 (by decide) ?_
      obtain ⟨⟨I8, A9⟩, hc7, hf⟩ := of_bind_some hf
      have hPs := Eq.mp (congrArg (fun w => va_P (dC, dI) vwCl w s.heap) (wC_s_text cI cC G ca nC ck J E L)) hP
      have hDs := Eq.mp (congrArg (fun w => va_D AA w) (wC_s_text cI cC G ca nC ck J E L)) hD
      have hF10 := va_freeMid hDs hS hA
      refine va_callv (va_runV (As := [.ref (en (100 + 3)), .int (r3 / (2 : Int32)), .int (0 : Int32)]) (rest := []) ⟨hx, hb, hml, hown, hts⟩ (mX6_addWord l en dC dI cI (G 4) (J 4) (E 4) 3 (by decide) (r3 / (2 : Int32)) (0 : Int32) s.heap.size _ hc7) (cwV 3 hts gX8_addInversion_X6_addWord rfl rfl rfl (by decide +kernel) ⟨Nat.le_of_ble_eq_true rfl, Nat.le_of_ble_eq_true rfl⟩) ⟨blindWE, va_recv hK hPs.mid (ci := 3) (q0 := 0) rfl rfl, fun U hU hW => ⟨rfl, by rw [hU], by rw [hU]; exact hPs.mid, va_K.moved hW.alike (hK.sub [0] rfl), hDs.mid.weaken (fun _ _ _ _ => trivial), cE_sub hE hS hW hU hF10⟩⟩ rfl rfl hl.1 rfl (lv_room (Nat.le_of_ble_eq_true rfl)) dX8_addInversion_59 ⟨Nat.zero_le _, Nat.zero_le _⟩) hS (fun q _ h => hF10 q h) hF10 (fun u t H locs ht hvm hw hB hz1 hk1 hS => ?_)
      cases hw
      obtain ⟨hP1, hK9, hD1⟩ := hB
      rw [ht] at hP1
      obtain ⟨hP, hD⟩ := va_joinMid hPs hDs hk1 hF10 hP1 hD1
      have hP : va_P (dC, dI) vwCl (wC cI cC G ca nC ck (va_up J 4 I8) (va_up E 4 A9) L) H := Eq.mp (congrArg (fun w => va_P (dC, dI) vwCl w H) (wC_j_text cI cC G ca nC ck J E L I8 A9)) hP
      have hD : va_D AA (wC cI cC G ca nC ck (va_up J 4 I8) (va_up E 4 A9) L) := Eq.mp (congrArg (fun w => va_D AA w) (wC_j_text cI cC G ca nC ck J E L I8 A9)) hD
      exact W.vret hx hb hr (fun t ht hW => ⟨⟨((va_up J 4 I8), (va_up E 4 A9), L), rfl, Option.some.inj hf, by rw [ht]; exact hP, va_K.moved hW.alike hK, hD⟩, hS.F ht⟩) hS.2.2 dX8_addInversion_62
    · have hf := (if_neg c6).symm.trans hf
      refine va_ldcS hx hb hown (hE.2.1 2 (by decide)).2 dX8_addInversion_47 ?_
      refine lv_goto (tgt := 54) hx hb dX8_addInversion_49 (by decide) ?_
      refine lv_iload hx hb dX8_addInversion_54 (lv_at hl 0 rfl) ?_
      refine lv_iconst (v := (2 : Int32)) hx hb dX8_addInversion_56 (by decide) ?_
      refine lv_idiv hx hb dX8_addInversion_57 (by decide) ?_
      refine lv_iconst (v := (0 : Int32)) hx hb dX8_addInversion_58 (by decide) ?_
      obtain ⟨⟨I12, A13⟩, hc11, hf⟩ := of_bind_some hf
      have hPs := Eq.mp (congrArg (fun w => va_P (dC, dI) vwCl w s.heap) (wC_s_text cI cC G ca nC ck J E L)) hP
      have hDs := Eq.mp (congrArg (fun w => va_D AA w) (wC_s_text cI cC G ca nC ck J E L)) hD
      have hF14 := va_freeMid hDs hS hA
      refine va_callv (va_runV (As := [.ref (en (100 + 2)), .int (r3 / (2 : Int32)), .int (0 : Int32)]) (rest := []) ⟨hx, hb, hml, hown, hts⟩ (mX6_addWord l en dC dI cI (G 4) (J 4) (E 4) 2 (by decide) (r3 / (2 : Int32)) (0 : Int32) s.heap.size _ hc11) (cwV 3 hts gX8_addInversion_X6_addWord rfl rfl rfl (by decide +kernel) ⟨Nat.le_of_ble_eq_true rfl, Nat.le_of_ble_eq_true rfl⟩) ⟨blindWE, va_recv hK hPs.mid (ci := 3) (q0 := 0) rfl rfl, fun U hU hW => ⟨rfl, by rw [hU], by rw [hU]; exact hPs.mid, va_K.moved hW.alike (hK.sub [0] rfl), hDs.mid.weaken (fun _ _ _ _ => trivial), cE_sub hE hS hW hU hF14⟩⟩ rfl rfl hl.1 rfl (lv_room (Nat.le_of_ble_eq_true rfl)) dX8_addInversion_59 ⟨Nat.zero_le _, Nat.zero_le _⟩) hS (fun q _ h => hF14 q h) hF14 (fun u t H locs ht hvm hw hB hz1 hk1 hS => ?_)
      cases hw
      obtain ⟨hP1, hK9, hD1⟩ := hB
      rw [ht] at hP1
      obtain ⟨hP, hD⟩ := va_joinMid hPs hDs hk1 hF14 hP1 hD1
      have hP : va_P (dC, dI) vwCl (wC cI cC G ca nC ck (va_up J 4 I12) (va_up E 4 A13) L) H := Eq.mp (congrArg (fun w => va_P (dC, dI) vwCl w H) (wC_j_text cI cC G ca nC ck J E L I12 A13)) hP
      have hD : va_D AA (wC cI cC G ca nC ck (va_up J 4 I12) (va_up E 4 A13) L) := Eq.mp (congrArg (fun w => va_D AA w) (wC_j_text cI cC G ca nC ck J E L I12 A13)) hD
      exact W.vret hx hb hr (fun t ht hW => ⟨⟨((va_up J 4 I12), (va_up E 4 A13), L), rfl, Option.some.inj hf, by rw [ht]; exact hP, va_K.moved hW.alike hK, hD⟩, hS.F ht⟩) hS.2.2 dX8_addInversion_62
  · have hf := (if_neg c5).symm.trans hf
    refine lv_iload hx hb dX8_addInversion_20 (lv_at hl 0 rfl) ?_
    refine lv_iconst (v := (3 : Int32)) hx hb dX8_addInversion_22 (by decide) ?_
    refine lv_icmp_eq (tgt := 39) hx hb dX8_addInversion_23 (by decide) (fun c15 => ?_) (fun c15 => ?_)
    · have hf := (if_pos c15).symm.trans hf
      refine lv_aload_n hx hb dX8_addInversion_39 rfl (lv_at hl 2 rfl) ?_
      refine va_get (D := (dC, dI)) (ci := 5) (v := .ref (G 4 100)) (C := RX8) (T := TX8) (N := 6) hx hb hts hinX8 hown hK hP 0 rfl rfl 4 (by decide) hk39 (fun _ h9 => h9) rfl dX8_addInversion_40 ?_
      refine lv_iload_n hx hb dX8_addInversion_43 rfl (lv_at hl 1 rfl) ?_
      refine lv_if_eq (tgt := 52) hx hb dX8_addInversion_44 (by decide) (fun c16 => ?_) (fun c16 => ?_)
      · have hf := (if_pos c16).symm.trans hf
        refine va_ldcS hx hb hown (hE.2.1 3 (by decide)).2 dX8_addInversion_52 ?_
        refine lv_iload hx hb dX8_addInversion_54 (lv_at hl 0 rfl) ?_
        refine lv_iconst (v := (2 : Int32)) hx hb dX8_addInversion_56 (by decide) ?_
        refine lv_idiv hx hb dX8_addInversion_57 (by decide) ?_
        refine lv_iconst (v := (0 : Int32)) hx hb dX8_addInversion_58 (by decide) ?_
        obtain ⟨⟨I18, A19⟩, hc17, hf⟩ := of_bind_some hf
        have hPs := Eq.mp (congrArg (fun w => va_P (dC, dI) vwCl w s.heap) (wC_s_text cI cC G ca nC ck J E L)) hP
        have hDs := Eq.mp (congrArg (fun w => va_D AA w) (wC_s_text cI cC G ca nC ck J E L)) hD
        have hF20 := va_freeMid hDs hS hA
        refine va_callv (va_runV (As := [.ref (en (100 + 3)), .int (r3 / (2 : Int32)), .int (0 : Int32)]) (rest := []) ⟨hx, hb, hml, hown, hts⟩ (mX6_addWord l en dC dI cI (G 4) (J 4) (E 4) 3 (by decide) (r3 / (2 : Int32)) (0 : Int32) s.heap.size _ hc17) (cwV 3 hts gX8_addInversion_X6_addWord rfl rfl rfl (by decide +kernel) ⟨Nat.le_of_ble_eq_true rfl, Nat.le_of_ble_eq_true rfl⟩) ⟨blindWE, va_recv hK hPs.mid (ci := 3) (q0 := 0) rfl rfl, fun U hU hW => ⟨rfl, by rw [hU], by rw [hU]; exact hPs.mid, va_K.moved hW.alike (hK.sub [0] rfl), hDs.mid.weaken (fun _ _ _ _ => trivial), cE_sub hE hS hW hU hF20⟩⟩ rfl rfl hl.1 rfl (lv_room (Nat.le_of_ble_eq_true rfl)) dX8_addInversion_59 ⟨Nat.zero_le _, Nat.zero_le _⟩) hS (fun q _ h => hF20 q h) hF20 (fun u t H locs ht hvm hw hB hz1 hk1 hS => ?_)
        cases hw
        obtain ⟨hP1, hK9, hD1⟩ := hB
        rw [ht] at hP1
        obtain ⟨hP, hD⟩ := va_joinMid hPs hDs hk1 hF20 hP1 hD1
        have hP : va_P (dC, dI) vwCl (wC cI cC G ca nC ck (va_up J 4 I18) (va_up E 4 A19) L) H := Eq.mp (congrArg (fun w => va_P (dC, dI) vwCl w H) (wC_j_text cI cC G ca nC ck J E L I18 A19)) hP
        have hD : va_D AA (wC cI cC G ca nC ck (va_up J 4 I18) (va_up E 4 A19) L) := Eq.mp (congrArg (fun w => va_D AA w) (wC_j_text cI cC G ca nC ck J E L I18 A19)) hD
        exact W.vret hx hb hr (fun t ht hW => ⟨⟨((va_up J 4 I18), (va_up E 4 A19), L), rfl, Option.some.inj hf, by rw [ht]; exact hP, va_K.moved hW.alike hK, hD⟩, hS.F ht⟩) hS.2.2 dX8_addInversion_62
      · have hf := (if_neg c16).symm.trans hf
        refine va_ldcS hx hb hown (hE.2.1 2 (by decide)).2 dX8_addInversion_47 ?_
        refine lv_goto (tgt := 54) hx hb dX8_addInversion_49 (by decide) ?_
        refine lv_iload hx hb dX8_addInversion_54 (lv_at hl 0 rfl) ?_
        refine lv_iconst (v := (2 : Int32)) hx hb dX8_addInversion_56 (by decide) ?_
        refine lv_idiv hx hb dX8_addInversion_57 (by decide) ?_
        refine lv_iconst (v := (0 : Int32)) hx hb dX8_addInversion_58 (by decide) ?_
        obtain ⟨⟨I22, A23⟩, hc21, hf⟩ := of_bind_some hf
        have hPs := Eq.mp (congrArg (fun w => va_P (dC, dI) vwCl w s.heap) (wC_s_text cI cC G ca nC ck J E L)) hP
        have hDs := Eq.mp (congrArg (fun w => va_D AA w) (wC_s_text cI cC G ca nC ck J E L)) hD
        have hF24 := va_freeMid hDs hS hA
        refine va_callv (va_runV (As := [.ref (en (100 + 2)), .int (r3 / (2 : Int32)), .int (0 : Int32)]) (rest := []) ⟨hx, hb, hml, hown, hts⟩ (mX6_addWord l en dC dI cI (G 4) (J 4) (E 4) 2 (by decide) (r3 / (2 : Int32)) (0 : Int32) s.heap.size _ hc21) (cwV 3 hts gX8_addInversion_X6_addWord rfl rfl rfl (by decide +kernel) ⟨Nat.le_of_ble_eq_true rfl, Nat.le_of_ble_eq_true rfl⟩) ⟨blindWE, va_recv hK hPs.mid (ci := 3) (q0 := 0) rfl rfl, fun U hU hW => ⟨rfl, by rw [hU], by rw [hU]; exact hPs.mid, va_K.moved hW.alike (hK.sub [0] rfl), hDs.mid.weaken (fun _ _ _ _ => trivial), cE_sub hE hS hW hU hF24⟩⟩ rfl rfl hl.1 rfl (lv_room (Nat.le_of_ble_eq_true rfl)) dX8_addInversion_59 ⟨Nat.zero_le _, Nat.zero_le _⟩) hS (fun q _ h => hF24 q h) hF24 (fun u t H locs ht hvm hw hB hz1 hk1 hS => ?_)
        cases hw
        obtain ⟨hP1, hK9, hD1⟩ := hB
        rw [ht] at hP1
        obtain ⟨hP, hD⟩ := va_joinMid hPs hDs hk1 hF24 hP1 hD1
        have hP : va_P (dC, dI) vwCl (wC cI cC G ca nC ck (va_up J 4 I22) (va_up E 4 A23) L) H := Eq.mp (congrArg (fun w => va_P (dC, dI) vwCl w H) (wC_j_text cI cC G ca nC ck J E L I22 A23)) hP
        have hD : va_D AA (wC cI cC G ca nC ck (va_up J 4 I22) (va_up E 4 A23) L) := Eq.mp (congrArg (fun w => va_D AA w) (wC_j_text cI cC G ca nC ck J E L I22 A23)) hD
        exact W.vret hx hb hr (fun t ht hW => ⟨⟨((va_up J 4 I22), (va_up E 4 A23), L), rfl, Option.some.inj hf, by rw [ht]; exact hP, va_K.moved hW.alike hK, hD⟩, hS.F ht⟩) hS.2.2 dX8_addInversion_62
    · have hf := (if_neg c15).symm.trans hf
      refine lv_iload hx hb dX8_addInversion_26 (lv_at hl 0 rfl) ?_
      refine lv_iconst (v := (5 : Int32)) hx hb dX8_addInversion_28 (by decide) ?_
      refine lv_icmp_eq (tgt := 39) hx hb dX8_addInversion_29 (by decide) (fun c25 => ?_) (fun c25 => ?_)
      · have hf := (if_pos c25).symm.trans hf
        refine lv_aload_n hx hb dX8_addInversion_39 rfl (lv_at hl 2 rfl) ?_
        refine va_get (D := (dC, dI)) (ci := 5) (v := .ref (G 4 100)) (C := RX8) (T := TX8) (N := 6) hx hb hts hinX8 hown hK hP 0 rfl rfl 4 (by decide) hk39 (fun _ h9 => h9) rfl dX8_addInversion_40 ?_
        refine lv_iload_n hx hb dX8_addInversion_43 rfl (lv_at hl 1 rfl) ?_
        refine lv_if_eq (tgt := 52) hx hb dX8_addInversion_44 (by decide) (fun c26 => ?_) (fun c26 => ?_)
        · have hf := (if_pos c26).symm.trans hf
          refine va_ldcS hx hb hown (hE.2.1 3 (by decide)).2 dX8_addInversion_52 ?_
          refine lv_iload hx hb dX8_addInversion_54 (lv_at hl 0 rfl) ?_
          refine lv_iconst (v := (2 : Int32)) hx hb dX8_addInversion_56 (by decide) ?_
          refine lv_idiv hx hb dX8_addInversion_57 (by decide) ?_
          refine lv_iconst (v := (0 : Int32)) hx hb dX8_addInversion_58 (by decide) ?_
          obtain ⟨⟨I28, A29⟩, hc27, hf⟩ := of_bind_some hf
          have hPs := Eq.mp (congrArg (fun w => va_P (dC, dI) vwCl w s.heap) (wC_s_text cI cC G ca nC ck J E L)) hP
          have hDs := Eq.mp (congrArg (fun w => va_D AA w) (wC_s_text cI cC G ca nC ck J E L)) hD
          have hF30 := va_freeMid hDs hS hA
          refine va_callv (va_runV (As := [.ref (en (100 + 3)), .int (r3 / (2 : Int32)), .int (0 : Int32)]) (rest := []) ⟨hx, hb, hml, hown, hts⟩ (mX6_addWord l en dC dI cI (G 4) (J 4) (E 4) 3 (by decide) (r3 / (2 : Int32)) (0 : Int32) s.heap.size _ hc27) (cwV 3 hts gX8_addInversion_X6_addWord rfl rfl rfl (by decide +kernel) ⟨Nat.le_of_ble_eq_true rfl, Nat.le_of_ble_eq_true rfl⟩) ⟨blindWE, va_recv hK hPs.mid (ci := 3) (q0 := 0) rfl rfl, fun U hU hW => ⟨rfl, by rw [hU], by rw [hU]; exact hPs.mid, va_K.moved hW.alike (hK.sub [0] rfl), hDs.mid.weaken (fun _ _ _ _ => trivial), cE_sub hE hS hW hU hF30⟩⟩ rfl rfl hl.1 rfl (lv_room (Nat.le_of_ble_eq_true rfl)) dX8_addInversion_59 ⟨Nat.zero_le _, Nat.zero_le _⟩) hS (fun q _ h => hF30 q h) hF30 (fun u t H locs ht hvm hw hB hz1 hk1 hS => ?_)
          cases hw
          obtain ⟨hP1, hK9, hD1⟩ := hB
          rw [ht] at hP1
          obtain ⟨hP, hD⟩ := va_joinMid hPs hDs hk1 hF30 hP1 hD1
          have hP : va_P (dC, dI) vwCl (wC cI cC G ca nC ck (va_up J 4 I28) (va_up E 4 A29) L) H := Eq.mp (congrArg (fun w => va_P (dC, dI) vwCl w H) (wC_j_text cI cC G ca nC ck J E L I28 A29)) hP
          have hD : va_D AA (wC cI cC G ca nC ck (va_up J 4 I28) (va_up E 4 A29) L) := Eq.mp (congrArg (fun w => va_D AA w) (wC_j_text cI cC G ca nC ck J E L I28 A29)) hD
          exact W.vret hx hb hr (fun t ht hW => ⟨⟨((va_up J 4 I28), (va_up E 4 A29), L), rfl, Option.some.inj hf, by rw [ht]; exact hP, va_K.moved hW.alike hK, hD⟩, hS.F ht⟩) hS.2.2 dX8_addInversion_62
        · have hf := (if_neg c26).symm.trans hf
          refine va_ldcS hx hb hown (hE.2.1 2 (by decide)).2 dX8_addInversion_47 ?_
          refine lv_goto (tgt := 54) hx hb dX8_addInversion_49 (by decide) ?_
          refine lv_iload hx hb dX8_addInversion_54 (lv_at hl 0 rfl) ?_
          refine lv_iconst (v := (2 : Int32)) hx hb dX8_addInversion_56 (by decide) ?_
          refine lv_idiv hx hb dX8_addInversion_57 (by decide) ?_
          refine lv_iconst (v := (0 : Int32)) hx hb dX8_addInversion_58 (by decide) ?_
          obtain ⟨⟨I32, A33⟩, hc31, hf⟩ := of_bind_some hf
          have hPs := Eq.mp (congrArg (fun w => va_P (dC, dI) vwCl w s.heap) (wC_s_text cI cC G ca nC ck J E L)) hP
          have hDs := Eq.mp (congrArg (fun w => va_D AA w) (wC_s_text cI cC G ca nC ck J E L)) hD
          have hF34 := va_freeMid hDs hS hA
          refine va_callv (va_runV (As := [.ref (en (100 + 2)), .int (r3 / (2 : Int32)), .int (0 : Int32)]) (rest := []) ⟨hx, hb, hml, hown, hts⟩ (mX6_addWord l en dC dI cI (G 4) (J 4) (E 4) 2 (by decide) (r3 / (2 : Int32)) (0 : Int32) s.heap.size _ hc31) (cwV 3 hts gX8_addInversion_X6_addWord rfl rfl rfl (by decide +kernel) ⟨Nat.le_of_ble_eq_true rfl, Nat.le_of_ble_eq_true rfl⟩) ⟨blindWE, va_recv hK hPs.mid (ci := 3) (q0 := 0) rfl rfl, fun U hU hW => ⟨rfl, by rw [hU], by rw [hU]; exact hPs.mid, va_K.moved hW.alike (hK.sub [0] rfl), hDs.mid.weaken (fun _ _ _ _ => trivial), cE_sub hE hS hW hU hF34⟩⟩ rfl rfl hl.1 rfl (lv_room (Nat.le_of_ble_eq_true rfl)) dX8_addInversion_59 ⟨Nat.zero_le _, Nat.zero_le _⟩) hS (fun q _ h => hF34 q h) hF34 (fun u t H locs ht hvm hw hB hz1 hk1 hS => ?_)
          cases hw
          obtain ⟨hP1, hK9, hD1⟩ := hB
          rw [ht] at hP1
          obtain ⟨hP, hD⟩ := va_joinMid hPs hDs hk1 hF34 hP1 hD1
          have hP : va_P (dC, dI) vwCl (wC cI cC G ca nC ck (va_up J 4 I32) (va_up E 4 A33) L) H := Eq.mp (congrArg (fun w => va_P (dC, dI) vwCl w H) (wC_j_text cI cC G ca nC ck J E L I32 A33)) hP
          have hD : va_D AA (wC cI cC G ca nC ck (va_up J 4 I32) (va_up E 4 A33) L) := Eq.mp (congrArg (fun w => va_D AA w) (wC_j_text cI cC G ca nC ck J E L I32 A33)) hD
          exact W.vret hx hb hr (fun t ht hW => ⟨⟨((va_up J 4 I32), (va_up E 4 A33), L), rfl, Option.some.inj hf, by rw [ht]; exact hP, va_K.moved hW.alike hK, hD⟩, hS.F ht⟩) hS.2.2 dX8_addInversion_62
      · have hf := (if_neg c25).symm.trans hf
        refine lv_iload hx hb dX8_addInversion_32 (lv_at hl 0 rfl) ?_
        refine lv_bipush (v := (7 : Int32)) hx hb dX8_addInversion_34 (by decide) ?_
        refine lv_icmp_ne (tgt := 63) hx hb dX8_addInversion_36 (by decide) (fun c35 => ?_) (fun c35 => ?_)
        · have hf := (if_neg c35).symm.trans hf
          refine lv_iload_n hx hb dX8_addInversion_63 rfl (lv_at hl 1 rfl) ?_
          refine lv_if_eq (tgt := 76) hx hb dX8_addInversion_64 (by decide) (fun c36 => ?_) (fun c36 => ?_)
          · have hf := (if_pos c36).symm.trans hf
            refine lv_aload_n hx hb dX8_addInversion_76 rfl (lv_at hl 2 rfl) ?_
            refine va_get (D := (dC, dI)) (ci := 5) (v := .ref (G 4 100)) (C := RX8) (T := TX8) (N := 6) hx hb hts hinX8 hown hK hP 0 rfl rfl 4 (by decide) hk39 (fun _ h9 => h9) rfl dX8_addInversion_77 ?_
            refine lv_bipush (v := (47 : Int32)) hx hb dX8_addInversion_80 (by decide) ?_
            obtain ⟨⟨I38, A39⟩, hc37, hf⟩ := of_bind_some hf
            have hPs := Eq.mp (congrArg (fun w => va_P (dC, dI) vwCl w s.heap) (wC_s_text cI cC G ca nC ck J E L)) hP
            have hDs := Eq.mp (congrArg (fun w => va_D AA w) (wC_s_text cI cC G ca nC ck J E L)) hD
            have hF40 := va_freeMid hDs hS hA
            refine va_callv (va_runV (As := [.int (47 : Int32)]) (rest := []) ⟨hx, hb, hml, hown, hts⟩ (mX6_add l dC dI cI (G 4) (J 4) (E 4) (47 : Int32) s.heap.size _ hc37) (cwV 1 hts gX8_addInversion_X6_add rfl rfl rfl (by decide +kernel) ⟨Nat.le_of_ble_eq_true rfl, Nat.le_of_ble_eq_true rfl⟩) ⟨blindW, va_recv hK hPs.mid (ci := 3) (q0 := 0) rfl rfl, fun U hU hW => ⟨rfl, by rw [hU], by rw [hU]; exact hPs.mid, va_K.moved hW.alike (hK.sub [0] rfl), hDs.mid.weaken (fun _ _ _ _ => trivial)⟩⟩ rfl rfl hl.1 rfl (lv_room (Nat.le_of_ble_eq_true rfl)) dX8_addInversion_82 ⟨Nat.zero_le _, Nat.zero_le _⟩) hS (fun q _ h => hF40 q h) hF40 (fun u t H locs ht hvm hw hB hz1 hk1 hS => ?_)
            cases hw
            obtain ⟨hP1, hK9, hD1⟩ := hB
            rw [ht] at hP1
            obtain ⟨hP, hD⟩ := va_joinMid hPs hDs hk1 hF40 hP1 hD1
            have hP : va_P (dC, dI) vwCl (wC cI cC G ca nC ck (va_up J 4 I38) (va_up E 4 A39) L) H := Eq.mp (congrArg (fun w => va_P (dC, dI) vwCl w H) (wC_j_text cI cC G ca nC ck J E L I38 A39)) hP
            have hD : va_D AA (wC cI cC G ca nC ck (va_up J 4 I38) (va_up E 4 A39) L) := Eq.mp (congrArg (fun w => va_D AA w) (wC_j_text cI cC G ca nC ck J E L I38 A39)) hD
            refine lv_aload_n hx hb dX8_addInversion_85 rfl (lv_at hl 2 rfl) ?_
            refine lv_aload_n hx hb dX8_addInversion_86 rfl (lv_at hl 3 rfl) ?_
            refine va_get (D := (dC, dI)) (ci := 0) (v := .int (ck ki 2)) (C := RX1) (T := TX1) (N := 4) hx hb hts hinX1 hown hK (wC_k hP hki) 0 rfl rfl 2 (by decide) hk75 (fun _ h9 => h9) rfl dX8_addInversion_87 ?_
            obtain ⟨r41, hc42, hf⟩ := of_bind_some hf
            refine W.callR (r := r41) (W.runS (As := [.int (ck ki 2)]) (rest := [.ref (G 0 100)]) ⟨hx, hb, hml, hown, hts⟩ (mX3_pitch l en (ck ki 2) r41 hc42) (va_cwS 1 hts gX8_addInversion_X3_pitch rfl rfl rfl (by decide +kernel) ⟨Nat.le_of_ble_eq_true rfl, Nat.le_of_ble_eq_true rfl⟩) ⟨blindS, fun U hU hW => ⟨rfl, cE_read hE hS hW hU⟩⟩ rfl rfl hl.1 rfl (lv_room (Nat.le_of_ble_eq_true rfl)) dX8_addInversion_90 ⟨Nat.zero_le _, Nat.zero_le _⟩) ?_
            refine W.eq (g2 := F0 m 93 ls [.int r41, .ref (G 0 100)]) rfl ?_
            refine lv_iload_n hx hb dX8_addInversion_93 rfl (lv_at hl 4 rfl) ?_
            refine lv_isub hx hb dX8_addInversion_94 ?_
            refine lv_iconst (v := (0 : Int32)) hx hb dX8_addInversion_95 (by decide) ?_
            obtain ⟨⟨J44, E45, L46⟩, hc43, hf⟩ := of_bind_some hf
            have hF47 := va_freeAll hD hS hA
            refine va_callv (va_runV (As := [.int (r41 - x2), .int (0 : Int32)]) (rest := []) ⟨hx, hb, hml, hown, hts⟩ (mX8_addNumeral l en dC dI cI cC G ca nC ck (va_up J 4 I38) (va_up E 4 A39) L (r41 - x2) (0 : Int32) H.size _ hc43) (cwV 2 hts gX8_addInversion_X8_addNumeral rfl rfl rfl (by decide +kernel) ⟨Nat.le_of_ble_eq_true rfl, Nat.le_of_ble_eq_true rfl⟩) ⟨blindWE, va_recv hK hP (ci := 5) (q0 := 0) rfl rfl, fun U hU hW => ⟨rfl, by rw [hU], by rw [hU]; exact hP, va_K.moved hW.alike hK, hD.weaken (fun _ _ _ _ => trivial), cE_sub hE hS hW hU hF47⟩⟩ rfl rfl hl.1 rfl (lv_room (Nat.le_of_ble_eq_true rfl)) dX8_addInversion_96 ⟨Nat.zero_le _, Nat.zero_le _⟩) hS (fun q _ h => hF47 q h) hF47 (fun u t H locs ht hvm hw hB hz1 hk1 hS => ?_)
            cases hw
            obtain ⟨hP, hK9, hD⟩ := hB
            rw [ht] at hP
            have hP : va_P (dC, dI) vwCl (wC cI cC G ca nC ck J44 E45 L46) H := hP
            have hD : va_D AA (wC cI cC G ca nC ck J44 E45 L46) := hD.weaken (fun _ _ _ h => hF47 _ h)
            exact W.vret hx hb hr (fun t ht hW => ⟨⟨(J44, E45, L46), rfl, Option.some.inj hf, by rw [ht]; exact hP, va_K.moved hW.alike hK, hD⟩, hS.F ht⟩) hS.2.2 dX8_addInversion_99
          · have hf := (if_neg c36).symm.trans hf
            refine lv_aload_n hx hb dX8_addInversion_67 rfl (lv_at hl 2 rfl) ?_
            refine va_get (D := (dC, dI)) (ci := 5) (v := .ref (G 4 100)) (C := RX8) (T := TX8) (N := 6) hx hb hts hinX8 hown hK hP 0 rfl rfl 4 (by decide) hk39 (fun _ h9 => h9) rfl dX8_addInversion_68 ?_
            refine lv_bipush (v := (55 : Int32)) hx hb dX8_addInversion_71 (by decide) ?_
            obtain ⟨⟨I49, A50⟩, hc48, hf⟩ := of_bind_some hf
            have hPs := Eq.mp (congrArg (fun w => va_P (dC, dI) vwCl w s.heap) (wC_s_text cI cC G ca nC ck J E L)) hP
            have hDs := Eq.mp (congrArg (fun w => va_D AA w) (wC_s_text cI cC G ca nC ck J E L)) hD
            have hF51 := va_freeMid hDs hS hA
            refine va_callv (va_runV (As := [.int (55 : Int32)]) (rest := []) ⟨hx, hb, hml, hown, hts⟩ (mX6_add l dC dI cI (G 4) (J 4) (E 4) (55 : Int32) s.heap.size _ hc48) (cwV 1 hts gX8_addInversion_X6_add rfl rfl rfl (by decide +kernel) ⟨Nat.le_of_ble_eq_true rfl, Nat.le_of_ble_eq_true rfl⟩) ⟨blindW, va_recv hK hPs.mid (ci := 3) (q0 := 0) rfl rfl, fun U hU hW => ⟨rfl, by rw [hU], by rw [hU]; exact hPs.mid, va_K.moved hW.alike (hK.sub [0] rfl), hDs.mid.weaken (fun _ _ _ _ => trivial)⟩⟩ rfl rfl hl.1 rfl (lv_room (Nat.le_of_ble_eq_true rfl)) dX8_addInversion_73 ⟨Nat.zero_le _, Nat.zero_le _⟩) hS (fun q _ h => hF51 q h) hF51 (fun u t H locs ht hvm hw hB hz1 hk1 hS => ?_)
            cases hw
            obtain ⟨hP1, hK9, hD1⟩ := hB
            rw [ht] at hP1
            obtain ⟨hP, hD⟩ := va_joinMid hPs hDs hk1 hF51 hP1 hD1
            have hP : va_P (dC, dI) vwCl (wC cI cC G ca nC ck (va_up J 4 I49) (va_up E 4 A50) L) H := Eq.mp (congrArg (fun w => va_P (dC, dI) vwCl w H) (wC_j_text cI cC G ca nC ck J E L I49 A50)) hP
            have hD : va_D AA (wC cI cC G ca nC ck (va_up J 4 I49) (va_up E 4 A50) L) := Eq.mp (congrArg (fun w => va_D AA w) (wC_j_text cI cC G ca nC ck J E L I49 A50)) hD
            refine lv_aload_n hx hb dX8_addInversion_76 rfl (lv_at hl 2 rfl) ?_
            refine va_get (D := (dC, dI)) (ci := 5) (v := .ref (G 4 100)) (C := RX8) (T := TX8) (N := 6) hx hb hts hinX8 hown hK hP 0 rfl rfl 4 (by decide) hk39 (fun _ h9 => h9) rfl dX8_addInversion_77 ?_
            refine lv_bipush (v := (47 : Int32)) hx hb dX8_addInversion_80 (by decide) ?_
            obtain ⟨⟨I53, A54⟩, hc52, hf⟩ := of_bind_some hf
            have hPs := Eq.mp (congrArg (fun w => va_P (dC, dI) vwCl w H) (wC_s_text cI cC G ca nC ck (va_up J 4 I49) (va_up E 4 A50) L)) hP
            have hDs := Eq.mp (congrArg (fun w => va_D AA w) (wC_s_text cI cC G ca nC ck (va_up J 4 I49) (va_up E 4 A50) L)) hD
            have hF55 := va_freeMid hDs hS hA
            refine va_callv (va_runV (As := [.int (47 : Int32)]) (rest := []) ⟨hx, hb, hml, hown, hts⟩ (mX6_add l dC dI cI (G 4) I49 A50 (47 : Int32) H.size _ hc52) (cwV 1 hts gX8_addInversion_X6_add rfl rfl rfl (by decide +kernel) ⟨Nat.le_of_ble_eq_true rfl, Nat.le_of_ble_eq_true rfl⟩) ⟨blindW, va_recv hK hPs.mid (ci := 3) (q0 := 0) rfl rfl, fun U hU hW => ⟨rfl, by rw [hU], by rw [hU]; exact hPs.mid, va_K.moved hW.alike (hK.sub [0] rfl), hDs.mid.weaken (fun _ _ _ _ => trivial)⟩⟩ rfl rfl hl.1 rfl (lv_room (Nat.le_of_ble_eq_true rfl)) dX8_addInversion_82 ⟨Nat.zero_le _, Nat.zero_le _⟩) hS (fun q _ h => hF55 q h) hF55 (fun u t H locs ht hvm hw hB hz1 hk1 hS => ?_)
            cases hw
            obtain ⟨hP1, hK9, hD1⟩ := hB
            rw [ht] at hP1
            obtain ⟨hP, hD⟩ := va_joinMid hPs hDs hk1 hF55 hP1 hD1
            have hP : va_P (dC, dI) vwCl (wC cI cC G ca nC ck (va_up (va_up J 4 I49) 4 I53) (va_up (va_up E 4 A50) 4 A54) L) H := Eq.mp (congrArg (fun w => va_P (dC, dI) vwCl w H) (wC_j_text cI cC G ca nC ck (va_up J 4 I49) (va_up E 4 A50) L I53 A54)) hP
            have hD : va_D AA (wC cI cC G ca nC ck (va_up (va_up J 4 I49) 4 I53) (va_up (va_up E 4 A50) 4 A54) L) := Eq.mp (congrArg (fun w => va_D AA w) (wC_j_text cI cC G ca nC ck (va_up J 4 I49) (va_up E 4 A50) L I53 A54)) hD
            have hP : va_P (dC, dI) vwCl (wC cI cC G ca nC ck (va_up J 4 I53) (va_up (va_up E 4 A50) 4 A54) L) H := Eq.mp (congrArg (fun j9 => va_P (dC, dI) vwCl (wC cI cC G ca nC ck j9 (va_up (va_up E 4 A50) 4 A54) L) H) (vupc J 4 I49 I53)) hP
            have hD : va_D AA (wC cI cC G ca nC ck (va_up J 4 I53) (va_up (va_up E 4 A50) 4 A54) L) := Eq.mp (congrArg (fun j9 => va_D AA (wC cI cC G ca nC ck j9 (va_up (va_up E 4 A50) 4 A54) L)) (vupc J 4 I49 I53)) hD
            have hP : va_P (dC, dI) vwCl (wC cI cC G ca nC ck (va_up J 4 I53) (va_up E 4 A54) L) H := Eq.mp (congrArg (fun j9 => va_P (dC, dI) vwCl (wC cI cC G ca nC ck (va_up J 4 I53) j9 L) H) (vupc E 4 A50 A54)) hP
            have hD : va_D AA (wC cI cC G ca nC ck (va_up J 4 I53) (va_up E 4 A54) L) := Eq.mp (congrArg (fun j9 => va_D AA (wC cI cC G ca nC ck (va_up J 4 I53) j9 L)) (vupc E 4 A50 A54)) hD
            refine lv_aload_n hx hb dX8_addInversion_85 rfl (lv_at hl 2 rfl) ?_
            refine lv_aload_n hx hb dX8_addInversion_86 rfl (lv_at hl 3 rfl) ?_
            refine va_get (D := (dC, dI)) (ci := 0) (v := .int (ck ki 2)) (C := RX1) (T := TX1) (N := 4) hx hb hts hinX1 hown hK (wC_k hP hki) 0 rfl rfl 2 (by decide) hk75 (fun _ h9 => h9) rfl dX8_addInversion_87 ?_
            obtain ⟨r56, hc57, hf⟩ := of_bind_some hf
            refine W.callR (r := r56) (W.runS (As := [.int (ck ki 2)]) (rest := [.ref (G 0 100)]) ⟨hx, hb, hml, hown, hts⟩ (mX3_pitch l en (ck ki 2) r56 hc57) (va_cwS 1 hts gX8_addInversion_X3_pitch rfl rfl rfl (by decide +kernel) ⟨Nat.le_of_ble_eq_true rfl, Nat.le_of_ble_eq_true rfl⟩) ⟨blindS, fun U hU hW => ⟨rfl, cE_read hE hS hW hU⟩⟩ rfl rfl hl.1 rfl (lv_room (Nat.le_of_ble_eq_true rfl)) dX8_addInversion_90 ⟨Nat.zero_le _, Nat.zero_le _⟩) ?_
            refine W.eq (g2 := F0 m 93 ls [.int r56, .ref (G 0 100)]) rfl ?_
            refine lv_iload_n hx hb dX8_addInversion_93 rfl (lv_at hl 4 rfl) ?_
            refine lv_isub hx hb dX8_addInversion_94 ?_
            refine lv_iconst (v := (0 : Int32)) hx hb dX8_addInversion_95 (by decide) ?_
            obtain ⟨⟨J59, E60, L61⟩, hc58, hf⟩ := of_bind_some hf
            have hF62 := va_freeAll hD hS hA
            refine va_callv (va_runV (As := [.int (r56 - x2), .int (0 : Int32)]) (rest := []) ⟨hx, hb, hml, hown, hts⟩ (mX8_addNumeral l en dC dI cI cC G ca nC ck (va_up J 4 I53) (va_up E 4 A54) L (r56 - x2) (0 : Int32) H.size _ hc58) (cwV 2 hts gX8_addInversion_X8_addNumeral rfl rfl rfl (by decide +kernel) ⟨Nat.le_of_ble_eq_true rfl, Nat.le_of_ble_eq_true rfl⟩) ⟨blindWE, va_recv hK hP (ci := 5) (q0 := 0) rfl rfl, fun U hU hW => ⟨rfl, by rw [hU], by rw [hU]; exact hP, va_K.moved hW.alike hK, hD.weaken (fun _ _ _ _ => trivial), cE_sub hE hS hW hU hF62⟩⟩ rfl rfl hl.1 rfl (lv_room (Nat.le_of_ble_eq_true rfl)) dX8_addInversion_96 ⟨Nat.zero_le _, Nat.zero_le _⟩) hS (fun q _ h => hF62 q h) hF62 (fun u t H locs ht hvm hw hB hz1 hk1 hS => ?_)
            cases hw
            obtain ⟨hP, hK9, hD⟩ := hB
            rw [ht] at hP
            have hP : va_P (dC, dI) vwCl (wC cI cC G ca nC ck J59 E60 L61) H := hP
            have hD : va_D AA (wC cI cC G ca nC ck J59 E60 L61) := hD.weaken (fun _ _ _ h => hF62 _ h)
            exact W.vret hx hb hr (fun t ht hW => ⟨⟨(J59, E60, L61), rfl, Option.some.inj hf, by rw [ht]; exact hP, va_K.moved hW.alike hK, hD⟩, hS.F ht⟩) hS.2.2 dX8_addInversion_99
        · have hf := (if_pos c35).symm.trans hf
          refine lv_aload_n hx hb dX8_addInversion_39 rfl (lv_at hl 2 rfl) ?_
          refine va_get (D := (dC, dI)) (ci := 5) (v := .ref (G 4 100)) (C := RX8) (T := TX8) (N := 6) hx hb hts hinX8 hown hK hP 0 rfl rfl 4 (by decide) hk39 (fun _ h9 => h9) rfl dX8_addInversion_40 ?_
          refine lv_iload_n hx hb dX8_addInversion_43 rfl (lv_at hl 1 rfl) ?_
          refine lv_if_eq (tgt := 52) hx hb dX8_addInversion_44 (by decide) (fun c63 => ?_) (fun c63 => ?_)
          · have hf := (if_pos c63).symm.trans hf
            refine va_ldcS hx hb hown (hE.2.1 3 (by decide)).2 dX8_addInversion_52 ?_
            refine lv_iload hx hb dX8_addInversion_54 (lv_at hl 0 rfl) ?_
            refine lv_iconst (v := (2 : Int32)) hx hb dX8_addInversion_56 (by decide) ?_
            refine lv_idiv hx hb dX8_addInversion_57 (by decide) ?_
            refine lv_iconst (v := (0 : Int32)) hx hb dX8_addInversion_58 (by decide) ?_
            obtain ⟨⟨I65, A66⟩, hc64, hf⟩ := of_bind_some hf
            have hPs := Eq.mp (congrArg (fun w => va_P (dC, dI) vwCl w s.heap) (wC_s_text cI cC G ca nC ck J E L)) hP
            have hDs := Eq.mp (congrArg (fun w => va_D AA w) (wC_s_text cI cC G ca nC ck J E L)) hD
            have hF67 := va_freeMid hDs hS hA
            refine va_callv (va_runV (As := [.ref (en (100 + 3)), .int (r3 / (2 : Int32)), .int (0 : Int32)]) (rest := []) ⟨hx, hb, hml, hown, hts⟩ (mX6_addWord l en dC dI cI (G 4) (J 4) (E 4) 3 (by decide) (r3 / (2 : Int32)) (0 : Int32) s.heap.size _ hc64) (cwV 3 hts gX8_addInversion_X6_addWord rfl rfl rfl (by decide +kernel) ⟨Nat.le_of_ble_eq_true rfl, Nat.le_of_ble_eq_true rfl⟩) ⟨blindWE, va_recv hK hPs.mid (ci := 3) (q0 := 0) rfl rfl, fun U hU hW => ⟨rfl, by rw [hU], by rw [hU]; exact hPs.mid, va_K.moved hW.alike (hK.sub [0] rfl), hDs.mid.weaken (fun _ _ _ _ => trivial), cE_sub hE hS hW hU hF67⟩⟩ rfl rfl hl.1 rfl (lv_room (Nat.le_of_ble_eq_true rfl)) dX8_addInversion_59 ⟨Nat.zero_le _, Nat.zero_le _⟩) hS (fun q _ h => hF67 q h) hF67 (fun u t H locs ht hvm hw hB hz1 hk1 hS => ?_)
            cases hw
            obtain ⟨hP1, hK9, hD1⟩ := hB
            rw [ht] at hP1
            obtain ⟨hP, hD⟩ := va_joinMid hPs hDs hk1 hF67 hP1 hD1
            have hP : va_P (dC, dI) vwCl (wC cI cC G ca nC ck (va_up J 4 I65) (va_up E 4 A66) L) H := Eq.mp (congrArg (fun w => va_P (dC, dI) vwCl w H) (wC_j_text cI cC G ca nC ck J E L I65 A66)) hP
            have hD : va_D AA (wC cI cC G ca nC ck (va_up J 4 I65) (va_up E 4 A66) L) := Eq.mp (congrArg (fun w => va_D AA w) (wC_j_text cI cC G ca nC ck J E L I65 A66)) hD
            exact W.vret hx hb hr (fun t ht hW => ⟨⟨((va_up J 4 I65), (va_up E 4 A66), L), rfl, Option.some.inj hf, by rw [ht]; exact hP, va_K.moved hW.alike hK, hD⟩, hS.F ht⟩) hS.2.2 dX8_addInversion_62
          · have hf := (if_neg c63).symm.trans hf
            refine va_ldcS hx hb hown (hE.2.1 2 (by decide)).2 dX8_addInversion_47 ?_
            refine lv_goto (tgt := 54) hx hb dX8_addInversion_49 (by decide) ?_
            refine lv_iload hx hb dX8_addInversion_54 (lv_at hl 0 rfl) ?_
            refine lv_iconst (v := (2 : Int32)) hx hb dX8_addInversion_56 (by decide) ?_
            refine lv_idiv hx hb dX8_addInversion_57 (by decide) ?_
            refine lv_iconst (v := (0 : Int32)) hx hb dX8_addInversion_58 (by decide) ?_
            obtain ⟨⟨I69, A70⟩, hc68, hf⟩ := of_bind_some hf
            have hPs := Eq.mp (congrArg (fun w => va_P (dC, dI) vwCl w s.heap) (wC_s_text cI cC G ca nC ck J E L)) hP
            have hDs := Eq.mp (congrArg (fun w => va_D AA w) (wC_s_text cI cC G ca nC ck J E L)) hD
            have hF71 := va_freeMid hDs hS hA
            refine va_callv (va_runV (As := [.ref (en (100 + 2)), .int (r3 / (2 : Int32)), .int (0 : Int32)]) (rest := []) ⟨hx, hb, hml, hown, hts⟩ (mX6_addWord l en dC dI cI (G 4) (J 4) (E 4) 2 (by decide) (r3 / (2 : Int32)) (0 : Int32) s.heap.size _ hc68) (cwV 3 hts gX8_addInversion_X6_addWord rfl rfl rfl (by decide +kernel) ⟨Nat.le_of_ble_eq_true rfl, Nat.le_of_ble_eq_true rfl⟩) ⟨blindWE, va_recv hK hPs.mid (ci := 3) (q0 := 0) rfl rfl, fun U hU hW => ⟨rfl, by rw [hU], by rw [hU]; exact hPs.mid, va_K.moved hW.alike (hK.sub [0] rfl), hDs.mid.weaken (fun _ _ _ _ => trivial), cE_sub hE hS hW hU hF71⟩⟩ rfl rfl hl.1 rfl (lv_room (Nat.le_of_ble_eq_true rfl)) dX8_addInversion_59 ⟨Nat.zero_le _, Nat.zero_le _⟩) hS (fun q _ h => hF71 q h) hF71 (fun u t H locs ht hvm hw hB hz1 hk1 hS => ?_)
            cases hw
            obtain ⟨hP1, hK9, hD1⟩ := hB
            rw [ht] at hP1
            obtain ⟨hP, hD⟩ := va_joinMid hPs hDs hk1 hF71 hP1 hD1
            have hP : va_P (dC, dI) vwCl (wC cI cC G ca nC ck (va_up J 4 I69) (va_up E 4 A70) L) H := Eq.mp (congrArg (fun w => va_P (dC, dI) vwCl w H) (wC_j_text cI cC G ca nC ck J E L I69 A70)) hP
            have hD : va_D AA (wC cI cC G ca nC ck (va_up J 4 I69) (va_up E 4 A70) L) := Eq.mp (congrArg (fun w => va_D AA w) (wC_j_text cI cC G ca nC ck J E L I69 A70)) hD
            exact W.vret hx hb hr (fun t ht hW => ⟨⟨((va_up J 4 I69), (va_up E 4 A70), L), rfl, Option.some.inj hf, by rw [ht]; exact hP, va_K.moved hW.alike hK, hD⟩, hS.F ht⟩) hS.2.2 dX8_addInversion_62
def fX8_figure (nC : Nat) (ck : Nat → Nat → Int32) (J : Nat → Nat → Int32) (E : Nat → Nat → Nat → Int32) (L : Nat → Int64) (x1 : Int32) (x2 : Int32) : Option (Int32 × (Nat → Nat → Int32) × (Nat → Nat → Nat → Int32) × (Nat → Int64)) :=
  (ckAt nC J x1 (if (fX8_isPitch x2) = 0 then (some ((-1 : Int32), (J, E, L))) else ((fX6_clear (J 4) (E 4)).bind fun (I3, A4) => ((fX1_has (ck x1.toNatClampNeg) (4 : Int32)).bind fun r6 => ((fX3_pitch (ck x1.toNatClampNeg 0)).bind fun r8 => ((fX8_addNumeral nC ck (va_up J 4 I3) (va_up E 4 A4) L (r8 - x2) r6).bind fun (J11, E12, L13) => (if r6 = 0 then ((fX1_has (ck x1.toNatClampNeg) (8 : Int32)).bind fun r16 => (if r16 = 0 then ((fX8_addInversion nC ck J11 E12 L13 x1.toNatClampNeg x2).bind fun (J20, E21, L22) => (some (((J20 4) 1), (J20, E21, L22)))) else ((fX1_has (ck x1.toNatClampNeg) (128 : Int32)).bind fun r24 => (if r24 = 0 then ((fX8_addInversion nC ck J11 E12 L13 x1.toNatClampNeg x2).bind fun (J28, E29, L30) => (some (((J28 4) 1), (J28, E29, L30)))) else ((fX6_add (J11 4) (E12 4) (43 : Int32)).bind fun (I33, A34) => ((fX8_addInversion nC ck (va_up J11 4 I33) (va_up E12 4 A34) L13 x1.toNatClampNeg x2).bind fun (J37, E38, L39) => (some (((J37 4) 1), (J37, E38, L39))))))))) else ((fX1_has (ck x1.toNatClampNeg) (32 : Int32)).bind fun r41 => (if r41 = 0 then ((fX1_has (ck x1.toNatClampNeg) (8 : Int32)).bind fun r44 => (if r44 = 0 then ((fX8_addInversion nC ck J11 E12 L13 x1.toNatClampNeg x2).bind fun (J48, E49, L50) => (some (((J48 4) 1), (J48, E49, L50)))) else ((fX1_has (ck x1.toNatClampNeg) (128 : Int32)).bind fun r52 => (if r52 = 0 then ((fX8_addInversion nC ck J11 E12 L13 x1.toNatClampNeg x2).bind fun (J56, E57, L58) => (some (((J56 4) 1), (J56, E57, L58)))) else ((fX6_add (J11 4) (E12 4) (43 : Int32)).bind fun (I61, A62) => ((fX8_addInversion nC ck (va_up J11 4 I61) (va_up E12 4 A62) L13 x1.toNatClampNeg x2).bind fun (J65, E66, L67) => (some (((J65 4) 1), (J65, E66, L67))))))))) else ((fX6_add (J11 4) (E12 4) (111 : Int32)).bind fun (I70, A71) => ((fX1_has (ck x1.toNatClampNeg) (8 : Int32)).bind fun r73 => (if r73 = 0 then ((fX8_addInversion nC ck (va_up J11 4 I70) (va_up E12 4 A71) L13 x1.toNatClampNeg x2).bind fun (J77, E78, L79) => (some (((J77 4) 1), (J77, E78, L79)))) else ((fX1_has (ck x1.toNatClampNeg) (128 : Int32)).bind fun r81 => (if r81 = 0 then ((fX8_addInversion nC ck (va_up J11 4 I70) (va_up E12 4 A71) L13 x1.toNatClampNeg x2).bind fun (J85, E86, L87) => (some (((J85 4) 1), (J85, E86, L87)))) else ((fX6_add I70 A71 (43 : Int32)).bind fun (I90, A91) => ((fX8_addInversion nC ck (va_up J11 4 I90) (va_up E12 4 A91) L13 x1.toNatClampNeg x2).bind fun (J94, E95, L96) => (some (((J94 4) 1), (J94, E95, L96)))))))))))))))))) (some ((-1 : Int32), (J, E, L))))
set_option maxRecDepth 100000 in
set_option maxHeartbeats 4000000 in
theorem mX8_figure (l : Launch) (en : Nat → Nat) (dC : Nat → ClassId) (dI : Nat → Nat → Nat) (cI cC : ClassId) (G : Nat → Nat → Nat) (ca : Nat → Nat) (nC : Nat) (ck : Nat → Nat → Int32) (J : Nat → Nat → Int32) (E : Nat → Nat → Nat → Int32) (L : Nat → Int64) (x1 : Int32) (x2 : Int32) (sz : Nat) (z : Int32 × (Nat → Nat → Int32) × (Nat → Nat → Nat → Int32) × (Nat → Int64)) (hf : fX8_figure nC ck J E L x1 x2 = some z) : Met l yX8_figure wsX8_figure ({ frames := 7, cells := 0, slots := 0, locals := 157 }) (va_Pc [.ref (G 0 100), .int x1, .int x2] (fun U => U.heap.size = sz ∧ va_P (dC, dI) vwCl (wC cI cC G ca nC ck J E L) U.heap ∧ va_K (dC, dI) vwCl (t8 cI cC) U ∧ va_D (fun _ => True) (wC cI cC G ca nC ck J E L) ∧ cE en (va_A (wC cI cC G ca nC ck J E L) sz) U U.heap)) (va_Qi (fun (r : Int32) (u : (Nat → Nat → Int32) × (Nat → Nat → Nat → Int32) × (Nat → Int64)) => (r, u) = z) (at8 dC dI cI cC G ca nC ck (va_A (wC cI cC G ca nC ck J E L) sz)) (va_A (wC cI cC G ca nC ck J E L) sz)) 0 0 (va_A (wC cI cC G ca nC ck J E L) sz) := by
  refine Met.ofW (cc := cX8_figure) (maxL := 5) (ret := (some .int)) (by decide) rfl ?_
  intro p e s m args below meth c s₁ BL hml hv
  obtain ⟨rfl, hsz, hP, hK, hD0, hE⟩ := hv
  have hx := BL.exec
  have hb := BL.bytes
  have hr := BL.returns
  have hts := atoms_spec (ws := wsX8_figure) BL.pre
  have hown : s.vm.findClass RX8 = some m.cls := findClass_of_methodNamed BL.named
  have hlocks := BL.notSynchronized
  have hinX1 : ∀ w ∈ u_ws RX1 TX1 4, w ∈ wsX8_figure := by decide +kernel
  have hinX6 : ∀ w ∈ u_ws RX6 TX6 2, w ∈ wsX8_figure := by decide +kernel
  have hinX8 : ∀ w ∈ u_ws RX8 TX8 6, w ∈ wsX8_figure := by decide +kernel
  have hk39 := hts (.fieldLink RX8 39 "LeadSheets" "text" "LLeadSheets$Text;") (by decide +kernel)
  have hk66 := hts (.fieldLink RX8 66 "LeadSheets$Chord" "root" "I") (by decide +kernel)
  subst hsz
  have hD := hD0.self (sz := s.heap.size)
  generalize hAe : va_A (wC cI cC G ca nC ck J E L) s.heap.size = AA at hD hE ⊢
  have hA : ∀ q : Nat, s.heap.size ≤ q → AA q := fun q h => by rw [← hAe]; exact Or.inr h
  have hS : va_S AA s.heap s.heap [] := va_S.rf
  have hl := lv_entry ([.ref (G 0 100), .int x1, .int x2]) (n := 5) (Nat.le_of_ble_eq_true rfl)
  rw [lg_entry_eq]
  generalize (lg_sl ([.ref (G 0 100), .int x1, .int x2]) ++ List.replicate (5 - (lg_sl ([.ref (G 0 100), .int x1, .int x2])).length) Slot.unset).toArray = ls at hl ⊢
  have hl : lv_has ls 5 [(0, .ref (G 0 100)), (1, .int x1), (2, .int x2)] := hl
  unfold fX8_figure at hf
  refine lv_aload_n hx hb dX8_figure_0 rfl (lv_at hl 0 rfl) ?_
  refine lv_iload_n hx hb dX8_figure_1 rfl (lv_at hl 1 rfl) ?_
  rcases of_ckAt ca hf with ⟨hq, hf⟩ | ⟨hki, hq, hf⟩
  · refine va_csq (W.runV (As := [.int x1]) (rest := []) ⟨hx, hb, hml, hown, hts⟩ (mX8_chordAt l dC dI cI cC G ca nC ck J E L x1 none hq) (cwV 1 hts gX8_figure_X8_chordAt rfl rfl rfl (by decide +kernel) ⟨Nat.le_of_ble_eq_true rfl, Nat.le_of_ble_eq_true rfl⟩) ⟨blindR, va_recv hK hP (ci := 5) (q0 := 0) rfl rfl, fun U hU hW => ⟨rfl, by rw [hU]; exact hP, va_K.moved hW.alike hK⟩⟩ rfl rfl hl.1 rfl (lv_room (Nat.le_of_ble_eq_true rfl)) dX8_figure_2 ⟨Nat.zero_le _, Nat.zero_le _⟩) (fun rq hrq => ?_)
    subst hrq
    refine W.eq (g2 := F0 m 5 ls [.null]) rfl ?_
    refine lv_astore_nN (lv' := [(3, .null), (0, .ref (G 0 100)), (1, .int x1), (2, .int x2)]) hx hb dX8_figure_5 rfl hl (by decide) rfl (fun ls hl => ?_)
    refine lv_aload_nN hx hb dX8_figure_6 rfl (lv_at hl 0 rfl) ?_
    refine lv_ifnullN (tgt := 17) hx hb dX8_figure_7 (by decide) ?_
    refine lv_iconst (v := (-1 : Int32)) hx hb dX8_figure_17 (by decide) ?_
    exact W.iret (v := (-1 : Int32)) hx hb hr (fun t ht hW => ⟨⟨(-1 : Int32), (J, E, L), rfl, Option.some.inj hf, by rw [ht]; exact hP, va_K.moved hW.alike hK, hD⟩, hS.F ht⟩) hS.2.2 dX8_figure_18
  · refine va_csq (W.runV (As := [.int x1]) (rest := []) ⟨hx, hb, hml, hown, hts⟩ (mX8_chordAt l dC dI cI cC G ca nC ck J E L x1 (some (ca x1.toNatClampNeg)) hq) (cwV 1 hts gX8_figure_X8_chordAt rfl rfl rfl (by decide +kernel) ⟨Nat.le_of_ble_eq_true rfl, Nat.le_of_ble_eq_true rfl⟩) ⟨blindR, va_recv hK hP (ci := 5) (q0 := 0) rfl rfl, fun U hU hW => ⟨rfl, by rw [hU]; exact hP, va_K.moved hW.alike hK⟩⟩ rfl rfl hl.1 rfl (lv_room (Nat.le_of_ble_eq_true rfl)) dX8_figure_2 ⟨Nat.zero_le _, Nat.zero_le _⟩) (fun rq hrq => ?_)
    subst hrq
    refine W.eq (g2 := F0 m 5 ls [.ref (ca x1.toNatClampNeg)]) rfl ?_
    refine lv_astore_n (lv' := [(3, .ref (ca x1.toNatClampNeg)), (0, .ref (G 0 100)), (1, .int x1), (2, .int x2)]) hx hb dX8_figure_5 rfl hl (by decide) rfl (fun ls hl => ?_)
    refine lv_aload_n hx hb dX8_figure_6 rfl (lv_at hl 0 rfl) ?_
    refine lv_ifnull hx hb dX8_figure_7 ?_
    refine lv_iload_n hx hb dX8_figure_10 rfl (lv_at hl 3 rfl) ?_
    refine W.callR (r := (fX8_isPitch x2)) (W.runS (As := [.int x2]) (rest := []) ⟨hx, hb, hml, hown, hts⟩ (mX8_isPitch l x2 (fX8_isPitch x2) rfl) (va_cwS 1 hts gX8_figure_X8_isPitch rfl rfl rfl (by decide +kernel) ⟨Nat.le_of_ble_eq_true rfl, Nat.le_of_ble_eq_true rfl⟩) ⟨fun _ _ _ _ q => q, fun U hU hW => ⟨rfl, trivial⟩⟩ rfl rfl hl.1 rfl (lv_room (Nat.le_of_ble_eq_true rfl)) dX8_figure_11 ⟨Nat.zero_le _, Nat.zero_le _⟩) ?_
    refine W.eq (g2 := F0 m 14 ls [.int (fX8_isPitch x2)]) rfl ?_
    refine lv_if_ne (tgt := 19) hx hb dX8_figure_14 (by decide) (fun c1 => ?_) (fun c1 => ?_)
    · have hf := (if_neg c1).symm.trans hf
      refine lv_aload_n hx hb dX8_figure_19 rfl (lv_at hl 1 rfl) ?_
      refine va_get (D := (dC, dI)) (ci := 5) (v := .ref (G 4 100)) (C := RX8) (T := TX8) (N := 6) hx hb hts hinX8 hown hK hP 0 rfl rfl 4 (by decide) hk39 (fun _ h9 => h9) rfl dX8_figure_20 ?_
      obtain ⟨⟨I3, A4⟩, hc2, hf⟩ := of_bind_some hf
      have hPs := Eq.mp (congrArg (fun w => va_P (dC, dI) vwCl w s.heap) (wC_s_text cI cC G ca nC ck J E L)) hP
      have hDs := Eq.mp (congrArg (fun w => va_D AA w) (wC_s_text cI cC G ca nC ck J E L)) hD
      have hF5 := va_freeMid hDs hS hA
      refine va_callv (va_runV (As := []) (rest := []) ⟨hx, hb, hml, hown, hts⟩ (mX6_clear l dC dI cI (G 4) (J 4) (E 4) s.heap.size _ hc2) (cwV 0 hts gX8_figure_X6_clear rfl rfl rfl (by decide +kernel) ⟨Nat.le_of_ble_eq_true rfl, Nat.le_of_ble_eq_true rfl⟩) ⟨blindW, va_recv hK hPs.mid (ci := 3) (q0 := 0) rfl rfl, fun U hU hW => ⟨rfl, by rw [hU], by rw [hU]; exact hPs.mid, va_K.moved hW.alike (hK.sub [0] rfl), hDs.mid.weaken (fun _ _ _ _ => trivial)⟩⟩ rfl rfl hl.1 rfl (lv_room (Nat.le_of_ble_eq_true rfl)) dX8_figure_23 ⟨Nat.zero_le _, Nat.zero_le _⟩) hS (fun q _ h => hF5 q h) hF5 (fun u t H locs ht hvm hw hB hz1 hk1 hS => ?_)
      cases hw
      obtain ⟨hP1, hK9, hD1⟩ := hB
      rw [ht] at hP1
      obtain ⟨hP, hD⟩ := va_joinMid hPs hDs hk1 hF5 hP1 hD1
      have hP : va_P (dC, dI) vwCl (wC cI cC G ca nC ck (va_up J 4 I3) (va_up E 4 A4) L) H := Eq.mp (congrArg (fun w => va_P (dC, dI) vwCl w H) (wC_j_text cI cC G ca nC ck J E L I3 A4)) hP
      have hD : va_D AA (wC cI cC G ca nC ck (va_up J 4 I3) (va_up E 4 A4) L) := Eq.mp (congrArg (fun w => va_D AA w) (wC_j_text cI cC G ca nC ck J E L I3 A4)) hD
      refine lv_aload_n hx hb dX8_figure_26 rfl (lv_at hl 0 rfl) ?_
      refine lv_iconst (v := (4 : Int32)) hx hb dX8_figure_27 (by decide) ?_
      obtain ⟨r6, hc7, hf⟩ := of_bind_some hf
      refine W.callR (r := r6) (W.runV (As := [.int (4 : Int32)]) (rest := []) ⟨hx, hb, hml, hown, hts⟩ (mX1_has l dC dI cI (fun _ => ca x1.toNatClampNeg) (ck x1.toNatClampNeg) (4 : Int32) r6 hc7) (cwV 1 hts gX8_figure_X1_has rfl rfl rfl (by decide +kernel) ⟨Nat.le_of_ble_eq_true rfl, Nat.le_of_ble_eq_true rfl⟩) ⟨blindR, va_recv hK (wC_k hP hki) (ci := 0) (q0 := 0) rfl rfl, fun U hU hW => ⟨rfl, by rw [hU]; exact wC_k hP hki, va_K.moved hW.alike (hK.sub [0] rfl)⟩⟩ rfl rfl hl.1 rfl (lv_room (Nat.le_of_ble_eq_true rfl)) dX8_figure_28 ⟨Nat.zero_le _, Nat.zero_le _⟩) ?_
      refine W.eq (g2 := F0 m 31 ls [.int r6]) rfl ?_
      refine lv_istore (lv' := [(4, .int r6), (3, .ref (ca x1.toNatClampNeg)), (0, .ref (G 0 100)), (1, .int x1), (2, .int x2)]) hx hb dX8_figure_31 hl (by decide) rfl (fun ls hl => ?_)
      refine lv_aload_n hx hb dX8_figure_33 rfl (lv_at hl 2 rfl) ?_
      refine lv_aload_n hx hb dX8_figure_34 rfl (lv_at hl 1 rfl) ?_
      refine va_get (D := (dC, dI)) (ci := 0) (v := .int (ck x1.toNatClampNeg 0)) (C := RX1) (T := TX1) (N := 4) hx hb hts hinX1 hown hK (wC_k hP hki) 0 rfl rfl 0 (by decide) hk66 (fun _ h9 => h9) rfl dX8_figure_35 ?_
      obtain ⟨r8, hc9, hf⟩ := of_bind_some hf
      refine W.callR (r := r8) (W.runS (As := [.int (ck x1.toNatClampNeg 0)]) (rest := [.ref (G 0 100)]) ⟨hx, hb, hml, hown, hts⟩ (mX3_pitch l en (ck x1.toNatClampNeg 0) r8 hc9) (va_cwS 1 hts gX8_figure_X3_pitch rfl rfl rfl (by decide +kernel) ⟨Nat.le_of_ble_eq_true rfl, Nat.le_of_ble_eq_true rfl⟩) ⟨blindS, fun U hU hW => ⟨rfl, cE_read hE hS hW hU⟩⟩ rfl rfl hl.1 rfl (lv_room (Nat.le_of_ble_eq_true rfl)) dX8_figure_38 ⟨Nat.zero_le _, Nat.zero_le _⟩) ?_
      refine W.eq (g2 := F0 m 41 ls [.int r8, .ref (G 0 100)]) rfl ?_
      refine lv_iload_n hx hb dX8_figure_41 rfl (lv_at hl 4 rfl) ?_
      refine lv_isub hx hb dX8_figure_42 ?_
      refine lv_iload hx hb dX8_figure_43 (lv_at hl 0 rfl) ?_
      obtain ⟨⟨J11, E12, L13⟩, hc10, hf⟩ := of_bind_some hf
      have hF14 := va_freeAll hD hS hA
      refine va_callv (va_runV (As := [.int (r8 - x2), .int r6]) (rest := []) ⟨hx, hb, hml, hown, hts⟩ (mX8_addNumeral l en dC dI cI cC G ca nC ck (va_up J 4 I3) (va_up E 4 A4) L (r8 - x2) r6 H.size _ hc10) (cwV 2 hts gX8_figure_X8_addNumeral rfl rfl rfl (by decide +kernel) ⟨Nat.le_of_ble_eq_true rfl, Nat.le_of_ble_eq_true rfl⟩) ⟨blindWE, va_recv hK hP (ci := 5) (q0 := 0) rfl rfl, fun U hU hW => ⟨rfl, by rw [hU], by rw [hU]; exact hP, va_K.moved hW.alike hK, hD.weaken (fun _ _ _ _ => trivial), cE_sub hE hS hW hU hF14⟩⟩ rfl rfl hl.1 rfl (lv_room (Nat.le_of_ble_eq_true rfl)) dX8_figure_45 ⟨Nat.zero_le _, Nat.zero_le _⟩) hS (fun q _ h => hF14 q h) hF14 (fun u t H locs ht hvm hw hB hz1 hk1 hS => ?_)
      cases hw
      obtain ⟨hP, hK9, hD⟩ := hB
      rw [ht] at hP
      have hP : va_P (dC, dI) vwCl (wC cI cC G ca nC ck J11 E12 L13) H := hP
      have hD : va_D AA (wC cI cC G ca nC ck J11 E12 L13) := hD.weaken (fun _ _ _ h => hF14 _ h)
      refine lv_iload hx hb dX8_figure_48 (lv_at hl 0 rfl) ?_
      refine lv_if_eq (tgt := 71) hx hb dX8_figure_50 (by decide) (fun c15 => ?_) (fun c15 => ?_)
      · have hf := (if_pos c15).symm.trans hf
        refine lv_aload_n hx hb dX8_figure_71 rfl (lv_at hl 1 rfl) ?_
        refine lv_bipush (v := (8 : Int32)) hx hb dX8_figure_72 (by decide) ?_
        obtain ⟨r16, hc17, hf⟩ := of_bind_some hf
        refine W.callR (r := r16) (W.runV (As := [.int (8 : Int32)]) (rest := []) ⟨hx, hb, hml, hown, hts⟩ (mX1_has l dC dI cI (fun _ => ca x1.toNatClampNeg) (ck x1.toNatClampNeg) (8 : Int32) r16 hc17) (cwV 1 hts gX8_figure_X1_has rfl rfl rfl (by decide +kernel) ⟨Nat.le_of_ble_eq_true rfl, Nat.le_of_ble_eq_true rfl⟩) ⟨blindR, va_recv hK (wC_k hP hki) (ci := 0) (q0 := 0) rfl rfl, fun U hU hW => ⟨rfl, by rw [hU]; exact wC_k hP hki, va_K.moved hW.alike (hK.sub [0] rfl)⟩⟩ rfl rfl hl.1 rfl (lv_room (Nat.le_of_ble_eq_true rfl)) dX8_figure_74 ⟨Nat.zero_le _, Nat.zero_le _⟩) ?_
        refine W.eq (g2 := F0 m 77 ls [.int r16]) rfl ?_
        refine lv_if_eq (tgt := 99) hx hb dX8_figure_77 (by decide) (fun c18 => ?_) (fun c18 => ?_)
        · have hf := (if_pos c18).symm.trans hf
          refine lv_aload_n hx hb dX8_figure_99 rfl (lv_at hl 2 rfl) ?_
          refine lv_aload_n hx hb dX8_figure_100 rfl (lv_at hl 1 rfl) ?_
          refine lv_iload_n hx hb dX8_figure_101 rfl (lv_at hl 4 rfl) ?_
          obtain ⟨⟨J20, E21, L22⟩, hc19, hf⟩ := of_bind_some hf
          have hF23 := va_freeAll hD hS hA
          refine va_callv (va_runV (As := [.ref (ca x1.toNatClampNeg), .int x2]) (rest := []) ⟨hx, hb, hml, hown, hts⟩ (mX8_addInversion l en dC dI cI cC G ca nC ck J11 E12 L13 x1.toNatClampNeg hki x2 H.size _ hc19) (cwV 2 hts gX8_figure_X8_addInversion rfl rfl rfl (by decide +kernel) ⟨Nat.le_of_ble_eq_true rfl, Nat.le_of_ble_eq_true rfl⟩) ⟨blindWE, va_recv hK hP (ci := 5) (q0 := 0) rfl rfl, fun U hU hW => ⟨rfl, by rw [hU], by rw [hU]; exact hP, va_K.moved hW.alike hK, hD.weaken (fun _ _ _ _ => trivial), cE_sub hE hS hW hU hF23⟩⟩ rfl rfl hl.1 rfl (lv_room (Nat.le_of_ble_eq_true rfl)) dX8_figure_102 ⟨Nat.zero_le _, Nat.zero_le _⟩) hS (fun q _ h => hF23 q h) hF23 (fun u t H locs ht hvm hw hB hz1 hk1 hS => ?_)
          cases hw
          obtain ⟨hP, hK9, hD⟩ := hB
          rw [ht] at hP
          have hP : va_P (dC, dI) vwCl (wC cI cC G ca nC ck J20 E21 L22) H := hP
          have hD : va_D AA (wC cI cC G ca nC ck J20 E21 L22) := hD.weaken (fun _ _ _ h => hF23 _ h)
          refine lv_aload_n hx hb dX8_figure_105 rfl (lv_at hl 2 rfl) ?_
          refine va_get (D := (dC, dI)) (ci := 5) (v := .ref (G 4 100)) (C := RX8) (T := TX8) (N := 6) hx hb hts hinX8 hown hK hP 0 rfl rfl 4 (by decide) hk39 (fun _ h9 => h9) rfl dX8_figure_106 ?_
          refine va_getN (D := (dC, dI)) (ci := 3) (v := .int ((J20 4) 1)) (C := RX6) (T := TX6) (N := 2) hx hb hts hinX6 hown hK hP 11 rfl rfl 1 (by decide) (va_Nw.use rfl (hE.2.2.2.2.2 (RX8, 187, RX6, "size", "I", RX8) (by decide +kernel))) (fun _ h9 => h9) rfl dX8_figure_109 ?_
          exact W.iret (v := ((J20 4) 1)) hx hb hr (fun t ht hW => ⟨⟨((J20 4) 1), (J20, E21, L22), rfl, Option.some.inj hf, by rw [ht]; exact hP, va_K.moved hW.alike hK, hD⟩, hS.F ht⟩) hS.2.2 dX8_figure_112
        · have hf := (if_neg c18).symm.trans hf
          refine lv_aload_n hx hb dX8_figure_80 rfl (lv_at hl 1 rfl) ?_
          refine lv_sipush (v := (128 : Int32)) hx hb dX8_figure_81 (by decide) ?_
          obtain ⟨r24, hc25, hf⟩ := of_bind_some hf
          refine W.callR (r := r24) (W.runV (As := [.int (128 : Int32)]) (rest := []) ⟨hx, hb, hml, hown, hts⟩ (mX1_has l dC dI cI (fun _ => ca x1.toNatClampNeg) (ck x1.toNatClampNeg) (128 : Int32) r24 hc25) (cwV 1 hts gX8_figure_X1_has rfl rfl rfl (by decide +kernel) ⟨Nat.le_of_ble_eq_true rfl, Nat.le_of_ble_eq_true rfl⟩) ⟨blindR, va_recv hK (wC_k hP hki) (ci := 0) (q0 := 0) rfl rfl, fun U hU hW => ⟨rfl, by rw [hU]; exact wC_k hP hki, va_K.moved hW.alike (hK.sub [0] rfl)⟩⟩ rfl rfl hl.1 rfl (lv_room (Nat.le_of_ble_eq_true rfl)) dX8_figure_84 ⟨Nat.zero_le _, Nat.zero_le _⟩) ?_
          refine W.eq (g2 := F0 m 87 ls [.int r24]) rfl ?_
          refine lv_if_eq (tgt := 99) hx hb dX8_figure_87 (by decide) (fun c26 => ?_) (fun c26 => ?_)
          · have hf := (if_pos c26).symm.trans hf
            refine lv_aload_n hx hb dX8_figure_99 rfl (lv_at hl 2 rfl) ?_
            refine lv_aload_n hx hb dX8_figure_100 rfl (lv_at hl 1 rfl) ?_
            refine lv_iload_n hx hb dX8_figure_101 rfl (lv_at hl 4 rfl) ?_
            obtain ⟨⟨J28, E29, L30⟩, hc27, hf⟩ := of_bind_some hf
            have hF31 := va_freeAll hD hS hA
            refine va_callv (va_runV (As := [.ref (ca x1.toNatClampNeg), .int x2]) (rest := []) ⟨hx, hb, hml, hown, hts⟩ (mX8_addInversion l en dC dI cI cC G ca nC ck J11 E12 L13 x1.toNatClampNeg hki x2 H.size _ hc27) (cwV 2 hts gX8_figure_X8_addInversion rfl rfl rfl (by decide +kernel) ⟨Nat.le_of_ble_eq_true rfl, Nat.le_of_ble_eq_true rfl⟩) ⟨blindWE, va_recv hK hP (ci := 5) (q0 := 0) rfl rfl, fun U hU hW => ⟨rfl, by rw [hU], by rw [hU]; exact hP, va_K.moved hW.alike hK, hD.weaken (fun _ _ _ _ => trivial), cE_sub hE hS hW hU hF31⟩⟩ rfl rfl hl.1 rfl (lv_room (Nat.le_of_ble_eq_true rfl)) dX8_figure_102 ⟨Nat.zero_le _, Nat.zero_le _⟩) hS (fun q _ h => hF31 q h) hF31 (fun u t H locs ht hvm hw hB hz1 hk1 hS => ?_)
            cases hw
            obtain ⟨hP, hK9, hD⟩ := hB
            rw [ht] at hP
            have hP : va_P (dC, dI) vwCl (wC cI cC G ca nC ck J28 E29 L30) H := hP
            have hD : va_D AA (wC cI cC G ca nC ck J28 E29 L30) := hD.weaken (fun _ _ _ h => hF31 _ h)
            refine lv_aload_n hx hb dX8_figure_105 rfl (lv_at hl 2 rfl) ?_
            refine va_get (D := (dC, dI)) (ci := 5) (v := .ref (G 4 100)) (C := RX8) (T := TX8) (N := 6) hx hb hts hinX8 hown hK hP 0 rfl rfl 4 (by decide) hk39 (fun _ h9 => h9) rfl dX8_figure_106 ?_
            refine va_getN (D := (dC, dI)) (ci := 3) (v := .int ((J28 4) 1)) (C := RX6) (T := TX6) (N := 2) hx hb hts hinX6 hown hK hP 11 rfl rfl 1 (by decide) (va_Nw.use rfl (hE.2.2.2.2.2 (RX8, 187, RX6, "size", "I", RX8) (by decide +kernel))) (fun _ h9 => h9) rfl dX8_figure_109 ?_
            exact W.iret (v := ((J28 4) 1)) hx hb hr (fun t ht hW => ⟨⟨((J28 4) 1), (J28, E29, L30), rfl, Option.some.inj hf, by rw [ht]; exact hP, va_K.moved hW.alike hK, hD⟩, hS.F ht⟩) hS.2.2 dX8_figure_112
          · have hf := (if_neg c26).symm.trans hf
            refine lv_aload_n hx hb dX8_figure_90 rfl (lv_at hl 2 rfl) ?_
            refine va_get (D := (dC, dI)) (ci := 5) (v := .ref (G 4 100)) (C := RX8) (T := TX8) (N := 6) hx hb hts hinX8 hown hK hP 0 rfl rfl 4 (by decide) hk39 (fun _ h9 => h9) rfl dX8_figure_91 ?_
            refine lv_bipush (v := (43 : Int32)) hx hb dX8_figure_94 (by decide) ?_
            obtain ⟨⟨I33, A34⟩, hc32, hf⟩ := of_bind_some hf
            have hPs := Eq.mp (congrArg (fun w => va_P (dC, dI) vwCl w H) (wC_s_text cI cC G ca nC ck J11 E12 L13)) hP
            have hDs := Eq.mp (congrArg (fun w => va_D AA w) (wC_s_text cI cC G ca nC ck J11 E12 L13)) hD
            have hF35 := va_freeMid hDs hS hA
            refine va_callv (va_runV (As := [.int (43 : Int32)]) (rest := []) ⟨hx, hb, hml, hown, hts⟩ (mX6_add l dC dI cI (G 4) (J11 4) (E12 4) (43 : Int32) H.size _ hc32) (cwV 1 hts gX8_figure_X6_add rfl rfl rfl (by decide +kernel) ⟨Nat.le_of_ble_eq_true rfl, Nat.le_of_ble_eq_true rfl⟩) ⟨blindW, va_recv hK hPs.mid (ci := 3) (q0 := 0) rfl rfl, fun U hU hW => ⟨rfl, by rw [hU], by rw [hU]; exact hPs.mid, va_K.moved hW.alike (hK.sub [0] rfl), hDs.mid.weaken (fun _ _ _ _ => trivial)⟩⟩ rfl rfl hl.1 rfl (lv_room (Nat.le_of_ble_eq_true rfl)) dX8_figure_96 ⟨Nat.zero_le _, Nat.zero_le _⟩) hS (fun q _ h => hF35 q h) hF35 (fun u t H locs ht hvm hw hB hz1 hk1 hS => ?_)
            cases hw
            obtain ⟨hP1, hK9, hD1⟩ := hB
            rw [ht] at hP1
            obtain ⟨hP, hD⟩ := va_joinMid hPs hDs hk1 hF35 hP1 hD1
            have hP : va_P (dC, dI) vwCl (wC cI cC G ca nC ck (va_up J11 4 I33) (va_up E12 4 A34) L13) H := Eq.mp (congrArg (fun w => va_P (dC, dI) vwCl w H) (wC_j_text cI cC G ca nC ck J11 E12 L13 I33 A34)) hP
            have hD : va_D AA (wC cI cC G ca nC ck (va_up J11 4 I33) (va_up E12 4 A34) L13) := Eq.mp (congrArg (fun w => va_D AA w) (wC_j_text cI cC G ca nC ck J11 E12 L13 I33 A34)) hD
            refine lv_aload_n hx hb dX8_figure_99 rfl (lv_at hl 2 rfl) ?_
            refine lv_aload_n hx hb dX8_figure_100 rfl (lv_at hl 1 rfl) ?_
            refine lv_iload_n hx hb dX8_figure_101 rfl (lv_at hl 4 rfl) ?_
            obtain ⟨⟨J37, E38, L39⟩, hc36, hf⟩ := of_bind_some hf
            have hF40 := va_freeAll hD hS hA
            refine va_callv (va_runV (As := [.ref (ca x1.toNatClampNeg), .int x2]) (rest := []) ⟨hx, hb, hml, hown, hts⟩ (mX8_addInversion l en dC dI cI cC G ca nC ck (va_up J11 4 I33) (va_up E12 4 A34) L13 x1.toNatClampNeg hki x2 H.size _ hc36) (cwV 2 hts gX8_figure_X8_addInversion rfl rfl rfl (by decide +kernel) ⟨Nat.le_of_ble_eq_true rfl, Nat.le_of_ble_eq_true rfl⟩) ⟨blindWE, va_recv hK hP (ci := 5) (q0 := 0) rfl rfl, fun U hU hW => ⟨rfl, by rw [hU], by rw [hU]; exact hP, va_K.moved hW.alike hK, hD.weaken (fun _ _ _ _ => trivial), cE_sub hE hS hW hU hF40⟩⟩ rfl rfl hl.1 rfl (lv_room (Nat.le_of_ble_eq_true rfl)) dX8_figure_102 ⟨Nat.zero_le _, Nat.zero_le _⟩) hS (fun q _ h => hF40 q h) hF40 (fun u t H locs ht hvm hw hB hz1 hk1 hS => ?_)
            cases hw
            obtain ⟨hP, hK9, hD⟩ := hB
            rw [ht] at hP
            have hP : va_P (dC, dI) vwCl (wC cI cC G ca nC ck J37 E38 L39) H := hP
            have hD : va_D AA (wC cI cC G ca nC ck J37 E38 L39) := hD.weaken (fun _ _ _ h => hF40 _ h)
            refine lv_aload_n hx hb dX8_figure_105 rfl (lv_at hl 2 rfl) ?_
            refine va_get (D := (dC, dI)) (ci := 5) (v := .ref (G 4 100)) (C := RX8) (T := TX8) (N := 6) hx hb hts hinX8 hown hK hP 0 rfl rfl 4 (by decide) hk39 (fun _ h9 => h9) rfl dX8_figure_106 ?_
            refine va_getN (D := (dC, dI)) (ci := 3) (v := .int ((J37 4) 1)) (C := RX6) (T := TX6) (N := 2) hx hb hts hinX6 hown hK hP 11 rfl rfl 1 (by decide) (va_Nw.use rfl (hE.2.2.2.2.2 (RX8, 187, RX6, "size", "I", RX8) (by decide +kernel))) (fun _ h9 => h9) rfl dX8_figure_109 ?_
            exact W.iret (v := ((J37 4) 1)) hx hb hr (fun t ht hW => ⟨⟨((J37 4) 1), (J37, E38, L39), rfl, Option.some.inj hf, by rw [ht]; exact hP, va_K.moved hW.alike hK, hD⟩, hS.F ht⟩) hS.2.2 dX8_figure_112
      · have hf := (if_neg c15).symm.trans hf
        refine lv_aload_n hx hb dX8_figure_53 rfl (lv_at hl 1 rfl) ?_
        refine lv_bipush (v := (32 : Int32)) hx hb dX8_figure_54 (by decide) ?_
        obtain ⟨r41, hc42, hf⟩ := of_bind_some hf
        refine W.callR (r := r41) (W.runV (As := [.int (32 : Int32)]) (rest := []) ⟨hx, hb, hml, hown, hts⟩ (mX1_has l dC dI cI (fun _ => ca x1.toNatClampNeg) (ck x1.toNatClampNeg) (32 : Int32) r41 hc42) (cwV 1 hts gX8_figure_X1_has rfl rfl rfl (by decide +kernel) ⟨Nat.le_of_ble_eq_true rfl, Nat.le_of_ble_eq_true rfl⟩) ⟨blindR, va_recv hK (wC_k hP hki) (ci := 0) (q0 := 0) rfl rfl, fun U hU hW => ⟨rfl, by rw [hU]; exact wC_k hP hki, va_K.moved hW.alike (hK.sub [0] rfl)⟩⟩ rfl rfl hl.1 rfl (lv_room (Nat.le_of_ble_eq_true rfl)) dX8_figure_56 ⟨Nat.zero_le _, Nat.zero_le _⟩) ?_
        refine W.eq (g2 := F0 m 59 ls [.int r41]) rfl ?_
        refine lv_if_eq (tgt := 71) hx hb dX8_figure_59 (by decide) (fun c43 => ?_) (fun c43 => ?_)
        · have hf := (if_pos c43).symm.trans hf
          refine lv_aload_n hx hb dX8_figure_71 rfl (lv_at hl 1 rfl) ?_
          refine lv_bipush (v := (8 : Int32)) hx hb dX8_figure_72 (by decide) ?_
          obtain ⟨r44, hc45, hf⟩ := of_bind_some hf
          refine W.callR (r := r44) (W.runV (As := [.int (8 : Int32)]) (rest := []) ⟨hx, hb, hml, hown, hts⟩ (mX1_has l dC dI cI (fun _ => ca x1.toNatClampNeg) (ck x1.toNatClampNeg) (8 : Int32) r44 hc45) (cwV 1 hts gX8_figure_X1_has rfl rfl rfl (by decide +kernel) ⟨Nat.le_of_ble_eq_true rfl, Nat.le_of_ble_eq_true rfl⟩) ⟨blindR, va_recv hK (wC_k hP hki) (ci := 0) (q0 := 0) rfl rfl, fun U hU hW => ⟨rfl, by rw [hU]; exact wC_k hP hki, va_K.moved hW.alike (hK.sub [0] rfl)⟩⟩ rfl rfl hl.1 rfl (lv_room (Nat.le_of_ble_eq_true rfl)) dX8_figure_74 ⟨Nat.zero_le _, Nat.zero_le _⟩) ?_
          refine W.eq (g2 := F0 m 77 ls [.int r44]) rfl ?_
          refine lv_if_eq (tgt := 99) hx hb dX8_figure_77 (by decide) (fun c46 => ?_) (fun c46 => ?_)
          · have hf := (if_pos c46).symm.trans hf
            refine lv_aload_n hx hb dX8_figure_99 rfl (lv_at hl 2 rfl) ?_
            refine lv_aload_n hx hb dX8_figure_100 rfl (lv_at hl 1 rfl) ?_
            refine lv_iload_n hx hb dX8_figure_101 rfl (lv_at hl 4 rfl) ?_
            obtain ⟨⟨J48, E49, L50⟩, hc47, hf⟩ := of_bind_some hf
            have hF51 := va_freeAll hD hS hA
            refine va_callv (va_runV (As := [.ref (ca x1.toNatClampNeg), .int x2]) (rest := []) ⟨hx, hb, hml, hown, hts⟩ (mX8_addInversion l en dC dI cI cC G ca nC ck J11 E12 L13 x1.toNatClampNeg hki x2 H.size _ hc47) (cwV 2 hts gX8_figure_X8_addInversion rfl rfl rfl (by decide +kernel) ⟨Nat.le_of_ble_eq_true rfl, Nat.le_of_ble_eq_true rfl⟩) ⟨blindWE, va_recv hK hP (ci := 5) (q0 := 0) rfl rfl, fun U hU hW => ⟨rfl, by rw [hU], by rw [hU]; exact hP, va_K.moved hW.alike hK, hD.weaken (fun _ _ _ _ => trivial), cE_sub hE hS hW hU hF51⟩⟩ rfl rfl hl.1 rfl (lv_room (Nat.le_of_ble_eq_true rfl)) dX8_figure_102 ⟨Nat.zero_le _, Nat.zero_le _⟩) hS (fun q _ h => hF51 q h) hF51 (fun u t H locs ht hvm hw hB hz1 hk1 hS => ?_)
            cases hw
            obtain ⟨hP, hK9, hD⟩ := hB
            rw [ht] at hP
            have hP : va_P (dC, dI) vwCl (wC cI cC G ca nC ck J48 E49 L50) H := hP
            have hD : va_D AA (wC cI cC G ca nC ck J48 E49 L50) := hD.weaken (fun _ _ _ h => hF51 _ h)
            refine lv_aload_n hx hb dX8_figure_105 rfl (lv_at hl 2 rfl) ?_
            refine va_get (D := (dC, dI)) (ci := 5) (v := .ref (G 4 100)) (C := RX8) (T := TX8) (N := 6) hx hb hts hinX8 hown hK hP 0 rfl rfl 4 (by decide) hk39 (fun _ h9 => h9) rfl dX8_figure_106 ?_
            refine va_getN (D := (dC, dI)) (ci := 3) (v := .int ((J48 4) 1)) (C := RX6) (T := TX6) (N := 2) hx hb hts hinX6 hown hK hP 11 rfl rfl 1 (by decide) (va_Nw.use rfl (hE.2.2.2.2.2 (RX8, 187, RX6, "size", "I", RX8) (by decide +kernel))) (fun _ h9 => h9) rfl dX8_figure_109 ?_
            exact W.iret (v := ((J48 4) 1)) hx hb hr (fun t ht hW => ⟨⟨((J48 4) 1), (J48, E49, L50), rfl, Option.some.inj hf, by rw [ht]; exact hP, va_K.moved hW.alike hK, hD⟩, hS.F ht⟩) hS.2.2 dX8_figure_112
          · have hf := (if_neg c46).symm.trans hf
            refine lv_aload_n hx hb dX8_figure_80 rfl (lv_at hl 1 rfl) ?_
            refine lv_sipush (v := (128 : Int32)) hx hb dX8_figure_81 (by decide) ?_
            obtain ⟨r52, hc53, hf⟩ := of_bind_some hf
            refine W.callR (r := r52) (W.runV (As := [.int (128 : Int32)]) (rest := []) ⟨hx, hb, hml, hown, hts⟩ (mX1_has l dC dI cI (fun _ => ca x1.toNatClampNeg) (ck x1.toNatClampNeg) (128 : Int32) r52 hc53) (cwV 1 hts gX8_figure_X1_has rfl rfl rfl (by decide +kernel) ⟨Nat.le_of_ble_eq_true rfl, Nat.le_of_ble_eq_true rfl⟩) ⟨blindR, va_recv hK (wC_k hP hki) (ci := 0) (q0 := 0) rfl rfl, fun U hU hW => ⟨rfl, by rw [hU]; exact wC_k hP hki, va_K.moved hW.alike (hK.sub [0] rfl)⟩⟩ rfl rfl hl.1 rfl (lv_room (Nat.le_of_ble_eq_true rfl)) dX8_figure_84 ⟨Nat.zero_le _, Nat.zero_le _⟩) ?_
            refine W.eq (g2 := F0 m 87 ls [.int r52]) rfl ?_
            refine lv_if_eq (tgt := 99) hx hb dX8_figure_87 (by decide) (fun c54 => ?_) (fun c54 => ?_)
            · have hf := (if_pos c54).symm.trans hf
              refine lv_aload_n hx hb dX8_figure_99 rfl (lv_at hl 2 rfl) ?_
              refine lv_aload_n hx hb dX8_figure_100 rfl (lv_at hl 1 rfl) ?_
              refine lv_iload_n hx hb dX8_figure_101 rfl (lv_at hl 4 rfl) ?_
              obtain ⟨⟨J56, E57, L58⟩, hc55, hf⟩ := of_bind_some hf
              have hF59 := va_freeAll hD hS hA
              refine va_callv (va_runV (As := [.ref (ca x1.toNatClampNeg), .int x2]) (rest := []) ⟨hx, hb, hml, hown, hts⟩ (mX8_addInversion l en dC dI cI cC G ca nC ck J11 E12 L13 x1.toNatClampNeg hki x2 H.size _ hc55) (cwV 2 hts gX8_figure_X8_addInversion rfl rfl rfl (by decide +kernel) ⟨Nat.le_of_ble_eq_true rfl, Nat.le_of_ble_eq_true rfl⟩) ⟨blindWE, va_recv hK hP (ci := 5) (q0 := 0) rfl rfl, fun U hU hW => ⟨rfl, by rw [hU], by rw [hU]; exact hP, va_K.moved hW.alike hK, hD.weaken (fun _ _ _ _ => trivial), cE_sub hE hS hW hU hF59⟩⟩ rfl rfl hl.1 rfl (lv_room (Nat.le_of_ble_eq_true rfl)) dX8_figure_102 ⟨Nat.zero_le _, Nat.zero_le _⟩) hS (fun q _ h => hF59 q h) hF59 (fun u t H locs ht hvm hw hB hz1 hk1 hS => ?_)
              cases hw
              obtain ⟨hP, hK9, hD⟩ := hB
              rw [ht] at hP
              have hP : va_P (dC, dI) vwCl (wC cI cC G ca nC ck J56 E57 L58) H := hP
              have hD : va_D AA (wC cI cC G ca nC ck J56 E57 L58) := hD.weaken (fun _ _ _ h => hF59 _ h)
              refine lv_aload_n hx hb dX8_figure_105 rfl (lv_at hl 2 rfl) ?_
              refine va_get (D := (dC, dI)) (ci := 5) (v := .ref (G 4 100)) (C := RX8) (T := TX8) (N := 6) hx hb hts hinX8 hown hK hP 0 rfl rfl 4 (by decide) hk39 (fun _ h9 => h9) rfl dX8_figure_106 ?_
              refine va_getN (D := (dC, dI)) (ci := 3) (v := .int ((J56 4) 1)) (C := RX6) (T := TX6) (N := 2) hx hb hts hinX6 hown hK hP 11 rfl rfl 1 (by decide) (va_Nw.use rfl (hE.2.2.2.2.2 (RX8, 187, RX6, "size", "I", RX8) (by decide +kernel))) (fun _ h9 => h9) rfl dX8_figure_109 ?_
              exact W.iret (v := ((J56 4) 1)) hx hb hr (fun t ht hW => ⟨⟨((J56 4) 1), (J56, E57, L58), rfl, Option.some.inj hf, by rw [ht]; exact hP, va_K.moved hW.alike hK, hD⟩, hS.F ht⟩) hS.2.2 dX8_figure_112
            · have hf := (if_neg c54).symm.trans hf
              refine lv_aload_n hx hb dX8_figure_90 rfl (lv_at hl 2 rfl) ?_
              refine va_get (D := (dC, dI)) (ci := 5) (v := .ref (G 4 100)) (C := RX8) (T := TX8) (N := 6) hx hb hts hinX8 hown hK hP 0 rfl rfl 4 (by decide) hk39 (fun _ h9 => h9) rfl dX8_figure_91 ?_
              refine lv_bipush (v := (43 : Int32)) hx hb dX8_figure_94 (by decide) ?_
              obtain ⟨⟨I61, A62⟩, hc60, hf⟩ := of_bind_some hf
              have hPs := Eq.mp (congrArg (fun w => va_P (dC, dI) vwCl w H) (wC_s_text cI cC G ca nC ck J11 E12 L13)) hP
              have hDs := Eq.mp (congrArg (fun w => va_D AA w) (wC_s_text cI cC G ca nC ck J11 E12 L13)) hD
              have hF63 := va_freeMid hDs hS hA
              refine va_callv (va_runV (As := [.int (43 : Int32)]) (rest := []) ⟨hx, hb, hml, hown, hts⟩ (mX6_add l dC dI cI (G 4) (J11 4) (E12 4) (43 : Int32) H.size _ hc60) (cwV 1 hts gX8_figure_X6_add rfl rfl rfl (by decide +kernel) ⟨Nat.le_of_ble_eq_true rfl, Nat.le_of_ble_eq_true rfl⟩) ⟨blindW, va_recv hK hPs.mid (ci := 3) (q0 := 0) rfl rfl, fun U hU hW => ⟨rfl, by rw [hU], by rw [hU]; exact hPs.mid, va_K.moved hW.alike (hK.sub [0] rfl), hDs.mid.weaken (fun _ _ _ _ => trivial)⟩⟩ rfl rfl hl.1 rfl (lv_room (Nat.le_of_ble_eq_true rfl)) dX8_figure_96 ⟨Nat.zero_le _, Nat.zero_le _⟩) hS (fun q _ h => hF63 q h) hF63 (fun u t H locs ht hvm hw hB hz1 hk1 hS => ?_)
              cases hw
              obtain ⟨hP1, hK9, hD1⟩ := hB
              rw [ht] at hP1
              obtain ⟨hP, hD⟩ := va_joinMid hPs hDs hk1 hF63 hP1 hD1
              have hP : va_P (dC, dI) vwCl (wC cI cC G ca nC ck (va_up J11 4 I61) (va_up E12 4 A62) L13) H := Eq.mp (congrArg (fun w => va_P (dC, dI) vwCl w H) (wC_j_text cI cC G ca nC ck J11 E12 L13 I61 A62)) hP
              have hD : va_D AA (wC cI cC G ca nC ck (va_up J11 4 I61) (va_up E12 4 A62) L13) := Eq.mp (congrArg (fun w => va_D AA w) (wC_j_text cI cC G ca nC ck J11 E12 L13 I61 A62)) hD
              refine lv_aload_n hx hb dX8_figure_99 rfl (lv_at hl 2 rfl) ?_
              refine lv_aload_n hx hb dX8_figure_100 rfl (lv_at hl 1 rfl) ?_
              refine lv_iload_n hx hb dX8_figure_101 rfl (lv_at hl 4 rfl) ?_
              obtain ⟨⟨J65, E66, L67⟩, hc64, hf⟩ := of_bind_some hf
              have hF68 := va_freeAll hD hS hA
              refine va_callv (va_runV (As := [.ref (ca x1.toNatClampNeg), .int x2]) (rest := []) ⟨hx, hb, hml, hown, hts⟩ (mX8_addInversion l en dC dI cI cC G ca nC ck (va_up J11 4 I61) (va_up E12 4 A62) L13 x1.toNatClampNeg hki x2 H.size _ hc64) (cwV 2 hts gX8_figure_X8_addInversion rfl rfl rfl (by decide +kernel) ⟨Nat.le_of_ble_eq_true rfl, Nat.le_of_ble_eq_true rfl⟩) ⟨blindWE, va_recv hK hP (ci := 5) (q0 := 0) rfl rfl, fun U hU hW => ⟨rfl, by rw [hU], by rw [hU]; exact hP, va_K.moved hW.alike hK, hD.weaken (fun _ _ _ _ => trivial), cE_sub hE hS hW hU hF68⟩⟩ rfl rfl hl.1 rfl (lv_room (Nat.le_of_ble_eq_true rfl)) dX8_figure_102 ⟨Nat.zero_le _, Nat.zero_le _⟩) hS (fun q _ h => hF68 q h) hF68 (fun u t H locs ht hvm hw hB hz1 hk1 hS => ?_)
              cases hw
              obtain ⟨hP, hK9, hD⟩ := hB
              rw [ht] at hP
              have hP : va_P (dC, dI) vwCl (wC cI cC G ca nC ck J65 E66 L67) H := hP
              have hD : va_D AA (wC cI cC G ca nC ck J65 E66 L67) := hD.weaken (fun _ _ _ h => hF68 _ h)
              refine lv_aload_n hx hb dX8_figure_105 rfl (lv_at hl 2 rfl) ?_
              refine va_get (D := (dC, dI)) (ci := 5) (v := .ref (G 4 100)) (C := RX8) (T := TX8) (N := 6) hx hb hts hinX8 hown hK hP 0 rfl rfl 4 (by decide) hk39 (fun _ h9 => h9) rfl dX8_figure_106 ?_
              refine va_getN (D := (dC, dI)) (ci := 3) (v := .int ((J65 4) 1)) (C := RX6) (T := TX6) (N := 2) hx hb hts hinX6 hown hK hP 11 rfl rfl 1 (by decide) (va_Nw.use rfl (hE.2.2.2.2.2 (RX8, 187, RX6, "size", "I", RX8) (by decide +kernel))) (fun _ h9 => h9) rfl dX8_figure_109 ?_
              exact W.iret (v := ((J65 4) 1)) hx hb hr (fun t ht hW => ⟨⟨((J65 4) 1), (J65, E66, L67), rfl, Option.some.inj hf, by rw [ht]; exact hP, va_K.moved hW.alike hK, hD⟩, hS.F ht⟩) hS.2.2 dX8_figure_112
        · have hf := (if_neg c43).symm.trans hf
          refine lv_aload_n hx hb dX8_figure_62 rfl (lv_at hl 2 rfl) ?_
          refine va_get (D := (dC, dI)) (ci := 5) (v := .ref (G 4 100)) (C := RX8) (T := TX8) (N := 6) hx hb hts hinX8 hown hK hP 0 rfl rfl 4 (by decide) hk39 (fun _ h9 => h9) rfl dX8_figure_63 ?_
          refine lv_bipush (v := (111 : Int32)) hx hb dX8_figure_66 (by decide) ?_
          obtain ⟨⟨I70, A71⟩, hc69, hf⟩ := of_bind_some hf
          have hPs := Eq.mp (congrArg (fun w => va_P (dC, dI) vwCl w H) (wC_s_text cI cC G ca nC ck J11 E12 L13)) hP
          have hDs := Eq.mp (congrArg (fun w => va_D AA w) (wC_s_text cI cC G ca nC ck J11 E12 L13)) hD
          have hF72 := va_freeMid hDs hS hA
          refine va_callv (va_runV (As := [.int (111 : Int32)]) (rest := []) ⟨hx, hb, hml, hown, hts⟩ (mX6_add l dC dI cI (G 4) (J11 4) (E12 4) (111 : Int32) H.size _ hc69) (cwV 1 hts gX8_figure_X6_add rfl rfl rfl (by decide +kernel) ⟨Nat.le_of_ble_eq_true rfl, Nat.le_of_ble_eq_true rfl⟩) ⟨blindW, va_recv hK hPs.mid (ci := 3) (q0 := 0) rfl rfl, fun U hU hW => ⟨rfl, by rw [hU], by rw [hU]; exact hPs.mid, va_K.moved hW.alike (hK.sub [0] rfl), hDs.mid.weaken (fun _ _ _ _ => trivial)⟩⟩ rfl rfl hl.1 rfl (lv_room (Nat.le_of_ble_eq_true rfl)) dX8_figure_68 ⟨Nat.zero_le _, Nat.zero_le _⟩) hS (fun q _ h => hF72 q h) hF72 (fun u t H locs ht hvm hw hB hz1 hk1 hS => ?_)
          cases hw
          obtain ⟨hP1, hK9, hD1⟩ := hB
          rw [ht] at hP1
          obtain ⟨hP, hD⟩ := va_joinMid hPs hDs hk1 hF72 hP1 hD1
          have hP : va_P (dC, dI) vwCl (wC cI cC G ca nC ck (va_up J11 4 I70) (va_up E12 4 A71) L13) H := Eq.mp (congrArg (fun w => va_P (dC, dI) vwCl w H) (wC_j_text cI cC G ca nC ck J11 E12 L13 I70 A71)) hP
          have hD : va_D AA (wC cI cC G ca nC ck (va_up J11 4 I70) (va_up E12 4 A71) L13) := Eq.mp (congrArg (fun w => va_D AA w) (wC_j_text cI cC G ca nC ck J11 E12 L13 I70 A71)) hD
          refine lv_aload_n hx hb dX8_figure_71 rfl (lv_at hl 1 rfl) ?_
          refine lv_bipush (v := (8 : Int32)) hx hb dX8_figure_72 (by decide) ?_
          obtain ⟨r73, hc74, hf⟩ := of_bind_some hf
          refine W.callR (r := r73) (W.runV (As := [.int (8 : Int32)]) (rest := []) ⟨hx, hb, hml, hown, hts⟩ (mX1_has l dC dI cI (fun _ => ca x1.toNatClampNeg) (ck x1.toNatClampNeg) (8 : Int32) r73 hc74) (cwV 1 hts gX8_figure_X1_has rfl rfl rfl (by decide +kernel) ⟨Nat.le_of_ble_eq_true rfl, Nat.le_of_ble_eq_true rfl⟩) ⟨blindR, va_recv hK (wC_k hP hki) (ci := 0) (q0 := 0) rfl rfl, fun U hU hW => ⟨rfl, by rw [hU]; exact wC_k hP hki, va_K.moved hW.alike (hK.sub [0] rfl)⟩⟩ rfl rfl hl.1 rfl (lv_room (Nat.le_of_ble_eq_true rfl)) dX8_figure_74 ⟨Nat.zero_le _, Nat.zero_le _⟩) ?_
          refine W.eq (g2 := F0 m 77 ls [.int r73]) rfl ?_
          refine lv_if_eq (tgt := 99) hx hb dX8_figure_77 (by decide) (fun c75 => ?_) (fun c75 => ?_)
          · have hf := (if_pos c75).symm.trans hf
            refine lv_aload_n hx hb dX8_figure_99 rfl (lv_at hl 2 rfl) ?_
            refine lv_aload_n hx hb dX8_figure_100 rfl (lv_at hl 1 rfl) ?_
            refine lv_iload_n hx hb dX8_figure_101 rfl (lv_at hl 4 rfl) ?_
            obtain ⟨⟨J77, E78, L79⟩, hc76, hf⟩ := of_bind_some hf
            have hF80 := va_freeAll hD hS hA
            refine va_callv (va_runV (As := [.ref (ca x1.toNatClampNeg), .int x2]) (rest := []) ⟨hx, hb, hml, hown, hts⟩ (mX8_addInversion l en dC dI cI cC G ca nC ck (va_up J11 4 I70) (va_up E12 4 A71) L13 x1.toNatClampNeg hki x2 H.size _ hc76) (cwV 2 hts gX8_figure_X8_addInversion rfl rfl rfl (by decide +kernel) ⟨Nat.le_of_ble_eq_true rfl, Nat.le_of_ble_eq_true rfl⟩) ⟨blindWE, va_recv hK hP (ci := 5) (q0 := 0) rfl rfl, fun U hU hW => ⟨rfl, by rw [hU], by rw [hU]; exact hP, va_K.moved hW.alike hK, hD.weaken (fun _ _ _ _ => trivial), cE_sub hE hS hW hU hF80⟩⟩ rfl rfl hl.1 rfl (lv_room (Nat.le_of_ble_eq_true rfl)) dX8_figure_102 ⟨Nat.zero_le _, Nat.zero_le _⟩) hS (fun q _ h => hF80 q h) hF80 (fun u t H locs ht hvm hw hB hz1 hk1 hS => ?_)
            cases hw
            obtain ⟨hP, hK9, hD⟩ := hB
            rw [ht] at hP
            have hP : va_P (dC, dI) vwCl (wC cI cC G ca nC ck J77 E78 L79) H := hP
            have hD : va_D AA (wC cI cC G ca nC ck J77 E78 L79) := hD.weaken (fun _ _ _ h => hF80 _ h)
            refine lv_aload_n hx hb dX8_figure_105 rfl (lv_at hl 2 rfl) ?_
            refine va_get (D := (dC, dI)) (ci := 5) (v := .ref (G 4 100)) (C := RX8) (T := TX8) (N := 6) hx hb hts hinX8 hown hK hP 0 rfl rfl 4 (by decide) hk39 (fun _ h9 => h9) rfl dX8_figure_106 ?_
            refine va_getN (D := (dC, dI)) (ci := 3) (v := .int ((J77 4) 1)) (C := RX6) (T := TX6) (N := 2) hx hb hts hinX6 hown hK hP 11 rfl rfl 1 (by decide) (va_Nw.use rfl (hE.2.2.2.2.2 (RX8, 187, RX6, "size", "I", RX8) (by decide +kernel))) (fun _ h9 => h9) rfl dX8_figure_109 ?_
            exact W.iret (v := ((J77 4) 1)) hx hb hr (fun t ht hW => ⟨⟨((J77 4) 1), (J77, E78, L79), rfl, Option.some.inj hf, by rw [ht]; exact hP, va_K.moved hW.alike hK, hD⟩, hS.F ht⟩) hS.2.2 dX8_figure_112
          · have hf := (if_neg c75).symm.trans hf
            refine lv_aload_n hx hb dX8_figure_80 rfl (lv_at hl 1 rfl) ?_
            refine lv_sipush (v := (128 : Int32)) hx hb dX8_figure_81 (by decide) ?_
            obtain ⟨r81, hc82, hf⟩ := of_bind_some hf
            refine W.callR (r := r81) (W.runV (As := [.int (128 : Int32)]) (rest := []) ⟨hx, hb, hml, hown, hts⟩ (mX1_has l dC dI cI (fun _ => ca x1.toNatClampNeg) (ck x1.toNatClampNeg) (128 : Int32) r81 hc82) (cwV 1 hts gX8_figure_X1_has rfl rfl rfl (by decide +kernel) ⟨Nat.le_of_ble_eq_true rfl, Nat.le_of_ble_eq_true rfl⟩) ⟨blindR, va_recv hK (wC_k hP hki) (ci := 0) (q0 := 0) rfl rfl, fun U hU hW => ⟨rfl, by rw [hU]; exact wC_k hP hki, va_K.moved hW.alike (hK.sub [0] rfl)⟩⟩ rfl rfl hl.1 rfl (lv_room (Nat.le_of_ble_eq_true rfl)) dX8_figure_84 ⟨Nat.zero_le _, Nat.zero_le _⟩) ?_
            refine W.eq (g2 := F0 m 87 ls [.int r81]) rfl ?_
            refine lv_if_eq (tgt := 99) hx hb dX8_figure_87 (by decide) (fun c83 => ?_) (fun c83 => ?_)
            · have hf := (if_pos c83).symm.trans hf
              refine lv_aload_n hx hb dX8_figure_99 rfl (lv_at hl 2 rfl) ?_
              refine lv_aload_n hx hb dX8_figure_100 rfl (lv_at hl 1 rfl) ?_
              refine lv_iload_n hx hb dX8_figure_101 rfl (lv_at hl 4 rfl) ?_
              obtain ⟨⟨J85, E86, L87⟩, hc84, hf⟩ := of_bind_some hf
              have hF88 := va_freeAll hD hS hA
              refine va_callv (va_runV (As := [.ref (ca x1.toNatClampNeg), .int x2]) (rest := []) ⟨hx, hb, hml, hown, hts⟩ (mX8_addInversion l en dC dI cI cC G ca nC ck (va_up J11 4 I70) (va_up E12 4 A71) L13 x1.toNatClampNeg hki x2 H.size _ hc84) (cwV 2 hts gX8_figure_X8_addInversion rfl rfl rfl (by decide +kernel) ⟨Nat.le_of_ble_eq_true rfl, Nat.le_of_ble_eq_true rfl⟩) ⟨blindWE, va_recv hK hP (ci := 5) (q0 := 0) rfl rfl, fun U hU hW => ⟨rfl, by rw [hU], by rw [hU]; exact hP, va_K.moved hW.alike hK, hD.weaken (fun _ _ _ _ => trivial), cE_sub hE hS hW hU hF88⟩⟩ rfl rfl hl.1 rfl (lv_room (Nat.le_of_ble_eq_true rfl)) dX8_figure_102 ⟨Nat.zero_le _, Nat.zero_le _⟩) hS (fun q _ h => hF88 q h) hF88 (fun u t H locs ht hvm hw hB hz1 hk1 hS => ?_)
              cases hw
              obtain ⟨hP, hK9, hD⟩ := hB
              rw [ht] at hP
              have hP : va_P (dC, dI) vwCl (wC cI cC G ca nC ck J85 E86 L87) H := hP
              have hD : va_D AA (wC cI cC G ca nC ck J85 E86 L87) := hD.weaken (fun _ _ _ h => hF88 _ h)
              refine lv_aload_n hx hb dX8_figure_105 rfl (lv_at hl 2 rfl) ?_
              refine va_get (D := (dC, dI)) (ci := 5) (v := .ref (G 4 100)) (C := RX8) (T := TX8) (N := 6) hx hb hts hinX8 hown hK hP 0 rfl rfl 4 (by decide) hk39 (fun _ h9 => h9) rfl dX8_figure_106 ?_
              refine va_getN (D := (dC, dI)) (ci := 3) (v := .int ((J85 4) 1)) (C := RX6) (T := TX6) (N := 2) hx hb hts hinX6 hown hK hP 11 rfl rfl 1 (by decide) (va_Nw.use rfl (hE.2.2.2.2.2 (RX8, 187, RX6, "size", "I", RX8) (by decide +kernel))) (fun _ h9 => h9) rfl dX8_figure_109 ?_
              exact W.iret (v := ((J85 4) 1)) hx hb hr (fun t ht hW => ⟨⟨((J85 4) 1), (J85, E86, L87), rfl, Option.some.inj hf, by rw [ht]; exact hP, va_K.moved hW.alike hK, hD⟩, hS.F ht⟩) hS.2.2 dX8_figure_112
            · have hf := (if_neg c83).symm.trans hf
              refine lv_aload_n hx hb dX8_figure_90 rfl (lv_at hl 2 rfl) ?_
              refine va_get (D := (dC, dI)) (ci := 5) (v := .ref (G 4 100)) (C := RX8) (T := TX8) (N := 6) hx hb hts hinX8 hown hK hP 0 rfl rfl 4 (by decide) hk39 (fun _ h9 => h9) rfl dX8_figure_91 ?_
              refine lv_bipush (v := (43 : Int32)) hx hb dX8_figure_94 (by decide) ?_
              obtain ⟨⟨I90, A91⟩, hc89, hf⟩ := of_bind_some hf
              have hPs := Eq.mp (congrArg (fun w => va_P (dC, dI) vwCl w H) (wC_s_text cI cC G ca nC ck (va_up J11 4 I70) (va_up E12 4 A71) L13)) hP
              have hDs := Eq.mp (congrArg (fun w => va_D AA w) (wC_s_text cI cC G ca nC ck (va_up J11 4 I70) (va_up E12 4 A71) L13)) hD
              have hF92 := va_freeMid hDs hS hA
              refine va_callv (va_runV (As := [.int (43 : Int32)]) (rest := []) ⟨hx, hb, hml, hown, hts⟩ (mX6_add l dC dI cI (G 4) I70 A71 (43 : Int32) H.size _ hc89) (cwV 1 hts gX8_figure_X6_add rfl rfl rfl (by decide +kernel) ⟨Nat.le_of_ble_eq_true rfl, Nat.le_of_ble_eq_true rfl⟩) ⟨blindW, va_recv hK hPs.mid (ci := 3) (q0 := 0) rfl rfl, fun U hU hW => ⟨rfl, by rw [hU], by rw [hU]; exact hPs.mid, va_K.moved hW.alike (hK.sub [0] rfl), hDs.mid.weaken (fun _ _ _ _ => trivial)⟩⟩ rfl rfl hl.1 rfl (lv_room (Nat.le_of_ble_eq_true rfl)) dX8_figure_96 ⟨Nat.zero_le _, Nat.zero_le _⟩) hS (fun q _ h => hF92 q h) hF92 (fun u t H locs ht hvm hw hB hz1 hk1 hS => ?_)
              cases hw
              obtain ⟨hP1, hK9, hD1⟩ := hB
              rw [ht] at hP1
              obtain ⟨hP, hD⟩ := va_joinMid hPs hDs hk1 hF92 hP1 hD1
              have hP : va_P (dC, dI) vwCl (wC cI cC G ca nC ck (va_up (va_up J11 4 I70) 4 I90) (va_up (va_up E12 4 A71) 4 A91) L13) H := Eq.mp (congrArg (fun w => va_P (dC, dI) vwCl w H) (wC_j_text cI cC G ca nC ck (va_up J11 4 I70) (va_up E12 4 A71) L13 I90 A91)) hP
              have hD : va_D AA (wC cI cC G ca nC ck (va_up (va_up J11 4 I70) 4 I90) (va_up (va_up E12 4 A71) 4 A91) L13) := Eq.mp (congrArg (fun w => va_D AA w) (wC_j_text cI cC G ca nC ck (va_up J11 4 I70) (va_up E12 4 A71) L13 I90 A91)) hD
              have hP : va_P (dC, dI) vwCl (wC cI cC G ca nC ck (va_up J11 4 I90) (va_up (va_up E12 4 A71) 4 A91) L13) H := Eq.mp (congrArg (fun j9 => va_P (dC, dI) vwCl (wC cI cC G ca nC ck j9 (va_up (va_up E12 4 A71) 4 A91) L13) H) (vupc J11 4 I70 I90)) hP
              have hD : va_D AA (wC cI cC G ca nC ck (va_up J11 4 I90) (va_up (va_up E12 4 A71) 4 A91) L13) := Eq.mp (congrArg (fun j9 => va_D AA (wC cI cC G ca nC ck j9 (va_up (va_up E12 4 A71) 4 A91) L13)) (vupc J11 4 I70 I90)) hD
              have hP : va_P (dC, dI) vwCl (wC cI cC G ca nC ck (va_up J11 4 I90) (va_up E12 4 A91) L13) H := Eq.mp (congrArg (fun j9 => va_P (dC, dI) vwCl (wC cI cC G ca nC ck (va_up J11 4 I90) j9 L13) H) (vupc E12 4 A71 A91)) hP
              have hD : va_D AA (wC cI cC G ca nC ck (va_up J11 4 I90) (va_up E12 4 A91) L13) := Eq.mp (congrArg (fun j9 => va_D AA (wC cI cC G ca nC ck (va_up J11 4 I90) j9 L13)) (vupc E12 4 A71 A91)) hD
              refine lv_aload_n hx hb dX8_figure_99 rfl (lv_at hl 2 rfl) ?_
              refine lv_aload_n hx hb dX8_figure_100 rfl (lv_at hl 1 rfl) ?_
              refine lv_iload_n hx hb dX8_figure_101 rfl (lv_at hl 4 rfl) ?_
              obtain ⟨⟨J94, E95, L96⟩, hc93, hf⟩ := of_bind_some hf
              have hF97 := va_freeAll hD hS hA
              refine va_callv (va_runV (As := [.ref (ca x1.toNatClampNeg), .int x2]) (rest := []) ⟨hx, hb, hml, hown, hts⟩ (mX8_addInversion l en dC dI cI cC G ca nC ck (va_up J11 4 I90) (va_up E12 4 A91) L13 x1.toNatClampNeg hki x2 H.size _ hc93) (cwV 2 hts gX8_figure_X8_addInversion rfl rfl rfl (by decide +kernel) ⟨Nat.le_of_ble_eq_true rfl, Nat.le_of_ble_eq_true rfl⟩) ⟨blindWE, va_recv hK hP (ci := 5) (q0 := 0) rfl rfl, fun U hU hW => ⟨rfl, by rw [hU], by rw [hU]; exact hP, va_K.moved hW.alike hK, hD.weaken (fun _ _ _ _ => trivial), cE_sub hE hS hW hU hF97⟩⟩ rfl rfl hl.1 rfl (lv_room (Nat.le_of_ble_eq_true rfl)) dX8_figure_102 ⟨Nat.zero_le _, Nat.zero_le _⟩) hS (fun q _ h => hF97 q h) hF97 (fun u t H locs ht hvm hw hB hz1 hk1 hS => ?_)
              cases hw
              obtain ⟨hP, hK9, hD⟩ := hB
              rw [ht] at hP
              have hP : va_P (dC, dI) vwCl (wC cI cC G ca nC ck J94 E95 L96) H := hP
              have hD : va_D AA (wC cI cC G ca nC ck J94 E95 L96) := hD.weaken (fun _ _ _ h => hF97 _ h)
              refine lv_aload_n hx hb dX8_figure_105 rfl (lv_at hl 2 rfl) ?_
              refine va_get (D := (dC, dI)) (ci := 5) (v := .ref (G 4 100)) (C := RX8) (T := TX8) (N := 6) hx hb hts hinX8 hown hK hP 0 rfl rfl 4 (by decide) hk39 (fun _ h9 => h9) rfl dX8_figure_106 ?_
              refine va_getN (D := (dC, dI)) (ci := 3) (v := .int ((J94 4) 1)) (C := RX6) (T := TX6) (N := 2) hx hb hts hinX6 hown hK hP 11 rfl rfl 1 (by decide) (va_Nw.use rfl (hE.2.2.2.2.2 (RX8, 187, RX6, "size", "I", RX8) (by decide +kernel))) (fun _ h9 => h9) rfl dX8_figure_109 ?_
              exact W.iret (v := ((J94 4) 1)) hx hb hr (fun t ht hW => ⟨⟨((J94 4) 1), (J94, E95, L96), rfl, Option.some.inj hf, by rw [ht]; exact hP, va_K.moved hW.alike hK, hD⟩, hS.F ht⟩) hS.2.2 dX8_figure_112
    · have hf := (if_pos c1).symm.trans hf
      refine lv_iconst (v := (-1 : Int32)) hx hb dX8_figure_17 (by decide) ?_
      exact W.iret (v := (-1 : Int32)) hx hb hr (fun t ht hW => ⟨⟨(-1 : Int32), (J, E, L), rfl, Option.some.inj hf, by rw [ht]; exact hP, va_K.moved hW.alike hK, hD⟩, hS.F ht⟩) hS.2.2 dX8_figure_18
