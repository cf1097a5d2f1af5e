/-! LeadSheets() -/
theorem blindI {av : List Value} {D : va_G} {cl : List vw_C} {ws : va_W} {tys : List (ClassId × FieldType)} {sz : Nat} {A B : Nat → Prop} {en : Nat → Nat} {C : String} : FrameBlind (va_Pc av (fun U => U.heap.size = sz ∧ va_P D cl ws U.heap ∧ va_K D cl tys U ∧ va_D A ws ∧ cE en B U U.heap ∧ va_AO C U)) := by
  intro a U g mk q
  obtain ⟨q0, q1, qP, qK, qD, qE, qA⟩ := q
  exact ⟨q0, q1, qP, va_K.moved (u := U) (U := U.calling g mk a) (Vm.Alike.refl U.vm) qK, qD, qE.call, va_AO.moved (u := U) (U := U.calling g mk a) (Vm.Alike.refl U.vm) qA⟩
set_option maxRecDepth 100000 in
set_option maxHeartbeats 4000000 in
theorem mX8_init (l : Launch) (en : Nat → Nat) (dC : Nat → ClassId) (dI : Nat → Nat → Nat) (h0 sz : Nat) (zN : (Nat → Int32) × (Nat → Nat → Int32)) (hN : fX2_init = some zN) : Met l yX8_init wsX8_init ({ frames := 4, cells := 12, slots := 580, locals := 85 }) (va_Pc [.ref h0] (fun U => U.heap.size = sz ∧ va_P (dC, dI) vwCl [(h0, .inr (5, [.null, .null, .null, .null, .null, .int 0]))] U.heap ∧ va_K (dC, dI) vwCl [] U ∧ va_D (fun _ => True) [(h0, .inr (5, [.null, .null, .null, .null, .null, .int 0]))] ∧ cE en (va_A [(h0, .inr (5, [.null, .null, .null, .null, .null, .int 0]))] sz) U U.heap ∧ va_AO RX1 U)) (va_Qv (fun (_ : Unit) => True) (fun (_ : Unit) (t : State) => ∃ (cI cC : ClassId) (G : Nat → Nat → Nat) (ca : Nat → Nat), G 0 100 = h0 ∧ va_P (dC, dI) vwCl (wC cI cC G ca 0 (fun _ _ => 0) (va_up (fun _ _ => 0) 2 zN.1) (va_up (fun _ _ _ => 0) 2 zN.2) (fun _ => 0)) t.heap ∧ va_K (dC, dI) vwCl (t8 cI cC) t ∧ va_D (va_A [(h0, .inr (5, [.null, .null, .null, .null, .null, .int 0]))] sz) (wC cI cC G ca 0 (fun _ _ => 0) (va_up (fun _ _ => 0) 2 zN.1) (va_up (fun _ _ _ => 0) 2 zN.2) (fun _ => 0))) (va_A [(h0, .inr (5, [.null, .null, .null, .null, .null, .int 0]))] sz)) 12 580 (va_A [(h0, .inr (5, [.null, .null, .null, .null, .null, .int 0]))] sz) := by
  refine Met.ofW (cc := cX8_init) (maxL := 1) (ret := none) (by decide) rfl ?_
  intro p e s m args below meth c s₁ BL hml hv
  obtain ⟨rfl, hsz, hP, hK, hD0, hE, hAO⟩ := hv
  have hx := BL.exec
  have hb := BL.bytes
  have hr := BL.returns
  have hts := atoms_spec (ws := wsX8_init) BL.pre
  have hown : s.vm.findClass RX8 = some m.cls := findClass_of_methodNamed BL.named
  have hlocks := BL.notSynchronized
  have hin : meth.name = "<init>" := (name_of_methodNamed BL.named BL.method).1
  have hinX8 : ∀ w ∈ u_ws RX8 TX8 6, w ∈ wsX8_init := by decide +kernel
  have hinX5 : ∀ w ∈ u_ws RX5 TX5 4, w ∈ wsX8_init := by decide +kernel
  have hinX2 : ∀ w ∈ u_ws RX2 TX2 4, w ∈ wsX8_init := by decide +kernel
  have hinX7 : ∀ w ∈ u_ws RX7 TX7 6, w ∈ wsX8_init := by decide +kernel
  have hinX6 : ∀ w ∈ u_ws RX6 TX6 2, w ∈ wsX8_init := by decide +kernel
  subst hsz
  have hD := hD0.self (sz := s.heap.size)
  generalize hAe : va_A [(h0, .inr (5, [.null, .null, .null, .null, .null, .int 0]))] s.heap.size = AA at hD hE ⊢
  have hA : ∀ q : Nat, s.heap.size ≤ q → AA q := fun q h => by rw [← hAe]; exact Or.inr h
  have hS : va_S AA s.heap s.heap [] := va_S.rf
  have hl := lv_entry ([.ref h0]) (n := 1) (Nat.le_of_ble_eq_true rfl)
  rw [lg_entry_eq]
  generalize (lg_sl ([.ref h0]) ++ List.replicate (1 - (lg_sl ([.ref h0])).length) Slot.unset).toArray = ls at hl ⊢
  have hl : lv_has ls 1 [(0, .ref h0)] := hl
  refine lv_aload_n hx hb dX8_init_0 rfl (lv_at hl 0 rfl) ?_
  refine W.objInit hx hb hown (hts (.methodLink RX8 1 objectInit) (by decide +kernel)) (hts (.instanceMethod objectInit) (by decide +kernel)) (hts (.code objectInit ⟨#[0xb1]⟩ 1 none) (by decide +kernel)) rfl (by rw [hml]; exact hl.1) rfl dX8_init_1 (Nat.le_of_ble_eq_true rfl) (Nat.le_of_ble_eq_true rfl) ?_
  refine W.eq (g2 := F0 m 4 ls []) rfl ?_
  refine lv_aload_n hx hb dX8_init_4 rfl (lv_at hl 0 rfl) ?_
  refine va_new (ci := 2) (fs := [.null, .int 0, .int 0, .int 0]) (C := RX5) (T := TX5) (N := 4) hx hb hts hinX5 tyX5 tyX5_ok hown (hts (.classLink RX8 7 RX5) (by decide +kernel)) (hts (.instantiable RX5 4) (by decide +kernel)) (hts (.initialized RX5) (by decide +kernel)) hK hP hD hS hA rfl (fun j hj => by rcases (show j = 0 ∨ j = 1 ∨ j = 2 ∨ j = 3 by omega) with rfl | rfl | rfl | rfl <;> rfl) (by decide +kernel) (by decide +kernel) dX8_init_5 (fun qQT H hP hD hS => ?_)
  refine W.cs (cells' := 1) (slots' := 4) rfl rfl ?_
  have hP : va_P (dC, dI) vwCl (([(h0, .inr (5, [.null, .null, .null, .null, .null, .int 0]))] : va_W) ++ [(qQT, .inr (2, [.null, .int 0, .int 0, .int 0]))]) H := hP
  have hD : va_D AA (([(h0, .inr (5, [.null, .null, .null, .null, .null, .int 0]))] : va_W) ++ [(qQT, .inr (2, [.null, .int 0, .int 0, .int 0]))]) := hD
  refine lv_dup hx hb dX8_init_8 rfl ?_
  have hPs : va_P (dC, dI) vwCl (([(h0, .inr (5, [.null, .null, .null, .null, .null, .int 0]))] : va_W) ++ ([(qQT, .inr (2, [.null, .int 0, .int 0, .int 0]))] ++ [])) H := hP
  have hDs : va_D AA (([(h0, .inr (5, [.null, .null, .null, .null, .null, .int 0]))] : va_W) ++ ([(qQT, .inr (2, [.null, .int 0, .int 0, .int 0]))] ++ [])) := hD
  have hF := va_freeMid hDs hS hA
  refine va_callv (va_runIN (host := RX8) (As := []) (rest := [.ref qQT, .ref h0]) ⟨hx, hb, hml, hown, hts⟩ (mX5_init l dC dI qQT H.size _ rfl) ⟨va_cnB 0 hts gX8_init_X5_init_n9 rfl rfl rfl (hE.2.2.2.2.1 (RX8, 9, yX5_init, RX8) (by decide +kernel)) (hts (.initialized RX5) (by decide +kernel)) (by decide +kernel) ⟨Nat.le_of_ble_eq_true rfl, Nat.le_of_ble_eq_true rfl⟩, rfl, hts (.instanceMethod yX5_init) (by decide +kernel)⟩ ⟨blindW, fun U hU hW => ⟨rfl, by rw [hU], by rw [hU]; exact hPs.mid, va_K.moved hW.alike (hK.sub [] rfl), hDs.mid.weaken (fun _ _ _ _ => trivial)⟩⟩ rfl rfl hl.1 rfl (lv_room (Nat.le_of_ble_eq_true rfl)) dX8_init_9 ⟨by decide +kernel, by decide +kernel⟩) hS (fun q _ h => hF q h) hF (fun u t H locs ht hvm hw hB hz1 hk1 hS => ?_)
  cases hw
  obtain ⟨cI, QT, hQT, hP1, hK1, hD1⟩ := hB
  rw [ht] at hP1
  have hK1 := va_K.moved hvm.symm hK1
  have hK := hK1
  have hK : va_K (dC, dI) vwCl [(cI, .int)] s := hK
  obtain ⟨hP, hD⟩ := va_joinMid hPs hDs hk1 hF hP1 hD1
  clear hPs hDs hP1 hD1 hk1 hF
  refine W.cs (cells' := 2) (slots' := 44) rfl rfl ?_
  have hP : va_P (dC, dI) vwCl (([(h0, .inr (5, [.null, .null, .null, .null, .null, .int 0]))] : va_W) ++ wT cI QT (fun _ => 0) (fun _ _ => 0)) H := hP
  have hD : va_D AA (([(h0, .inr (5, [.null, .null, .null, .null, .null, .int 0]))] : va_W) ++ wT cI QT (fun _ => 0) (fun _ _ => 0)) := hD
  refine W.eq (g2 := F0 m 12 ls [.ref (QT 100), .ref h0]) (by rw [hQT]) ?_
  refine va_putF (D := (dC, dI)) (ci := 5) (v := .ref (QT 100)) (ty := .object "LeadSheets$Tape") (C := RX8) (T := TX8) (N := 6) hx hb hts hinX8 tyX8 tyX8_ok nmX8 hown hK hP hD hS 0 (fs := [.null, .null, .null, .null, .null, .int 0]) rfl rfl 0 (by decide) (hts (.fieldLink RX8 10 "LeadSheets" "tape" "LLeadSheets$Tape;") (by decide +kernel)) (fun _ h9 => h9) rfl hin rfl (by decide +kernel) rfl rfl (Nat.le_of_ble_eq_true rfl) dX8_init_12 (fun H locs hP hD hS => ?_)
  have hP : va_P (dC, dI) vwCl (([(h0, .inr (5, [.ref (QT 100), .null, .null, .null, .null, .int 0]))] : va_W) ++ wT cI QT (fun _ => 0) (fun _ _ => 0)) H := hP
  have hD : va_D AA (([(h0, .inr (5, [.ref (QT 100), .null, .null, .null, .null, .int 0]))] : va_W) ++ wT cI QT (fun _ => 0) (fun _ _ => 0)) := hD
  refine lv_aload_n hx hb dX8_init_15 rfl (lv_at hl 0 rfl) ?_
  refine lv_bipush (v := (100 : Int32)) hx hb dX8_init_16 (by decide) ?_
  refine va_newq (N' := 100) hx hb hown (hts (.classLink RX8 16 RX1) (by decide +kernel)) hAO hK hP hD hS hA (by decide) (by decide +kernel) (by decide +kernel) (by decide +kernel) (by decide +kernel) dX8_init_18 (fun qc cC H hK hP hD hS => ?_)
  have hK : va_K (dC, dI) vwCl [(cI, .int), (cC, .object "LeadSheets$Chord")] s := hK
  refine W.cs (cells' := 3) (slots' := 144) rfl rfl ?_
  have hP : va_P (dC, dI) vwCl ((([(h0, .inr (5, [.ref (QT 100), .null, .null, .null, .null, .int 0]))] : va_W) ++ wT cI QT (fun _ => 0) (fun _ _ => 0)) ++ ([(qc, .inl (cC, 100, .inr (.inr (.inr (.inr (fun _ => none))))))] : va_W)) H := hP
  have hD : va_D AA ((([(h0, .inr (5, [.ref (QT 100), .null, .null, .null, .null, .int 0]))] : va_W) ++ wT cI QT (fun _ => 0) (fun _ _ => 0)) ++ ([(qc, .inl (cC, 100, .inr (.inr (.inr (.inr (fun _ => none))))))] : va_W)) := hD
  refine va_putF (D := (dC, dI)) (ci := 5) (v := .ref qc) (ty := .array (.object "LeadSheets$Chord")) (C := RX8) (T := TX8) (N := 6) hx hb hts hinX8 tyX8 tyX8_ok nmX8 hown hK hP hD hS 0 (fs := [.ref (QT 100), .null, .null, .null, .null, .int 0]) rfl rfl 1 (by decide) (hts (.fieldLink RX8 18 "LeadSheets" "chords" "[LLeadSheets$Chord;") (by decide +kernel)) (fun _ h9 => h9) rfl hin rfl (by decide +kernel) rfl rfl (Nat.le_of_ble_eq_true rfl) dX8_init_21 (fun H locs hP hD hS => ?_)
  have hP : va_P (dC, dI) vwCl ((([(h0, .inr (5, [.ref (QT 100), .ref qc, .null, .null, .null, .int 0]))] : va_W) ++ wT cI QT (fun _ => 0) (fun _ _ => 0)) ++ ([(qc, .inl (cC, 100, .inr (.inr (.inr (.inr (fun _ => none))))))] : va_W)) H := hP
  have hD : va_D AA ((([(h0, .inr (5, [.ref (QT 100), .ref qc, .null, .null, .null, .int 0]))] : va_W) ++ wT cI QT (fun _ => 0) (fun _ _ => 0)) ++ ([(qc, .inl (cC, 100, .inr (.inr (.inr (.inr (fun _ => none))))))] : va_W)) := hD
  refine lv_aload_n hx hb dX8_init_24 rfl (lv_at hl 0 rfl) ?_
  refine va_new (ci := 1) (fs := [.null, .null, .int 0, .int 0]) (C := RX2) (T := TX2) (N := 4) hx hb hts hinX2 tyX2 tyX2_ok hown (hts (.classLink RX8 22 RX2) (by decide +kernel)) (hts (.instantiable RX2 4) (by decide +kernel)) (hts (.initialized RX2) (by decide +kernel)) hK hP hD hS hA rfl (fun j hj => by rcases (show j = 0 ∨ j = 1 ∨ j = 2 ∨ j = 3 by omega) with rfl | rfl | rfl | rfl <;> rfl) (by decide +kernel) (by decide +kernel) dX8_init_25 (fun qQN H hP hD hS => ?_)
  refine W.cs (cells' := 4) (slots' := 148) rfl rfl ?_
  have hP : va_P (dC, dI) vwCl (((([(h0, .inr (5, [.ref (QT 100), .ref qc, .null, .null, .null, .int 0]))] : va_W) ++ wT cI QT (fun _ => 0) (fun _ _ => 0)) ++ ([(qc, .inl (cC, 100, .inr (.inr (.inr (.inr (fun _ => none))))))] : va_W)) ++ [(qQN, .inr (1, [.null, .null, .int 0, .int 0]))]) H := hP
  have hD : va_D AA (((([(h0, .inr (5, [.ref (QT 100), .ref qc, .null, .null, .null, .int 0]))] : va_W) ++ wT cI QT (fun _ => 0) (fun _ _ => 0)) ++ ([(qc, .inl (cC, 100, .inr (.inr (.inr (.inr (fun _ => none))))))] : va_W)) ++ [(qQN, .inr (1, [.null, .null, .int 0, .int 0]))]) := hD
  refine lv_dup hx hb dX8_init_28 rfl ?_
  have hPs : va_P (dC, dI) vwCl (((([(h0, .inr (5, [.ref (QT 100), .ref qc, .null, .null, .null, .int 0]))] : va_W) ++ wT cI QT (fun _ => 0) (fun _ _ => 0)) ++ ([(qc, .inl (cC, 100, .inr (.inr (.inr (.inr (fun _ => none))))))] : va_W)) ++ ([(qQN, .inr (1, [.null, .null, .int 0, .int 0]))] ++ [])) H := hP
  have hDs : va_D AA (((([(h0, .inr (5, [.ref (QT 100), .ref qc, .null, .null, .null, .int 0]))] : va_W) ++ wT cI QT (fun _ => 0) (fun _ _ => 0)) ++ ([(qc, .inl (cC, 100, .inr (.inr (.inr (.inr (fun _ => none))))))] : va_W)) ++ ([(qQN, .inr (1, [.null, .null, .int 0, .int 0]))] ++ [])) := hD
  have hF := va_freeMid hDs hS hA
  refine va_callv (va_runI (As := []) (rest := [.ref qQN, .ref h0]) ⟨hx, hb, hml, hown, hts⟩ (mX2_init l en dC dI qQN H.size zN hN) (cwI 0 hts gX8_init_X2_init rfl rfl rfl (hts (.initialized RX2) (by decide +kernel)) (hts (.methodLink RX8 24 yX2_init) (by decide +kernel)) (hts (.instanceMethod yX2_init) (by decide +kernel)) rfl (by decide +kernel) ⟨Nat.le_of_ble_eq_true rfl, Nat.le_of_ble_eq_true rfl⟩) ⟨blindWE, fun U hU hW => ⟨rfl, by rw [hU], by rw [hU]; exact hPs.mid, va_K.moved hW.alike (hK.sub [] rfl), hDs.mid.weaken (fun _ _ _ _ => trivial), cE_sub hE hS hW hU hF⟩⟩ rfl rfl hl.1 rfl (lv_room (Nat.le_of_ble_eq_true rfl)) dX8_init_29 ⟨by decide +kernel, by decide +kernel⟩) hS (fun q _ h => hF q h) hF (fun u t H locs ht hvm hw hB hz1 hk1 hS => ?_)
  cases hw
  obtain ⟨cN, QN, hQN, hP1, hK1, hD1⟩ := hB
  rw [ht] at hP1
  have hK1 := va_K.moved hvm.symm hK1
  have ecN : cI = cN := Option.some.inj ((hK.2 0 (cI, .int) rfl).2.symm.trans (hK1.2 0 (cN, .int) rfl).2)
  subst ecN
  obtain ⟨hP, hD⟩ := va_joinMid hPs hDs hk1 hF hP1 hD1
  clear hPs hDs hP1 hD1 hk1 hF
  refine W.cs (cells' := 6) (slots' := 408) rfl rfl ?_
  have hP : va_P (dC, dI) vwCl (((([(h0, .inr (5, [.ref (QT 100), .ref qc, .null, .null, .null, .int 0]))] : va_W) ++ wT cI QT (fun _ => 0) (fun _ _ => 0)) ++ ([(qc, .inl (cC, 100, .inr (.inr (.inr (.inr (fun _ => none))))))] : va_W)) ++ wN cI QN zN.1 zN.2) H := hP
  have hD : va_D AA (((([(h0, .inr (5, [.ref (QT 100), .ref qc, .null, .null, .null, .int 0]))] : va_W) ++ wT cI QT (fun _ => 0) (fun _ _ => 0)) ++ ([(qc, .inl (cC, 100, .inr (.inr (.inr (.inr (fun _ => none))))))] : va_W)) ++ wN cI QN zN.1 zN.2) := hD
  refine W.eq (g2 := F0 m 32 ls [.ref (QN 100), .ref h0]) (by rw [hQN]) ?_
  refine va_putF (D := (dC, dI)) (ci := 5) (v := .ref (QN 100)) (ty := .object "LeadSheets$Names") (C := RX8) (T := TX8) (N := 6) hx hb hts hinX8 tyX8 tyX8_ok nmX8 hown hK hP hD hS 0 (fs := [.ref (QT 100), .ref qc, .null, .null, .null, .int 0]) rfl rfl 2 (by decide) (hts (.fieldLink RX8 25 "LeadSheets" "names" "LLeadSheets$Names;") (by decide +kernel)) (fun _ h9 => h9) rfl hin rfl (by decide +kernel) rfl rfl (Nat.le_of_ble_eq_true rfl) dX8_init_32 (fun H locs hP hD hS => ?_)
  have hP : va_P (dC, dI) vwCl (((([(h0, .inr (5, [.ref (QT 100), .ref qc, .ref (QN 100), .null, .null, .int 0]))] : va_W) ++ wT cI QT (fun _ => 0) (fun _ _ => 0)) ++ ([(qc, .inl (cC, 100, .inr (.inr (.inr (.inr (fun _ => none))))))] : va_W)) ++ wN cI QN zN.1 zN.2) H := hP
  have hD : va_D AA (((([(h0, .inr (5, [.ref (QT 100), .ref qc, .ref (QN 100), .null, .null, .int 0]))] : va_W) ++ wT cI QT (fun _ => 0) (fun _ _ => 0)) ++ ([(qc, .inl (cC, 100, .inr (.inr (.inr (.inr (fun _ => none))))))] : va_W)) ++ wN cI QN zN.1 zN.2) := hD
  refine lv_aload_n hx hb dX8_init_35 rfl (lv_at hl 0 rfl) ?_
  refine va_new (ci := 4) (fs := [.null, .int 0, .null, .null, .long 0, .int 0]) (C := RX7) (T := TX7) (N := 6) hx hb hts hinX7 tyX7 tyX7_ok hown (hts (.classLink RX8 29 RX7) (by decide +kernel)) (hts (.instantiable RX7 6) (by decide +kernel)) (hts (.initialized RX7) (by decide +kernel)) hK hP hD hS hA rfl (fun j hj => by rcases (show j = 0 ∨ j = 1 ∨ j = 2 ∨ j = 3 ∨ j = 4 ∨ j = 5 by omega) with rfl | rfl | rfl | rfl | rfl | rfl <;> rfl) (by decide +kernel) (by decide +kernel) dX8_init_36 (fun qQV H hP hD hS => ?_)
  refine W.cs (cells' := 7) (slots' := 414) rfl rfl ?_
  have hP : va_P (dC, dI) vwCl ((((([(h0, .inr (5, [.ref (QT 100), .ref qc, .ref (QN 100), .null, .null, .int 0]))] : va_W) ++ wT cI QT (fun _ => 0) (fun _ _ => 0)) ++ ([(qc, .inl (cC, 100, .inr (.inr (.inr (.inr (fun _ => none))))))] : va_W)) ++ wN cI QN zN.1 zN.2) ++ [(qQV, .inr (4, [.null, .int 0, .null, .null, .long 0, .int 0]))]) H := hP
  have hD : va_D AA ((((([(h0, .inr (5, [.ref (QT 100), .ref qc, .ref (QN 100), .null, .null, .int 0]))] : va_W) ++ wT cI QT (fun _ => 0) (fun _ _ => 0)) ++ ([(qc, .inl (cC, 100, .inr (.inr (.inr (.inr (fun _ => none))))))] : va_W)) ++ wN cI QN zN.1 zN.2) ++ [(qQV, .inr (4, [.null, .int 0, .null, .null, .long 0, .int 0]))]) := hD
  refine lv_dup hx hb dX8_init_39 rfl ?_
  have hPs : va_P (dC, dI) vwCl ((((([(h0, .inr (5, [.ref (QT 100), .ref qc, .ref (QN 100), .null, .null, .int 0]))] : va_W) ++ wT cI QT (fun _ => 0) (fun _ _ => 0)) ++ ([(qc, .inl (cC, 100, .inr (.inr (.inr (.inr (fun _ => none))))))] : va_W)) ++ wN cI QN zN.1 zN.2) ++ ([(qQV, .inr (4, [.null, .int 0, .null, .null, .long 0, .int 0]))] ++ [])) H := hP
  have hDs : va_D AA ((((([(h0, .inr (5, [.ref (QT 100), .ref qc, .ref (QN 100), .null, .null, .int 0]))] : va_W) ++ wT cI QT (fun _ => 0) (fun _ _ => 0)) ++ ([(qc, .inl (cC, 100, .inr (.inr (.inr (.inr (fun _ => none))))))] : va_W)) ++ wN cI QN zN.1 zN.2) ++ ([(qQV, .inr (4, [.null, .int 0, .null, .null, .long 0, .int 0]))] ++ [])) := hD
  have hF := va_freeMid hDs hS hA
  refine va_callv (va_runIN (host := RX8) (As := []) (rest := [.ref qQV, .ref h0]) ⟨hx, hb, hml, hown, hts⟩ (mX7_init l dC dI qQV H.size _ rfl) ⟨va_cnB 0 hts gX8_init_X7_init_n31 rfl rfl rfl (hE.2.2.2.2.1 (RX8, 31, yX7_init, RX8) (by decide +kernel)) (hts (.initialized RX7) (by decide +kernel)) (by decide +kernel) ⟨Nat.le_of_ble_eq_true rfl, Nat.le_of_ble_eq_true rfl⟩, rfl, hts (.instanceMethod yX7_init) (by decide +kernel)⟩ ⟨blindW, fun U hU hW => ⟨rfl, by rw [hU], by rw [hU]; exact hPs.mid, va_K.moved hW.alike (hK.sub [] rfl), hDs.mid.weaken (fun _ _ _ _ => trivial)⟩⟩ rfl rfl hl.1 rfl (lv_room (Nat.le_of_ble_eq_true rfl)) dX8_init_40 ⟨by decide +kernel, by decide +kernel⟩) hS (fun q _ h => hF q h) hF (fun u t H locs ht hvm hw hB hz1 hk1 hS => ?_)
  cases hw
  obtain ⟨cN, QV, hQV, hP1, hK1, hD1⟩ := hB
  rw [ht] at hP1
  have hK1 := va_K.moved hvm.symm hK1
  have ecN : cI = cN := Option.some.inj ((hK.2 0 (cI, .int) rfl).2.symm.trans (hK1.2 0 (cN, .int) rfl).2)
  subst ecN
  obtain ⟨hP, hD⟩ := va_joinMid hPs hDs hk1 hF hP1 hD1
  clear hPs hDs hP1 hD1 hk1 hF
  refine W.cs (cells' := 10) (slots' := 566) rfl rfl ?_
  have hP : va_P (dC, dI) vwCl ((((([(h0, .inr (5, [.ref (QT 100), .ref qc, .ref (QN 100), .null, .null, .int 0]))] : va_W) ++ wT cI QT (fun _ => 0) (fun _ _ => 0)) ++ ([(qc, .inl (cC, 100, .inr (.inr (.inr (.inr (fun _ => none))))))] : va_W)) ++ wN cI QN zN.1 zN.2) ++ wV cI QV (fun _ => 0) (fun _ => 0) (fun _ _ => 0)) H := hP
  have hD : va_D AA ((((([(h0, .inr (5, [.ref (QT 100), .ref qc, .ref (QN 100), .null, .null, .int 0]))] : va_W) ++ wT cI QT (fun _ => 0) (fun _ _ => 0)) ++ ([(qc, .inl (cC, 100, .inr (.inr (.inr (.inr (fun _ => none))))))] : va_W)) ++ wN cI QN zN.1 zN.2) ++ wV cI QV (fun _ => 0) (fun _ => 0) (fun _ _ => 0)) := hD
  refine W.eq (g2 := F0 m 43 ls [.ref (QV 100), .ref h0]) (by rw [hQV]) ?_
  refine va_putF (D := (dC, dI)) (ci := 5) (v := .ref (QV 100)) (ty := .object "LeadSheets$Voicing") (C := RX8) (T := TX8) (N := 6) hx hb hts hinX8 tyX8 tyX8_ok nmX8 hown hK hP hD hS 0 (fs := [.ref (QT 100), .ref qc, .ref (QN 100), .null, .null, .int 0]) rfl rfl 3 (by decide) (hts (.fieldLink RX8 32 "LeadSheets" "voicing" "LLeadSheets$Voicing;") (by decide +kernel)) (fun _ h9 => h9) rfl hin rfl (by decide +kernel) rfl rfl (Nat.le_of_ble_eq_true rfl) dX8_init_43 (fun H locs hP hD hS => ?_)
  have hP : va_P (dC, dI) vwCl ((((([(h0, .inr (5, [.ref (QT 100), .ref qc, .ref (QN 100), .ref (QV 100), .null, .int 0]))] : va_W) ++ wT cI QT (fun _ => 0) (fun _ _ => 0)) ++ ([(qc, .inl (cC, 100, .inr (.inr (.inr (.inr (fun _ => none))))))] : va_W)) ++ wN cI QN zN.1 zN.2) ++ wV cI QV (fun _ => 0) (fun _ => 0) (fun _ _ => 0)) H := hP
  have hD : va_D AA ((((([(h0, .inr (5, [.ref (QT 100), .ref qc, .ref (QN 100), .ref (QV 100), .null, .int 0]))] : va_W) ++ wT cI QT (fun _ => 0) (fun _ _ => 0)) ++ ([(qc, .inl (cC, 100, .inr (.inr (.inr (.inr (fun _ => none))))))] : va_W)) ++ wN cI QN zN.1 zN.2) ++ wV cI QV (fun _ => 0) (fun _ => 0) (fun _ _ => 0)) := hD
  refine lv_aload_n hx hb dX8_init_46 rfl (lv_at hl 0 rfl) ?_
  refine va_new (ci := 3) (fs := [.null, .int 0]) (C := RX6) (T := TX6) (N := 2) hx hb hts hinX6 tyX6 tyX6_ok hown (hts (.classLink RX8 36 RX6) (by decide +kernel)) (hts (.instantiable RX6 2) (by decide +kernel)) (hts (.initialized RX6) (by decide +kernel)) hK hP hD hS hA rfl (fun j hj => by rcases (show j = 0 ∨ j = 1 by omega) with rfl | rfl <;> rfl) (by decide +kernel) (by decide +kernel) dX8_init_47 (fun qQX H hP hD hS => ?_)
  refine W.cs (cells' := 11) (slots' := 568) rfl rfl ?_
  have hP : va_P (dC, dI) vwCl (((((([(h0, .inr (5, [.ref (QT 100), .ref qc, .ref (QN 100), .ref (QV 100), .null, .int 0]))] : va_W) ++ wT cI QT (fun _ => 0) (fun _ _ => 0)) ++ ([(qc, .inl (cC, 100, .inr (.inr (.inr (.inr (fun _ => none))))))] : va_W)) ++ wN cI QN zN.1 zN.2) ++ wV cI QV (fun _ => 0) (fun _ => 0) (fun _ _ => 0)) ++ [(qQX, .inr (3, [.null, .int 0]))]) H := hP
  have hD : va_D AA (((((([(h0, .inr (5, [.ref (QT 100), .ref qc, .ref (QN 100), .ref (QV 100), .null, .int 0]))] : va_W) ++ wT cI QT (fun _ => 0) (fun _ _ => 0)) ++ ([(qc, .inl (cC, 100, .inr (.inr (.inr (.inr (fun _ => none))))))] : va_W)) ++ wN cI QN zN.1 zN.2) ++ wV cI QV (fun _ => 0) (fun _ => 0) (fun _ _ => 0)) ++ [(qQX, .inr (3, [.null, .int 0]))]) := hD
  refine lv_dup hx hb dX8_init_50 rfl ?_
  have hPs : va_P (dC, dI) vwCl (((((([(h0, .inr (5, [.ref (QT 100), .ref qc, .ref (QN 100), .ref (QV 100), .null, .int 0]))] : va_W) ++ wT cI QT (fun _ => 0) (fun _ _ => 0)) ++ ([(qc, .inl (cC, 100, .inr (.inr (.inr (.inr (fun _ => none))))))] : va_W)) ++ wN cI QN zN.1 zN.2) ++ wV cI QV (fun _ => 0) (fun _ => 0) (fun _ _ => 0)) ++ ([(qQX, .inr (3, [.null, .int 0]))] ++ [])) H := hP
  have hDs : va_D AA (((((([(h0, .inr (5, [.ref (QT 100), .ref qc, .ref (QN 100), .ref (QV 100), .null, .int 0]))] : va_W) ++ wT cI QT (fun _ => 0) (fun _ _ => 0)) ++ ([(qc, .inl (cC, 100, .inr (.inr (.inr (.inr (fun _ => none))))))] : va_W)) ++ wN cI QN zN.1 zN.2) ++ wV cI QV (fun _ => 0) (fun _ => 0) (fun _ _ => 0)) ++ ([(qQX, .inr (3, [.null, .int 0]))] ++ [])) := hD
  have hF := va_freeMid hDs hS hA
  refine va_callv (va_runIN (host := RX8) (As := []) (rest := [.ref qQX, .ref h0]) ⟨hx, hb, hml, hown, hts⟩ (mX6_init l dC dI qQX H.size _ rfl) ⟨va_cnB 0 hts gX8_init_X6_init_n38 rfl rfl rfl (hE.2.2.2.2.1 (RX8, 38, yX6_init, RX8) (by decide +kernel)) (hts (.initialized RX6) (by decide +kernel)) (by decide +kernel) ⟨Nat.le_of_ble_eq_true rfl, Nat.le_of_ble_eq_true rfl⟩, rfl, hts (.instanceMethod yX6_init) (by decide +kernel)⟩ ⟨blindW, fun U hU hW => ⟨rfl, by rw [hU], by rw [hU]; exact hPs.mid, va_K.moved hW.alike (hK.sub [] rfl), hDs.mid.weaken (fun _ _ _ _ => trivial)⟩⟩ rfl rfl hl.1 rfl (lv_room (Nat.le_of_ble_eq_true rfl)) dX8_init_51 ⟨by decide +kernel, by decide +kernel⟩) hS (fun q _ h => hF q h) hF (fun u t H locs ht hvm hw hB hz1 hk1 hS => ?_)
  cases hw
  obtain ⟨cN, QX, hQX, hP1, hK1, hD1⟩ := hB
  rw [ht] at hP1
  have hK1 := va_K.moved hvm.symm hK1
  have ecN : cI = cN := Option.some.inj ((hK.2 0 (cI, .int) rfl).2.symm.trans (hK1.2 0 (cN, .int) rfl).2)
  subst ecN
  obtain ⟨hP, hD⟩ := va_joinMid hPs hDs hk1 hF hP1 hD1
  clear hPs hDs hP1 hD1 hk1 hF
  refine W.cs (cells' := 12) (slots' := 580) rfl rfl ?_
  have hP : va_P (dC, dI) vwCl (((((([(h0, .inr (5, [.ref (QT 100), .ref qc, .ref (QN 100), .ref (QV 100), .null, .int 0]))] : va_W) ++ wT cI QT (fun _ => 0) (fun _ _ => 0)) ++ ([(qc, .inl (cC, 100, .inr (.inr (.inr (.inr (fun _ => none))))))] : va_W)) ++ wN cI QN zN.1 zN.2) ++ wV cI QV (fun _ => 0) (fun _ => 0) (fun _ _ => 0)) ++ wX cI QX (fun _ => 0) (fun _ _ => 0)) H := hP
  have hD : va_D AA (((((([(h0, .inr (5, [.ref (QT 100), .ref qc, .ref (QN 100), .ref (QV 100), .null, .int 0]))] : va_W) ++ wT cI QT (fun _ => 0) (fun _ _ => 0)) ++ ([(qc, .inl (cC, 100, .inr (.inr (.inr (.inr (fun _ => none))))))] : va_W)) ++ wN cI QN zN.1 zN.2) ++ wV cI QV (fun _ => 0) (fun _ => 0) (fun _ _ => 0)) ++ wX cI QX (fun _ => 0) (fun _ _ => 0)) := hD
  refine W.eq (g2 := F0 m 54 ls [.ref (QX 100), .ref h0]) (by rw [hQX]) ?_
  refine va_putF (D := (dC, dI)) (ci := 5) (v := .ref (QX 100)) (ty := .object "LeadSheets$Text") (C := RX8) (T := TX8) (N := 6) hx hb hts hinX8 tyX8 tyX8_ok nmX8 hown hK hP hD hS 0 (fs := [.ref (QT 100), .ref qc, .ref (QN 100), .ref (QV 100), .null, .int 0]) rfl rfl 4 (by decide) (hts (.fieldLink RX8 39 "LeadSheets" "text" "LLeadSheets$Text;") (by decide +kernel)) (fun _ h9 => h9) rfl hin rfl (by decide +kernel) rfl rfl (Nat.le_of_ble_eq_true rfl) dX8_init_54 (fun H locs hP hD hS => ?_)
  have hP : va_P (dC, dI) vwCl (((((([(h0, .inr (5, [.ref (QT 100), .ref qc, .ref (QN 100), .ref (QV 100), .ref (QX 100), .int 0]))] : va_W) ++ wT cI QT (fun _ => 0) (fun _ _ => 0)) ++ ([(qc, .inl (cC, 100, .inr (.inr (.inr (.inr (fun _ => none))))))] : va_W)) ++ wN cI QN zN.1 zN.2) ++ wV cI QV (fun _ => 0) (fun _ => 0) (fun _ _ => 0)) ++ wX cI QX (fun _ => 0) (fun _ _ => 0)) H := hP
  have hD : va_D AA (((((([(h0, .inr (5, [.ref (QT 100), .ref qc, .ref (QN 100), .ref (QV 100), .ref (QX 100), .int 0]))] : va_W) ++ wT cI QT (fun _ => 0) (fun _ _ => 0)) ++ ([(qc, .inl (cC, 100, .inr (.inr (.inr (.inr (fun _ => none))))))] : va_W)) ++ wN cI QN zN.1 zN.2) ++ wV cI QV (fun _ => 0) (fun _ => 0) (fun _ _ => 0)) ++ wX cI QX (fun _ => 0) (fun _ _ => 0)) := hD
  have hpm : ((((((([(h0, .inr (5, [.ref (QT 100), .ref qc, .ref (QN 100), .ref (QV 100), .ref (QX 100), .int 0]))] : va_W) ++ wT cI QT (fun _ => 0) (fun _ _ => 0)) ++ ([(qc, .inl (cC, 100, .inr (.inr (.inr (.inr (fun _ => none))))))] : va_W)) ++ wN cI QN zN.1 zN.2) ++ wV cI QV (fun _ => 0) (fun _ => 0) (fun _ _ => 0)) ++ wX cI QX (fun _ => 0) (fun _ _ => 0))).Perm (wC cI cC (va_up (va_up (va_up (va_up (va_up (fun _ _ => 0) 0 (va_up (va_up (fun _ => 0) 100 h0) 1 qc)) 1 QT) 2 QN) 3 QV) 4 QX) (fun _ => 0) 0 (fun _ _ => 0) (va_up (fun _ _ => 0) 2 zN.1) (va_up (fun _ _ _ => 0) 2 zN.2) (fun _ => 0)) := by
    have e : (wC cI cC (va_up (va_up (va_up (va_up (va_up (fun _ _ => 0) 0 (va_up (va_up (fun _ => 0) 100 h0) 1 qc)) 1 QT) 2 QN) 3 QV) 4 QX) (fun _ => 0) 0 (fun _ _ => 0) (va_up (fun _ _ => 0) 2 zN.1) (va_up (fun _ _ _ => 0) 2 zN.2) (fun _ => 0)) = (([(h0, .inr (5, [.ref (QT 100), .ref qc, .ref (QN 100), .ref (QV 100), .ref (QX 100), .int 0]))] : va_W) ++ ([(qc, .inl (cC, 100, .inr (.inr (.inr (.inr (cfA 0 (fun _ => 0)))))))] : va_W)) ++ (wT cI QT (fun _ => 0) (fun _ _ => 0) ++ (wN cI QN zN.1 zN.2 ++ (wV cI QV (fun _ => 0) (fun _ => 0) (fun _ _ => 0) ++ wX cI QX (fun _ => 0) (fun _ _ => 0)))) := rfl
    rw [e]
    have ec : cfA 0 (fun _ => 0) = (fun _ => none) := by funext j; simp [cfA]
    rw [ec]
    simp only [List.append_assoc]
    refine List.Perm.append_left _ ?_
    rw [← List.append_assoc, ← List.append_assoc (bs := wT cI QT (fun _ => 0) (fun _ _ => 0))]
    exact List.Perm.append_right _ List.perm_append_comm
  have hP := hP.perm hpm
  have hD := hD.perm hpm
  exact W.vret hx hb hr (fun t ht hW => ⟨⟨(), rfl, trivial, cI, cC, (va_up (va_up (va_up (va_up (va_up (fun _ _ => 0) 0 (va_up (va_up (fun _ => 0) 100 h0) 1 qc)) 1 QT) 2 QN) 3 QV) 4 QX), (fun _ => 0), rfl, by rw [ht]; exact hP, va_K.moved hW.alike hK, hD⟩, hS.F ht⟩) hS.2.2 dX8_init_57
