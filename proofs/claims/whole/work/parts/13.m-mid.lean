def fX9_readBody_341B (B : Nat → Nat → Int64)  (k341 : (Nat → Int32) → (Nat → Nat → Int32) → Int32 → Option (Int32 × (Nat → Int32) × (Nat → Nat → Int32))) (I : Nat → Int32) (A : Nat → Nat → Int32) (v5 : Int32) : Option (Int32 × (Nat → Int32) × (Nat → Nat → Int32)) :=
  (if v5 = (-2 : Int32) then (some ((-2 : Int32), (I, A))) else ((fX9_changes B I A v5).bind fun (r65, I63, A64) => (if r65 = 0 then (some ((I63 23), (I63, A64))) else (if gd v5 13 then ((fX9_lengthOf ((B 18) v5.toNatClampNeg)).bind fun r69 => ((fX9_word_vchanges B (upd I63 23 ((I63 23) + r69)) A64).bind fun r71 => (k341 (upd I63 23 ((I63 23) + r69)) A64 r71))) else none))))
def fX9_readBody_341 (B : Nat → Nat → Int64)  : Nat → ((Nat → Int32) → (Nat → Nat → Int32) → Int32 → Option (Int32 × (Nat → Int32) × (Nat → Nat → Int32)))
  | 0 => fun _ _ _ => none
  | n + 1 => fX9_readBody_341B B  (fX9_readBody_341 B  n)
def fX9_readBody_317 (B : Nat → Nat → Int64)  (I : Nat → Int32) (A : Nat → Nat → Int32) (v5 : Int32) : Option (Int32 × (Nat → Int32) × (Nat → Nat → Int32)) :=
  (if v5 ≤ (2 : Int32) then ((fX9_word_vchanges B I A).bind fun r88 => (fX9_readBody_341 B  FU I A r88)) else ((fX9_comes B I A (13 : Int32) (21 : Int32)).bind fun (I91, A92) => ((fX9_word_vchanges B I91 A92).bind fun r94 => (fX9_readBody_341 B  FU I91 A92 r94))))
def fX9_readBody_303 (B : Nat → Nat → Int64)  (I : Nat → Int32) (A : Nat → Nat → Int32) (v5 : Int32) : Option (Int32 × (Nat → Int32) × (Nat → Nat → Int32)) :=
  (if v5 ≤ (1 : Int32) then (fX9_readBody_317 B  I A v5) else ((fX9_comes B I A (11 : Int32) (17 : Int32)).bind fun (I84, A85) => (fX9_readBody_317 B  I84 A85 v5)))
def fX9_readBody_287 (B : Nat → Nat → Int64)  (I : Nat → Int32) (A : Nat → Nat → Int32) (v5 : Int32) (t0 : Int32) (t1 : Int32) : Option (Int32 × (Nat → Int32) × (Nat → Nat → Int32)) :=
  ((fX9_comes B I A t1 t0).bind fun (I74, A75) => (if v5 ≤ 0 then (fX9_readBody_303 B  I74 A75 v5) else ((fX9_comes B I74 A75 (9 : Int32) (14 : Int32)).bind fun (I79, A80) => (fX9_readBody_303 B  I79 A80 v5))))
def fX9_readBody_193 (B : Nat → Nat → Int64)  (I : Nat → Int32) (A : Nat → Nat → Int32) (v3 : Int32) (t0 : Int32) : Option (Int32 × (Nat → Int32) × (Nat → Nat → Int32)) :=
  (if t0 = (-2 : Int32) then ((fX9_word_vchanges B I A).bind fun r40 => (fX9_readBody_341 B  FU I A r40)) else (if gd t0 14 then ((fX9_lengthOf ((B 17) t0.toNatClampNeg)).bind fun r43 => (if (2 : Int32) ≤ t0 then (if (jrem (t0 - (2 : Int32)) (3 : Int32)) ≤ 0 then (if v3 = 0 then (fX9_readBody_287 B  (upd I 23 ((I 23) + r43)) A ((t0 - (2 : Int32)) / (3 : Int32)) (10 : Int32) (7 : Int32)) else (fX9_readBody_287 B  (upd I 23 ((I 23) + r43)) A ((t0 - (2 : Int32)) / (3 : Int32)) (9 : Int32) (7 : Int32))) else (fX9_readBody_287 B  (upd I 23 ((I 23) + r43)) A ((t0 - (2 : Int32)) / (3 : Int32)) (11 : Int32) (7 : Int32))) else ((fX9_comes B (upd I 23 ((I 23) + r43)) A (6 : Int32) (9 : Int32)).bind fun (I49, A50) => (if t0 = 0 then ((fX9_comes B I49 A50 (9 : Int32) (14 : Int32)).bind fun (I56, A57) => ((fX9_word_vchanges B I56 A57).bind fun r59 => (fX9_readBody_341 B  FU I56 A57 r59))) else ((fX9_word_vchanges B I49 A50).bind fun r53 => (fX9_readBody_341 B  FU I49 A50 r53)))))) else none))
def fX9_readBody_171 (B : Nat → Nat → Int64)  (I : Nat → Int32) (A : Nat → Nat → Int32) (v1 : Int32) (v3 : Int32) (t0 : Int32) (t1 : Int32) : Option (Int32 × (Nat → Int32) × (Nat → Nat → Int32)) :=
  ((fX9_comes B I A t1 t0).bind fun (I33, A34) => (if v1 = (6 : Int32) then (fX9_readBody_193 B  I33 A34 v3 (-2 : Int32)) else ((fX9_word_vsizes B I33 A34).bind fun r37 => (fX9_readBody_193 B  I33 A34 v3 r37))))
def fX9_readBody_142 (B : Nat → Nat → Int64)  (I : Nat → Int32) (A : Nat → Nat → Int32) (v1 : Int32) (t0 : Int32) : Option (Int32 × (Nat → Int32) × (Nat → Nat → Int32)) :=
  (if t0 = 0 then (if v1 = (4 : Int32) then (fX9_readBody_171 B  I A v1 t0 (8 : Int32) (5 : Int32)) else (if v1 = (5 : Int32) then (fX9_readBody_171 B  I A v1 t0 (8 : Int32) (5 : Int32)) else (fX9_readBody_171 B  I A v1 t0 (7 : Int32) (5 : Int32)))) else (fX9_readBody_171 B  I A v1 t0 (6 : Int32) (5 : Int32)))
def fX9_readBody_127 (B : Nat → Nat → Int64)  (I : Nat → Int32) (A : Nat → Nat → Int32) (v1 : Int32) : Option (Int32 × (Nat → Int32) × (Nat → Nat → Int32)) :=
  (if v1 = (2 : Int32) then (fX9_readBody_142 B  I A v1 (1 : Int32)) else (if v1 = (3 : Int32) then (fX9_readBody_142 B  I A v1 (1 : Int32)) else (fX9_readBody_142 B  I A v1 (0 : Int32))))
def fX9_readBody_96 (B : Nat → Nat → Int64)  (I : Nat → Int32) (A : Nat → Nat → Int32) (v1 : Int32) (t0 : Int32) (t1 : Int32) : Option (Int32 × (Nat → Int32) × (Nat → Nat → Int32)) :=
  (if v1 = (6 : Int32) then (fX9_readBody_127 B  (upd I 23 (t1 + t0)) A v1) else (if (fX9_isIn v1 (0 : Int32) (3 : Int32)) = 0 then ((fX9_comes B (upd I 23 (t1 + t0)) A (3 : Int32) (4 : Int32)).bind fun (I20, A21) => (fX9_readBody_127 B  I20 A21 v1)) else ((fX9_comes B (upd I 23 (t1 + t0)) A (3 : Int32) (3 : Int32)).bind fun (I24, A25) => (fX9_readBody_127 B  I24 A25 v1))))
def fX9_readBody_72 (B : Nat → Nat → Int64)  (I : Nat → Int32) (A : Nat → Nat → Int32) (v1 : Int32) : Option (Int32 × (Nat → Int32) × (Nat → Nat → Int32)) :=
  (if v1 = (-2 : Int32) then (fX9_readBody_96 B  I A v1 (0 : Int32) (I 23)) else (if gd v1 7 then ((fX9_lengthOf ((B 16) v1.toNatClampNeg)).bind fun r15 => (fX9_readBody_96 B  I A v1 r15 (I 23))) else none))
def fX9_readBody (B : Nat → Nat → Int64) (I : Nat → Int32) (A : Nat → Nat → Int32)  : Option (Int32 × (Nat → Int32) × (Nat → Nat → Int32)) :=
  ((fX9_comes B (upd I 26 (0 : Int32)) A (1 : Int32) (0 : Int32)).bind fun (I2, A3) => ((fX9_word_vkinds B I2 A3).bind fun r5 => (if r5 = 0 then (if (I2 22) ≤ ((I2 23) + (2 : Int32)) then (fX9_readBody_72 B  I2 A3 r5) else (if gd ((I2 23) + (1 : Int32)) 64 then (if ((A3 21) ((I2 23) + (1 : Int32)).toNatClampNeg) = (97 : Int32) then (if gd ((I2 23) + (2 : Int32)) 64 then (if ((A3 21) ((I2 23) + (2 : Int32)).toNatClampNeg) = (106 : Int32) then (fX9_readBody_72 B  I2 A3 (-2 : Int32)) else (fX9_readBody_72 B  I2 A3 r5)) else none) else (fX9_readBody_72 B  I2 A3 r5)) else none)) else (fX9_readBody_72 B  I2 A3 r5))))
set_option maxRecDepth 100000 in
set_option maxHeartbeats 4000000 in
theorem mX9_readBody (l : Launch) (dC : Nat → ClassId) (dI : Nat → Nat → Nat) (cI cB cJ : ClassId) (Q : Nat → Nat) (B : Nat → Nat → Int64) (I : Nat → Int32) (A : Nat → Nat → Int32)  (sz : Nat) (z : Int32 × (Nat → Int32) × (Nat → Nat → Int32)) (hf : fX9_readBody B I A = some z) : Met l yX9_readBody wsX9_readBody ({ frames := 4, cells := 0, slots := 0, locals := 92 }) (va_Pc [.ref (Q 100)] (fun U => U.heap.size = sz ∧ va_P (dC, dI) vwCl (wM cI cB cJ Q B I A) U.heap ∧ va_K (dC, dI) vwCl (tM cI cB cJ) U ∧ va_D (fun _ => True) (wM cI cB cJ Q B I A))) (va_Qi (fun (r : Int32) (u : (Nat → Int32) × (Nat → Nat → Int32)) => (r, u) = z) (atM dC dI cI cB cJ Q B (va_A (wM cI cB cJ Q B I A) sz)) (va_A (wM cI cB cJ Q B I A) sz)) 0 0 (va_A (wM cI cB cJ Q B I A) sz) := by
  refine Met.ofW (cc := cX9_readBody) (maxL := 6) (ret := (some .int)) (by decide) rfl ?_
  intro p e s m args below meth c s₁ BL hml hv
  obtain ⟨rfl, hsz, hP, hK, hD0⟩ := hv
  have hx := BL.exec
  have hb := BL.bytes
  have hr := BL.returns
  have hts := atoms_spec (ws := wsX9_readBody) BL.pre
  have hown : s.vm.findClass RX9 = some m.cls := findClass_of_methodNamed BL.named
  have hlocks := BL.notSynchronized
  have hinX9 : ∀ w ∈ u_ws RX9 TX9 36, w ∈ wsX9_readBody := by decide +kernel
  have hk58 := hts (.fieldLink RX9 58 "LeadSheetsModel" "kinds" "[J") (by decide +kernel)
  have hk90 := hts (.fieldLink RX9 90 "LeadSheetsModel" "sizes" "[J") (by decide +kernel)
  have hk119 := hts (.fieldLink RX9 119 "LeadSheetsModel" "changes" "[J") (by decide +kernel)
  have hk166 := hts (.fieldLink RX9 166 "LeadSheetsModel" "text" "[B") (by decide +kernel)
  have hk194 := hts (.fieldLink RX9 194 "LeadSheetsModel" "textSize" "I") (by decide +kernel)
  have hk202 := hts (.fieldLink RX9 202 "LeadSheetsModel" "p" "I") (by decide +kernel)
  have hk212 := hts (.fieldLink RX9 212 "LeadSheetsModel" "many" "I") (by decide +kernel)
  subst hsz
  have hD := hD0.self (sz := s.heap.size)
  generalize hAe : va_A (wM cI cB cJ Q B I A) s.heap.size = AA at hD ⊢
  have hA : ∀ q : Nat, s.heap.size ≤ q → AA q := fun q h => by rw [← hAe]; exact Or.inr h
  have hS : va_S AA s.heap s.heap [] := va_S.rf
  have sg341 : ∀ n : Nat, ∀ (I : Nat → Int32) (A : Nat → Nat → Int32) (v5 : Int32) (H : Heap) (locs : List Loc) (ls : Array Slot), fX9_readBody_341 B  n I A v5 = some z → va_P (dC, dI) vwCl (wM cI cB cJ Q B I A) H → va_D AA (wM cI cB cJ Q B I A) → va_S AA s.heap H locs → lv_has ls 6 [(0, .ref (Q 100)), (5, .int v5)] → W p l e (headSpec wsX9_readBody ({ frames := 4, cells := 0, slots := 0, locals := 92 })).room s m (([.ref (Q 100)] : List Value).toArray) below meth c H locs 0 0 (MQ below (va_Qi (fun (r : Int32) (u : (Nat → Int32) × (Nat → Nat → Int32)) => (r, u) = z) (atM dC dI cI cB cJ Q B AA) AA) (([.ref (Q 100)] : List Value).toArray) s 0 0 AA) (F0 m 341 ls []) := by
    intro n
    induction n with
    | zero => intro I A v5 H locs ls hf hP hD hS hl; exact of_none hf
    | succ n ih341 =>
      intro I A v5 H locs ls hf hP hD hS hl
      change fX9_readBody_341B B  (fX9_readBody_341 B  n) I A v5 = _ at hf
      unfold fX9_readBody_341B at hf
      refine lv_iload hx hb dX9_readBody_341 (lv_at hl 1 rfl) ?_
      refine lv_bipush (v := (-2 : Int32)) hx hb dX9_readBody_343 (by decide) ?_
      refine lv_icmp_eq (tgt := 394) hx hb dX9_readBody_345 (by decide) (fun c61 => ?_) (fun c61 => ?_)
      · have hf := (if_pos c61).symm.trans hf
        refine lv_bipush (v := (-2 : Int32)) hx hb dX9_readBody_394 (by decide) ?_
        exact W.iret (v := (-2 : Int32)) hx hb hr (fun t ht hW => ⟨⟨(-2 : Int32), (I, A), rfl, Option.some.inj hf, by rw [ht]; exact hP, va_K.moved hW.alike hK, hD⟩, hS.F ht⟩) hS.2.2 dX9_readBody_396
      · have hf := (if_neg c61).symm.trans hf
        refine lv_aload_n hx hb dX9_readBody_348 rfl (lv_at hl 0 rfl) ?_
        refine lv_iload hx hb dX9_readBody_349 (lv_at hl 1 rfl) ?_
        obtain ⟨⟨r65, I63, A64⟩, hc62, hf⟩ := of_bind_some hf
        have hF66 := va_freeAll hD hS hA
        refine va_calli (va_runV (As := [.int v5]) (rest := []) ⟨hx, hb, hml, hown, hts⟩ (mX9_changes l dC dI cI cB cJ Q B I A v5 H.size _ hc62) (cwV 1 hts gX9_readBody_X9_changes rfl rfl rfl (by decide +kernel) ⟨Nat.le_of_ble_eq_true rfl, Nat.le_of_ble_eq_true rfl⟩) ⟨blindW, va_recv hK hP (ci := 6) (q0 := 0) rfl rfl, fun U hU hW => ⟨rfl, by rw [hU], by rw [hU]; exact hP, va_K.moved hW.alike hK, hD.weaken (fun _ _ _ _ => trivial)⟩⟩ rfl rfl hl.1 rfl (lv_room (Nat.le_of_ble_eq_true rfl)) dX9_readBody_351 ⟨Nat.zero_le _, Nat.zero_le _⟩) hS (fun q _ h => hF66 q h) hF66 (fun r0 u t H locs ht hvm hw hB hz1 hk1 hS => ?_)
        cases hw
        obtain ⟨hP, hK9, hD⟩ := hB
        rw [ht] at hP
        have hP : va_P (dC, dI) vwCl (wM cI cB cJ Q B I63 A64) H := hP
        have hD : va_D AA (wM cI cB cJ Q B I63 A64) := hD.weaken (fun _ _ _ h => hF66 _ h)
        refine lv_if_ne (tgt := 362) hx hb dX9_readBody_354 (by decide) (fun c67 => ?_) (fun c67 => ?_)
        · have hf := (if_neg c67).symm.trans hf
          refine lv_aload_n hx hb dX9_readBody_362 rfl (lv_at hl 0 rfl) ?_
          refine lv_dup hx hb dX9_readBody_363 rfl ?_
          refine va_get (D := (dC, dI)) (ci := 6) (v := .int (I63 23)) (C := RX9) (T := TX9) (N := 36) hx hb hts hinX9 hown hK hP 0 rfl rfl 23 (by decide) hk202 (fun _ h9 => h9) rfl dX9_readBody_364 ?_
          refine lv_aload_n hx hb dX9_readBody_367 rfl (lv_at hl 0 rfl) ?_
          refine va_get (D := (dC, dI)) (ci := 6) (v := .ref (Q 18)) (C := RX9) (T := TX9) (N := 36) hx hb hts hinX9 hown hK hP 0 rfl rfl 18 (by decide) hk119 (fun _ h9 => h9) rfl dX9_readBody_368 ?_
          refine lv_iload hx hb dX9_readBody_371 (lv_at hl 1 rfl) ?_
          obtain ⟨g68, hf⟩ := of_ite_some hf
          refine va_lald hx hb hK hP 14 2 (n := 13) (f := (B 18)) rfl rfl g68 dX9_readBody_373 ?_
          obtain ⟨r69, hc70, hf⟩ := of_bind_some hf
          refine W.callR (r := r69) (W.runS (As := [.long ((B 18) v5.toNatClampNeg)]) (rest := [.int (I63 23), .ref (Q 100)]) ⟨hx, hb, hml, hown, hts⟩ (mX9_lengthOf l ((B 18) v5.toNatClampNeg) r69 hc70) (va_cwS 1 hts gX9_readBody_X9_lengthOf rfl rfl rfl (by decide +kernel) ⟨Nat.le_of_ble_eq_true rfl, Nat.le_of_ble_eq_true rfl⟩) ⟨fun _ _ _ _ q => q, fun U hU hW => ⟨rfl, trivial⟩⟩ rfl rfl hl.1 rfl (lv_room (Nat.le_of_ble_eq_true rfl)) dX9_readBody_374 ⟨Nat.zero_le _, Nat.zero_le _⟩) ?_
          refine W.eq (g2 := F0 m 377 ls [.int r69, .int (I63 23), .ref (Q 100)]) rfl ?_
          refine lv_iadd hx hb dX9_readBody_377 ?_
          refine va_put (D := (dC, dI)) (ci := 6) (v := .int ((I63 23) + r69)) (ty := .int) (C := RX9) (T := TX9) (N := 36) hx hb hts hinX9 tyX9 tyX9_ok nmX9 hown hK hP hD hS 0 (fs := (oM Q I63)) rfl rfl 23 (by decide) hk202 (fun _ h9 => h9) rfl (by decide +kernel) rfl rfl (Nat.le_of_ble_eq_true rfl) dX9_readBody_378 (fun H locs hP hD hS => ?_)
          have hP : va_P (dC, dI) vwCl (wM cI cB cJ Q B (upd I63 23 ((I63 23) + r69)) A64) H := Eq.mp (congrArg (fun w => va_P (dC, dI) vwCl w H) (wMI_23 cI cB cJ Q B I63 A64 ((I63 23) + r69))) hP
          have hD : va_D AA (wM cI cB cJ Q B (upd I63 23 ((I63 23) + r69)) A64) := Eq.mp (congrArg (fun w => va_D AA w) (wMI_23 cI cB cJ Q B I63 A64 ((I63 23) + r69))) hD
          refine lv_aload_n hx hb dX9_readBody_381 rfl (lv_at hl 0 rfl) ?_
          refine lv_aload_n hx hb dX9_readBody_382 rfl (lv_at hl 0 rfl) ?_
          refine va_get (D := (dC, dI)) (ci := 6) (v := .ref (Q 18)) (C := RX9) (T := TX9) (N := 36) hx hb hts hinX9 hown hK hP 0 rfl rfl 18 (by decide) hk119 (fun _ h9 => h9) rfl dX9_readBody_383 ?_
          obtain ⟨r71, hc72, hf⟩ := of_bind_some hf
          refine W.callR (r := r71) (W.runV (As := [.ref (Q 18)]) (rest := []) ⟨hx, hb, hml, hown, hts⟩ (mX9_word_vchanges l dC dI cI cB cJ Q B (upd I63 23 ((I63 23) + r69)) A64 r71 hc72) (cwV 1 hts gX9_readBody_X9_word rfl rfl rfl (by decide +kernel) ⟨Nat.le_of_ble_eq_true rfl, Nat.le_of_ble_eq_true rfl⟩) ⟨blindR, va_recv hK hP (ci := 6) (q0 := 0) rfl rfl, fun U hU hW => ⟨rfl, by rw [hU]; exact hP, va_K.moved hW.alike hK⟩⟩ rfl rfl hl.1 rfl (lv_room (Nat.le_of_ble_eq_true rfl)) dX9_readBody_386 ⟨Nat.zero_le _, Nat.zero_le _⟩) ?_
          refine W.eq (g2 := F0 m 389 ls [.int r71]) rfl ?_
          refine lv_istore (lv' := [(5, .int r71), (0, .ref (Q 100))]) hx hb dX9_readBody_389 hl (by decide) rfl (fun ls hl => ?_)
          refine lv_goto (tgt := 341) hx hb dX9_readBody_391 (by decide) ?_
          exact ih341 (upd I63 23 ((I63 23) + r69)) A64 r71 H locs ls hf hP hD hS (lv_sub hl [1, 0] rfl)
        · have hf := (if_pos c67).symm.trans hf
          refine lv_aload_n hx hb dX9_readBody_357 rfl (lv_at hl 0 rfl) ?_
          refine va_get (D := (dC, dI)) (ci := 6) (v := .int (I63 23)) (C := RX9) (T := TX9) (N := 36) hx hb hts hinX9 hown hK hP 0 rfl rfl 23 (by decide) hk202 (fun _ h9 => h9) rfl dX9_readBody_358 ?_
          exact W.iret (v := (I63 23)) hx hb hr (fun t ht hW => ⟨⟨(I63 23), (I63, A64), rfl, Option.some.inj hf, by rw [ht]; exact hP, va_K.moved hW.alike hK, hD⟩, hS.F ht⟩) hS.2.2 dX9_readBody_361
  have sg317 : ∀ (I : Nat → Int32) (A : Nat → Nat → Int32) (v5 : Int32) (H : Heap) (locs : List Loc) (ls : Array Slot), fX9_readBody_317 B  I A v5 = some z → va_P (dC, dI) vwCl (wM cI cB cJ Q B I A) H → va_D AA (wM cI cB cJ Q B I A) → va_S AA s.heap H locs → lv_has ls 6 [(0, .ref (Q 100)), (5, .int v5)] → W p l e (headSpec wsX9_readBody ({ frames := 4, cells := 0, slots := 0, locals := 92 })).room s m (([.ref (Q 100)] : List Value).toArray) below meth c H locs 0 0 (MQ below (va_Qi (fun (r : Int32) (u : (Nat → Int32) × (Nat → Nat → Int32)) => (r, u) = z) (atM dC dI cI cB cJ Q B AA) AA) (([.ref (Q 100)] : List Value).toArray) s 0 0 AA) (F0 m 317 ls []) := by
    intro I A v5 H locs ls hf hP hD hS hl
    unfold fX9_readBody_317 at hf
    refine lv_iload hx hb dX9_readBody_317 (lv_at hl 1 rfl) ?_
    refine lv_iconst (v := (2 : Int32)) hx hb dX9_readBody_319 (by decide) ?_
    refine lv_icmp_le (tgt := 331) hx hb dX9_readBody_320 (by decide) (fun c87 => ?_) (fun c87 => ?_)
    · have hf := (if_pos c87).symm.trans hf
      refine lv_aload_n hx hb dX9_readBody_331 rfl (lv_at hl 0 rfl) ?_
      refine lv_aload_n hx hb dX9_readBody_332 rfl (lv_at hl 0 rfl) ?_
      refine va_get (D := (dC, dI)) (ci := 6) (v := .ref (Q 18)) (C := RX9) (T := TX9) (N := 36) hx hb hts hinX9 hown hK hP 0 rfl rfl 18 (by decide) hk119 (fun _ h9 => h9) rfl dX9_readBody_333 ?_
      obtain ⟨r88, hc89, hf⟩ := of_bind_some hf
      refine W.callR (r := r88) (W.runV (As := [.ref (Q 18)]) (rest := []) ⟨hx, hb, hml, hown, hts⟩ (mX9_word_vchanges l dC dI cI cB cJ Q B I A r88 hc89) (cwV 1 hts gX9_readBody_X9_word rfl rfl rfl (by decide +kernel) ⟨Nat.le_of_ble_eq_true rfl, Nat.le_of_ble_eq_true rfl⟩) ⟨blindR, va_recv hK hP (ci := 6) (q0 := 0) rfl rfl, fun U hU hW => ⟨rfl, by rw [hU]; exact hP, va_K.moved hW.alike hK⟩⟩ rfl rfl hl.1 rfl (lv_room (Nat.le_of_ble_eq_true rfl)) dX9_readBody_336 ⟨Nat.zero_le _, Nat.zero_le _⟩) ?_
      refine W.eq (g2 := F0 m 339 ls [.int r88]) rfl ?_
      refine lv_istore (lv' := [(5, .int r88), (0, .ref (Q 100))]) hx hb dX9_readBody_339 hl (by decide) rfl (fun ls hl => ?_)
      exact sg341  FU I A r88 H locs ls hf hP hD hS (lv_sub hl [1, 0] rfl)
    · have hf := (if_neg c87).symm.trans hf
      refine lv_aload_n hx hb dX9_readBody_323 rfl (lv_at hl 0 rfl) ?_
      refine lv_bipush (v := (13 : Int32)) hx hb dX9_readBody_324 (by decide) ?_
      refine lv_bipush (v := (21 : Int32)) hx hb dX9_readBody_326 (by decide) ?_
      obtain ⟨⟨I91, A92⟩, hc90, hf⟩ := of_bind_some hf
      have hF93 := va_freeAll hD hS hA
      refine va_callv (va_runV (As := [.int (13 : Int32), .int (21 : Int32)]) (rest := []) ⟨hx, hb, hml, hown, hts⟩ (mX9_comes l dC dI cI cB cJ Q B I A (13 : Int32) (21 : Int32) H.size _ hc90) (cwV 2 hts gX9_readBody_X9_comes rfl rfl rfl (by decide +kernel) ⟨Nat.le_of_ble_eq_true rfl, Nat.le_of_ble_eq_true rfl⟩) ⟨blindW, va_recv hK hP (ci := 6) (q0 := 0) rfl rfl, fun U hU hW => ⟨rfl, by rw [hU], by rw [hU]; exact hP, va_K.moved hW.alike hK, hD.weaken (fun _ _ _ _ => trivial)⟩⟩ rfl rfl hl.1 rfl (lv_room (Nat.le_of_ble_eq_true rfl)) dX9_readBody_328 ⟨Nat.zero_le _, Nat.zero_le _⟩) hS (fun q _ h => hF93 q h) hF93 (fun u t H locs ht hvm hw hB hz1 hk1 hS => ?_)
      cases hw
      obtain ⟨hP, hK9, hD⟩ := hB
      rw [ht] at hP
      have hP : va_P (dC, dI) vwCl (wM cI cB cJ Q B I91 A92) H := hP
      have hD : va_D AA (wM cI cB cJ Q B I91 A92) := hD.weaken (fun _ _ _ h => hF93 _ h)
      refine lv_aload_n hx hb dX9_readBody_331 rfl (lv_at hl 0 rfl) ?_
      refine lv_aload_n hx hb dX9_readBody_332 rfl (lv_at hl 0 rfl) ?_
      refine va_get (D := (dC, dI)) (ci := 6) (v := .ref (Q 18)) (C := RX9) (T := TX9) (N := 36) hx hb hts hinX9 hown hK hP 0 rfl rfl 18 (by decide) hk119 (fun _ h9 => h9) rfl dX9_readBody_333 ?_
      obtain ⟨r94, hc95, hf⟩ := of_bind_some hf
      refine W.callR (r := r94) (W.runV (As := [.ref (Q 18)]) (rest := []) ⟨hx, hb, hml, hown, hts⟩ (mX9_word_vchanges l dC dI cI cB cJ Q B I91 A92 r94 hc95) (cwV 1 hts gX9_readBody_X9_word rfl rfl rfl (by decide +kernel) ⟨Nat.le_of_ble_eq_true rfl, Nat.le_of_ble_eq_true rfl⟩) ⟨blindR, va_recv hK hP (ci := 6) (q0 := 0) rfl rfl, fun U hU hW => ⟨rfl, by rw [hU]; exact hP, va_K.moved hW.alike hK⟩⟩ rfl rfl hl.1 rfl (lv_room (Nat.le_of_ble_eq_true rfl)) dX9_readBody_336 ⟨Nat.zero_le _, Nat.zero_le _⟩) ?_
      refine W.eq (g2 := F0 m 339 ls [.int r94]) rfl ?_
      refine lv_istore (lv' := [(5, .int r94), (0, .ref (Q 100))]) hx hb dX9_readBody_339 hl (by decide) rfl (fun ls hl => ?_)
      exact sg341  FU I91 A92 r94 H locs ls hf hP hD hS (lv_sub hl [1, 0] rfl)
  have sg303 : ∀ (I : Nat → Int32) (A : Nat → Nat → Int32) (v5 : Int32) (H : Heap) (locs : List Loc) (ls : Array Slot), fX9_readBody_303 B  I A v5 = some z → va_P (dC, dI) vwCl (wM cI cB cJ Q B I A) H → va_D AA (wM cI cB cJ Q B I A) → va_S AA s.heap H locs → lv_has ls 6 [(0, .ref (Q 100)), (5, .int v5)] → W p l e (headSpec wsX9_readBody ({ frames := 4, cells := 0, slots := 0, locals := 92 })).room s m (([.ref (Q 100)] : List Value).toArray) below meth c H locs 0 0 (MQ below (va_Qi (fun (r : Int32) (u : (Nat → Int32) × (Nat → Nat → Int32)) => (r, u) = z) (atM dC dI cI cB cJ Q B AA) AA) (([.ref (Q 100)] : List Value).toArray) s 0 0 AA) (F0 m 303 ls []) := by
    intro I A v5 H locs ls hf hP hD hS hl
    unfold fX9_readBody_303 at hf
    refine lv_iload hx hb dX9_readBody_303 (lv_at hl 1 rfl) ?_
    refine lv_iconst (v := (1 : Int32)) hx hb dX9_readBody_305 (by decide) ?_
    refine lv_icmp_le (tgt := 317) hx hb dX9_readBody_306 (by decide) (fun c82 => ?_) (fun c82 => ?_)
    · have hf := (if_pos c82).symm.trans hf
      exact sg317  I A v5 H locs ls hf hP hD hS (lv_sub hl [0, 1] rfl)
    · have hf := (if_neg c82).symm.trans hf
      refine lv_aload_n hx hb dX9_readBody_309 rfl (lv_at hl 0 rfl) ?_
      refine lv_bipush (v := (11 : Int32)) hx hb dX9_readBody_310 (by decide) ?_
      refine lv_bipush (v := (17 : Int32)) hx hb dX9_readBody_312 (by decide) ?_
      obtain ⟨⟨I84, A85⟩, hc83, hf⟩ := of_bind_some hf
      have hF86 := va_freeAll hD hS hA
      refine va_callv (va_runV (As := [.int (11 : Int32), .int (17 : Int32)]) (rest := []) ⟨hx, hb, hml, hown, hts⟩ (mX9_comes l dC dI cI cB cJ Q B I A (11 : Int32) (17 : Int32) H.size _ hc83) (cwV 2 hts gX9_readBody_X9_comes rfl rfl rfl (by decide +kernel) ⟨Nat.le_of_ble_eq_true rfl, Nat.le_of_ble_eq_true rfl⟩) ⟨blindW, va_recv hK hP (ci := 6) (q0 := 0) rfl rfl, fun U hU hW => ⟨rfl, by rw [hU], by rw [hU]; exact hP, va_K.moved hW.alike hK, hD.weaken (fun _ _ _ _ => trivial)⟩⟩ rfl rfl hl.1 rfl (lv_room (Nat.le_of_ble_eq_true rfl)) dX9_readBody_314 ⟨Nat.zero_le _, Nat.zero_le _⟩) hS (fun q _ h => hF86 q h) hF86 (fun u t H locs ht hvm hw hB hz1 hk1 hS => ?_)
      cases hw
      obtain ⟨hP, hK9, hD⟩ := hB
      rw [ht] at hP
      have hP : va_P (dC, dI) vwCl (wM cI cB cJ Q B I84 A85) H := hP
      have hD : va_D AA (wM cI cB cJ Q B I84 A85) := hD.weaken (fun _ _ _ h => hF86 _ h)
      exact sg317  I84 A85 v5 H locs ls hf hP hD hS (lv_sub hl [0, 1] rfl)
  have sg287 : ∀ (I : Nat → Int32) (A : Nat → Nat → Int32) (v5 : Int32) (t0 : Int32) (t1 : Int32) (H : Heap) (locs : List Loc) (ls : Array Slot), fX9_readBody_287 B  I A v5 t0 t1 = some z → va_P (dC, dI) vwCl (wM cI cB cJ Q B I A) H → va_D AA (wM cI cB cJ Q B I A) → va_S AA s.heap H locs → lv_has ls 6 [(0, .ref (Q 100)), (5, .int v5)] → W p l e (headSpec wsX9_readBody ({ frames := 4, cells := 0, slots := 0, locals := 92 })).room s m (([.ref (Q 100)] : List Value).toArray) below meth c H locs 0 0 (MQ below (va_Qi (fun (r : Int32) (u : (Nat → Int32) × (Nat → Nat → Int32)) => (r, u) = z) (atM dC dI cI cB cJ Q B AA) AA) (([.ref (Q 100)] : List Value).toArray) s 0 0 AA) (F0 m 287 ls [.int t0, .int t1, .ref (Q 100)]) := by
    intro I A v5 t0 t1 H locs ls hf hP hD hS hl
    unfold fX9_readBody_287 at hf
    obtain ⟨⟨I74, A75⟩, hc73, hf⟩ := of_bind_some hf
    have hF76 := va_freeAll hD hS hA
    refine va_callv (va_runV (As := [.int t1, .int t0]) (rest := []) ⟨hx, hb, hml, hown, hts⟩ (mX9_comes l dC dI cI cB cJ Q B I A t1 t0 H.size _ hc73) (cwV 2 hts gX9_readBody_X9_comes rfl rfl rfl (by decide +kernel) ⟨Nat.le_of_ble_eq_true rfl, Nat.le_of_ble_eq_true rfl⟩) ⟨blindW, va_recv hK hP (ci := 6) (q0 := 0) rfl rfl, fun U hU hW => ⟨rfl, by rw [hU], by rw [hU]; exact hP, va_K.moved hW.alike hK, hD.weaken (fun _ _ _ _ => trivial)⟩⟩ rfl rfl hl.1 rfl (lv_room (Nat.le_of_ble_eq_true rfl)) dX9_readBody_287 ⟨Nat.zero_le _, Nat.zero_le _⟩) hS (fun q _ h => hF76 q h) hF76 (fun u t H locs ht hvm hw hB hz1 hk1 hS => ?_)
    cases hw
    obtain ⟨hP, hK9, hD⟩ := hB
    rw [ht] at hP
    have hP : va_P (dC, dI) vwCl (wM cI cB cJ Q B I74 A75) H := hP
    have hD : va_D AA (wM cI cB cJ Q B I74 A75) := hD.weaken (fun _ _ _ h => hF76 _ h)
    refine lv_iload hx hb dX9_readBody_290 (lv_at hl 1 rfl) ?_
    refine lv_if_le (tgt := 303) hx hb dX9_readBody_292 (by decide) (fun c77 => ?_) (fun c77 => ?_)
    · have hf := (if_pos c77).symm.trans hf
      exact sg303  I74 A75 v5 H locs ls hf hP hD hS (lv_sub hl [0, 1] rfl)
    · have hf := (if_neg c77).symm.trans hf
      refine lv_aload_n hx hb dX9_readBody_295 rfl (lv_at hl 0 rfl) ?_
      refine lv_bipush (v := (9 : Int32)) hx hb dX9_readBody_296 (by decide) ?_
      refine lv_bipush (v := (14 : Int32)) hx hb dX9_readBody_298 (by decide) ?_
      obtain ⟨⟨I79, A80⟩, hc78, hf⟩ := of_bind_some hf
      have hF81 := va_freeAll hD hS hA
      refine va_callv (va_runV (As := [.int (9 : Int32), .int (14 : Int32)]) (rest := []) ⟨hx, hb, hml, hown, hts⟩ (mX9_comes l dC dI cI cB cJ Q B I74 A75 (9 : Int32) (14 : Int32) H.size _ hc78) (cwV 2 hts gX9_readBody_X9_comes rfl rfl rfl (by decide +kernel) ⟨Nat.le_of_ble_eq_true rfl, Nat.le_of_ble_eq_true rfl⟩) ⟨blindW, va_recv hK hP (ci := 6) (q0 := 0) rfl rfl, fun U hU hW => ⟨rfl, by rw [hU], by rw [hU]; exact hP, va_K.moved hW.alike hK, hD.weaken (fun _ _ _ _ => trivial)⟩⟩ rfl rfl hl.1 rfl (lv_room (Nat.le_of_ble_eq_true rfl)) dX9_readBody_300 ⟨Nat.zero_le _, Nat.zero_le _⟩) hS (fun q _ h => hF81 q h) hF81 (fun u t H locs ht hvm hw hB hz1 hk1 hS => ?_)
      cases hw
      obtain ⟨hP, hK9, hD⟩ := hB
      rw [ht] at hP
      have hP : va_P (dC, dI) vwCl (wM cI cB cJ Q B I79 A80) H := hP
      have hD : va_D AA (wM cI cB cJ Q B I79 A80) := hD.weaken (fun _ _ _ h => hF81 _ h)
      exact sg303  I79 A80 v5 H locs ls hf hP hD hS (lv_sub hl [0, 1] rfl)
  have sg193 : ∀ (I : Nat → Int32) (A : Nat → Nat → Int32) (v3 : Int32) (t0 : Int32) (H : Heap) (locs : List Loc) (ls : Array Slot), fX9_readBody_193 B  I A v3 t0 = some z → va_P (dC, dI) vwCl (wM cI cB cJ Q B I A) H → va_D AA (wM cI cB cJ Q B I A) → va_S AA s.heap H locs → lv_has ls 6 [(0, .ref (Q 100)), (3, .int v3)] → W p l e (headSpec wsX9_readBody ({ frames := 4, cells := 0, slots := 0, locals := 92 })).room s m (([.ref (Q 100)] : List Value).toArray) below meth c H locs 0 0 (MQ below (va_Qi (fun (r : Int32) (u : (Nat → Int32) × (Nat → Nat → Int32)) => (r, u) = z) (atM dC dI cI cB cJ Q B AA) AA) (([.ref (Q 100)] : List Value).toArray) s 0 0 AA) (F0 m 193 ls [.int t0]) := by
    intro I A v3 t0 H locs ls hf hP hD hS hl
    unfold fX9_readBody_193 at hf
    refine lv_istore (lv' := [(4, .int t0), (0, .ref (Q 100)), (3, .int v3)]) hx hb dX9_readBody_193 hl (by decide) rfl (fun ls hl => ?_)
    refine lv_iload hx hb dX9_readBody_195 (lv_at hl 0 rfl) ?_
    refine lv_bipush (v := (-2 : Int32)) hx hb dX9_readBody_197 (by decide) ?_
    refine lv_icmp_eq (tgt := 331) hx hb dX9_readBody_199 (by decide) (fun c39 => ?_) (fun c39 => ?_)
    · have hf := (if_pos c39).symm.trans hf
      refine lv_aload_n hx hb dX9_readBody_331 rfl (lv_at hl 1 rfl) ?_
      refine lv_aload_n hx hb dX9_readBody_332 rfl (lv_at hl 1 rfl) ?_
      refine va_get (D := (dC, dI)) (ci := 6) (v := .ref (Q 18)) (C := RX9) (T := TX9) (N := 36) hx hb hts hinX9 hown hK hP 0 rfl rfl 18 (by decide) hk119 (fun _ h9 => h9) rfl dX9_readBody_333 ?_
      obtain ⟨r40, hc41, hf⟩ := of_bind_some hf
      refine W.callR (r := r40) (W.runV (As := [.ref (Q 18)]) (rest := []) ⟨hx, hb, hml, hown, hts⟩ (mX9_word_vchanges l dC dI cI cB cJ Q B I A r40 hc41) (cwV 1 hts gX9_readBody_X9_word rfl rfl rfl (by decide +kernel) ⟨Nat.le_of_ble_eq_true rfl, Nat.le_of_ble_eq_true rfl⟩) ⟨blindR, va_recv hK hP (ci := 6) (q0 := 0) rfl rfl, fun U hU hW => ⟨rfl, by rw [hU]; exact hP, va_K.moved hW.alike hK⟩⟩ rfl rfl hl.1 rfl (lv_room (Nat.le_of_ble_eq_true rfl)) dX9_readBody_336 ⟨Nat.zero_le _, Nat.zero_le _⟩) ?_
      refine W.eq (g2 := F0 m 339 ls [.int r40]) rfl ?_
      refine lv_istore (lv' := [(5, .int r40), (4, .int t0), (0, .ref (Q 100)), (3, .int v3)]) hx hb dX9_readBody_339 hl (by decide) rfl (fun ls hl => ?_)
      exact sg341  FU I A r40 H locs ls hf hP hD hS (lv_sub hl [2, 0] rfl)
    · have hf := (if_neg c39).symm.trans hf
      refine lv_aload_n hx hb dX9_readBody_202 rfl (lv_at hl 1 rfl) ?_
      refine lv_dup hx hb dX9_readBody_203 rfl ?_
      refine va_get (D := (dC, dI)) (ci := 6) (v := .int (I 23)) (C := RX9) (T := TX9) (N := 36) hx hb hts hinX9 hown hK hP 0 rfl rfl 23 (by decide) hk202 (fun _ h9 => h9) rfl dX9_readBody_204 ?_
      refine lv_aload_n hx hb dX9_readBody_207 rfl (lv_at hl 1 rfl) ?_
      refine va_get (D := (dC, dI)) (ci := 6) (v := .ref (Q 17)) (C := RX9) (T := TX9) (N := 36) hx hb hts hinX9 hown hK hP 0 rfl rfl 17 (by decide) hk90 (fun _ h9 => h9) rfl dX9_readBody_208 ?_
      refine lv_iload hx hb dX9_readBody_211 (lv_at hl 0 rfl) ?_
      obtain ⟨g42, hf⟩ := of_ite_some hf
      refine va_lald hx hb hK hP 13 2 (n := 14) (f := (B 17)) rfl rfl g42 dX9_readBody_213 ?_
      obtain ⟨r43, hc44, hf⟩ := of_bind_some hf
      refine W.callR (r := r43) (W.runS (As := [.long ((B 17) t0.toNatClampNeg)]) (rest := [.int (I 23), .ref (Q 100)]) ⟨hx, hb, hml, hown, hts⟩ (mX9_lengthOf l ((B 17) t0.toNatClampNeg) r43 hc44) (va_cwS 1 hts gX9_readBody_X9_lengthOf rfl rfl rfl (by decide +kernel) ⟨Nat.le_of_ble_eq_true rfl, Nat.le_of_ble_eq_true rfl⟩) ⟨fun _ _ _ _ q => q, fun U hU hW => ⟨rfl, trivial⟩⟩ rfl rfl hl.1 rfl (lv_room (Nat.le_of_ble_eq_true rfl)) dX9_readBody_214 ⟨Nat.zero_le _, Nat.zero_le _⟩) ?_
      refine W.eq (g2 := F0 m 217 ls [.int r43, .int (I 23), .ref (Q 100)]) rfl ?_
      refine lv_iadd hx hb dX9_readBody_217 ?_
      refine va_put (D := (dC, dI)) (ci := 6) (v := .int ((I 23) + r43)) (ty := .int) (C := RX9) (T := TX9) (N := 36) hx hb hts hinX9 tyX9 tyX9_ok nmX9 hown hK hP hD hS 0 (fs := (oM Q I)) rfl rfl 23 (by decide) hk202 (fun _ h9 => h9) rfl (by decide +kernel) rfl rfl (Nat.le_of_ble_eq_true rfl) dX9_readBody_218 (fun H locs hP hD hS => ?_)
      have hP : va_P (dC, dI) vwCl (wM cI cB cJ Q B (upd I 23 ((I 23) + r43)) A) H := Eq.mp (congrArg (fun w => va_P (dC, dI) vwCl w H) (wMI_23 cI cB cJ Q B I A ((I 23) + r43))) hP
      have hD : va_D AA (wM cI cB cJ Q B (upd I 23 ((I 23) + r43)) A) := Eq.mp (congrArg (fun w => va_D AA w) (wMI_23 cI cB cJ Q B I A ((I 23) + r43))) hD
      refine lv_iload hx hb dX9_readBody_221 (lv_at hl 0 rfl) ?_
      refine lv_iconst (v := (2 : Int32)) hx hb dX9_readBody_223 (by decide) ?_
      refine lv_icmp_ge (tgt := 251) hx hb dX9_readBody_224 (by decide) (fun c45 => ?_) (fun c45 => ?_)
      · have hf := (if_pos c45).symm.trans hf
        refine lv_iload hx hb dX9_readBody_251 (lv_at hl 0 rfl) ?_
        refine lv_iconst (v := (2 : Int32)) hx hb dX9_readBody_253 (by decide) ?_
        refine lv_isub hx hb dX9_readBody_254 ?_
        refine lv_iconst (v := (3 : Int32)) hx hb dX9_readBody_255 (by decide) ?_
        refine lv_idiv hx hb dX9_readBody_256 (by decide) ?_
        refine lv_istore (lv' := [(5, .int ((t0 - (2 : Int32)) / (3 : Int32))), (4, .int t0), (0, .ref (Q 100)), (3, .int v3)]) hx hb dX9_readBody_257 hl (by decide) rfl (fun ls hl => ?_)
        refine lv_aload_n hx hb dX9_readBody_259 rfl (lv_at hl 2 rfl) ?_
        refine lv_bipush (v := (7 : Int32)) hx hb dX9_readBody_260 (by decide) ?_
        refine lv_iload hx hb dX9_readBody_262 (lv_at hl 1 rfl) ?_
        refine lv_iconst (v := (2 : Int32)) hx hb dX9_readBody_264 (by decide) ?_
        refine lv_isub hx hb dX9_readBody_265 ?_
        refine lv_iconst (v := (3 : Int32)) hx hb dX9_readBody_266 (by decide) ?_
        refine lv_irem hx hb dX9_readBody_267 (by decide) ?_
        refine W.eq (g2 := F0 m 268 ls [.int (jrem (t0 - (2 : Int32)) (3 : Int32)), .int (7 : Int32), .ref (Q 100)]) rfl ?_
        refine lv_if_le (tgt := 276) hx hb dX9_readBody_268 (by decide) (fun c46 => ?_) (fun c46 => ?_)
        · have hf := (if_pos c46).symm.trans hf
          refine lv_iload_n hx hb dX9_readBody_276 rfl (lv_at hl 3 rfl) ?_
          refine lv_if_eq (tgt := 285) hx hb dX9_readBody_277 (by decide) (fun c47 => ?_) (fun c47 => ?_)
          · have hf := (if_pos c47).symm.trans hf
            refine lv_bipush (v := (10 : Int32)) hx hb dX9_readBody_285 (by decide) ?_
            exact sg287  (upd I 23 ((I 23) + r43)) A ((t0 - (2 : Int32)) / (3 : Int32)) (10 : Int32) (7 : Int32) H locs ls hf hP hD hS (lv_sub hl [2, 0] rfl)
          · have hf := (if_neg c47).symm.trans hf
            refine lv_bipush (v := (9 : Int32)) hx hb dX9_readBody_280 (by decide) ?_
            refine lv_goto (tgt := 287) hx hb dX9_readBody_282 (by decide) ?_
            exact sg287  (upd I 23 ((I 23) + r43)) A ((t0 - (2 : Int32)) / (3 : Int32)) (9 : Int32) (7 : Int32) H locs ls hf hP hD hS (lv_sub hl [2, 0] rfl)
        · have hf := (if_neg c46).symm.trans hf
          refine lv_bipush (v := (11 : Int32)) hx hb dX9_readBody_271 (by decide) ?_
          refine lv_goto (tgt := 287) hx hb dX9_readBody_273 (by decide) ?_
          exact sg287  (upd I 23 ((I 23) + r43)) A ((t0 - (2 : Int32)) / (3 : Int32)) (11 : Int32) (7 : Int32) H locs ls hf hP hD hS (lv_sub hl [2, 0] rfl)
      · have hf := (if_neg c45).symm.trans hf
        refine lv_aload_n hx hb dX9_readBody_227 rfl (lv_at hl 1 rfl) ?_
        refine lv_bipush (v := (6 : Int32)) hx hb dX9_readBody_228 (by decide) ?_
        refine lv_bipush (v := (9 : Int32)) hx hb dX9_readBody_230 (by decide) ?_
        obtain ⟨⟨I49, A50⟩, hc48, hf⟩ := of_bind_some hf
        have hF51 := va_freeAll hD hS hA
        refine va_callv (va_runV (As := [.int (6 : Int32), .int (9 : Int32)]) (rest := []) ⟨hx, hb, hml, hown, hts⟩ (mX9_comes l dC dI cI cB cJ Q B (upd I 23 ((I 23) + r43)) A (6 : Int32) (9 : Int32) H.size _ hc48) (cwV 2 hts gX9_readBody_X9_comes rfl rfl rfl (by decide +kernel) ⟨Nat.le_of_ble_eq_true rfl, Nat.le_of_ble_eq_true rfl⟩) ⟨blindW, va_recv hK hP (ci := 6) (q0 := 0) rfl rfl, fun U hU hW => ⟨rfl, by rw [hU], by rw [hU]; exact hP, va_K.moved hW.alike hK, hD.weaken (fun _ _ _ _ => trivial)⟩⟩ rfl rfl hl.1 rfl (lv_room (Nat.le_of_ble_eq_true rfl)) dX9_readBody_232 ⟨Nat.zero_le _, Nat.zero_le _⟩) hS (fun q _ h => hF51 q h) hF51 (fun u t H locs ht hvm hw hB hz1 hk1 hS => ?_)
        cases hw
        obtain ⟨hP, hK9, hD⟩ := hB
        rw [ht] at hP
        have hP : va_P (dC, dI) vwCl (wM cI cB cJ Q B I49 A50) H := hP
        have hD : va_D AA (wM cI cB cJ Q B I49 A50) := hD.weaken (fun _ _ _ h => hF51 _ h)
        refine lv_iload hx hb dX9_readBody_235 (lv_at hl 0 rfl) ?_
        refine lv_if_ne (tgt := 331) hx hb dX9_readBody_237 (by decide) (fun c52 => ?_) (fun c52 => ?_)
        · have hf := (if_neg c52).symm.trans hf
          refine lv_aload_n hx hb dX9_readBody_331 rfl (lv_at hl 1 rfl) ?_
          refine lv_aload_n hx hb dX9_readBody_332 rfl (lv_at hl 1 rfl) ?_
          refine va_get (D := (dC, dI)) (ci := 6) (v := .ref (Q 18)) (C := RX9) (T := TX9) (N := 36) hx hb hts hinX9 hown hK hP 0 rfl rfl 18 (by decide) hk119 (fun _ h9 => h9) rfl dX9_readBody_333 ?_
          obtain ⟨r53, hc54, hf⟩ := of_bind_some hf
          refine W.callR (r := r53) (W.runV (As := [.ref (Q 18)]) (rest := []) ⟨hx, hb, hml, hown, hts⟩ (mX9_word_vchanges l dC dI cI cB cJ Q B I49 A50 r53 hc54) (cwV 1 hts gX9_readBody_X9_word rfl rfl rfl (by decide +kernel) ⟨Nat.le_of_ble_eq_true rfl, Nat.le_of_ble_eq_true rfl⟩) ⟨blindR, va_recv hK hP (ci := 6) (q0 := 0) rfl rfl, fun U hU hW => ⟨rfl, by rw [hU]; exact hP, va_K.moved hW.alike hK⟩⟩ rfl rfl hl.1 rfl (lv_room (Nat.le_of_ble_eq_true rfl)) dX9_readBody_336 ⟨Nat.zero_le _, Nat.zero_le _⟩) ?_
          refine W.eq (g2 := F0 m 339 ls [.int r53]) rfl ?_
          refine lv_istore (lv' := [(5, .int r53), (4, .int t0), (0, .ref (Q 100)), (3, .int v3)]) hx hb dX9_readBody_339 hl (by decide) rfl (fun ls hl => ?_)
          exact sg341  FU I49 A50 r53 H locs ls hf hP hD hS (lv_sub hl [2, 0] rfl)
        · have hf := (if_pos c52).symm.trans hf
          refine lv_aload_n hx hb dX9_readBody_240 rfl (lv_at hl 1 rfl) ?_
          refine lv_bipush (v := (9 : Int32)) hx hb dX9_readBody_241 (by decide) ?_
          refine lv_bipush (v := (14 : Int32)) hx hb dX9_readBody_243 (by decide) ?_
          obtain ⟨⟨I56, A57⟩, hc55, hf⟩ := of_bind_some hf
          have hF58 := va_freeAll hD hS hA
          refine va_callv (va_runV (As := [.int (9 : Int32), .int (14 : Int32)]) (rest := []) ⟨hx, hb, hml, hown, hts⟩ (mX9_comes l dC dI cI cB cJ Q B I49 A50 (9 : Int32) (14 : Int32) H.size _ hc55) (cwV 2 hts gX9_readBody_X9_comes rfl rfl rfl (by decide +kernel) ⟨Nat.le_of_ble_eq_true rfl, Nat.le_of_ble_eq_true rfl⟩) ⟨blindW, va_recv hK hP (ci := 6) (q0 := 0) rfl rfl, fun U hU hW => ⟨rfl, by rw [hU], by rw [hU]; exact hP, va_K.moved hW.alike hK, hD.weaken (fun _ _ _ _ => trivial)⟩⟩ rfl rfl hl.1 rfl (lv_room (Nat.le_of_ble_eq_true rfl)) dX9_readBody_245 ⟨Nat.zero_le _, Nat.zero_le _⟩) hS (fun q _ h => hF58 q h) hF58 (fun u t H locs ht hvm hw hB hz1 hk1 hS => ?_)
          cases hw
          obtain ⟨hP, hK9, hD⟩ := hB
          rw [ht] at hP
          have hP : va_P (dC, dI) vwCl (wM cI cB cJ Q B I56 A57) H := hP
          have hD : va_D AA (wM cI cB cJ Q B I56 A57) := hD.weaken (fun _ _ _ h => hF58 _ h)
          refine lv_goto (tgt := 331) hx hb dX9_readBody_248 (by decide) ?_
          refine lv_aload_n hx hb dX9_readBody_331 rfl (lv_at hl 1 rfl) ?_
          refine lv_aload_n hx hb dX9_readBody_332 rfl (lv_at hl 1 rfl) ?_
          refine va_get (D := (dC, dI)) (ci := 6) (v := .ref (Q 18)) (C := RX9) (T := TX9) (N := 36) hx hb hts hinX9 hown hK hP 0 rfl rfl 18 (by decide) hk119 (fun _ h9 => h9) rfl dX9_readBody_333 ?_
          obtain ⟨r59, hc60, hf⟩ := of_bind_some hf
          refine W.callR (r := r59) (W.runV (As := [.ref (Q 18)]) (rest := []) ⟨hx, hb, hml, hown, hts⟩ (mX9_word_vchanges l dC dI cI cB cJ Q B I56 A57 r59 hc60) (cwV 1 hts gX9_readBody_X9_word rfl rfl rfl (by decide +kernel) ⟨Nat.le_of_ble_eq_true rfl, Nat.le_of_ble_eq_true rfl⟩) ⟨blindR, va_recv hK hP (ci := 6) (q0 := 0) rfl rfl, fun U hU hW => ⟨rfl, by rw [hU]; exact hP, va_K.moved hW.alike hK⟩⟩ rfl rfl hl.1 rfl (lv_room (Nat.le_of_ble_eq_true rfl)) dX9_readBody_336 ⟨Nat.zero_le _, Nat.zero_le _⟩) ?_
          refine W.eq (g2 := F0 m 339 ls [.int r59]) rfl ?_
          refine lv_istore (lv' := [(5, .int r59), (4, .int t0), (0, .ref (Q 100)), (3, .int v3)]) hx hb dX9_readBody_339 hl (by decide) rfl (fun ls hl => ?_)
          exact sg341  FU I56 A57 r59 H locs ls hf hP hD hS (lv_sub hl [2, 0] rfl)
  have sg171 : ∀ (I : Nat → Int32) (A : Nat → Nat → Int32) (v1 : Int32) (v3 : Int32) (t0 : Int32) (t1 : Int32) (H : Heap) (locs : List Loc) (ls : Array Slot), fX9_readBody_171 B  I A v1 v3 t0 t1 = some z → va_P (dC, dI) vwCl (wM cI cB cJ Q B I A) H → va_D AA (wM cI cB cJ Q B I A) → va_S AA s.heap H locs → lv_has ls 6 [(0, .ref (Q 100)), (1, .int v1), (3, .int v3)] → W p l e (headSpec wsX9_readBody ({ frames := 4, cells := 0, slots := 0, locals := 92 })).room s m (([.ref (Q 100)] : List Value).toArray) below meth c H locs 0 0 (MQ below (va_Qi (fun (r : Int32) (u : (Nat → Int32) × (Nat → Nat → Int32)) => (r, u) = z) (atM dC dI cI cB cJ Q B AA) AA) (([.ref (Q 100)] : List Value).toArray) s 0 0 AA) (F0 m 171 ls [.int t0, .int t1, .ref (Q 100)]) := by
    intro I A v1 v3 t0 t1 H locs ls hf hP hD hS hl
    unfold fX9_readBody_171 at hf
    obtain ⟨⟨I33, A34⟩, hc32, hf⟩ := of_bind_some hf
    have hF35 := va_freeAll hD hS hA
    refine va_callv (va_runV (As := [.int t1, .int t0]) (rest := []) ⟨hx, hb, hml, hown, hts⟩ (mX9_comes l dC dI cI cB cJ Q B I A t1 t0 H.size _ hc32) (cwV 2 hts gX9_readBody_X9_comes rfl rfl rfl (by decide +kernel) ⟨Nat.le_of_ble_eq_true rfl, Nat.le_of_ble_eq_true rfl⟩) ⟨blindW, va_recv hK hP (ci := 6) (q0 := 0) rfl rfl, fun U hU hW => ⟨rfl, by rw [hU], by rw [hU]; exact hP, va_K.moved hW.alike hK, hD.weaken (fun _ _ _ _ => trivial)⟩⟩ rfl rfl hl.1 rfl (lv_room (Nat.le_of_ble_eq_true rfl)) dX9_readBody_171 ⟨Nat.zero_le _, Nat.zero_le _⟩) hS (fun q _ h => hF35 q h) hF35 (fun u t H locs ht hvm hw hB hz1 hk1 hS => ?_)
    cases hw
    obtain ⟨hP, hK9, hD⟩ := hB
    rw [ht] at hP
    have hP : va_P (dC, dI) vwCl (wM cI cB cJ Q B I33 A34) H := hP
    have hD : va_D AA (wM cI cB cJ Q B I33 A34) := hD.weaken (fun _ _ _ h => hF35 _ h)
    refine lv_iload_n hx hb dX9_readBody_174 rfl (lv_at hl 1 rfl) ?_
    refine lv_bipush (v := (6 : Int32)) hx hb dX9_readBody_175 (by decide) ?_
    refine lv_icmp_ne (tgt := 185) hx hb dX9_readBody_177 (by decide) (fun c36 => ?_) (fun c36 => ?_)
    · have hf := (if_neg c36).symm.trans hf
      refine lv_aload_n hx hb dX9_readBody_185 rfl (lv_at hl 0 rfl) ?_
      refine lv_aload_n hx hb dX9_readBody_186 rfl (lv_at hl 0 rfl) ?_
      refine va_get (D := (dC, dI)) (ci := 6) (v := .ref (Q 17)) (C := RX9) (T := TX9) (N := 36) hx hb hts hinX9 hown hK hP 0 rfl rfl 17 (by decide) hk90 (fun _ h9 => h9) rfl dX9_readBody_187 ?_
      obtain ⟨r37, hc38, hf⟩ := of_bind_some hf
      refine W.callR (r := r37) (W.runV (As := [.ref (Q 17)]) (rest := []) ⟨hx, hb, hml, hown, hts⟩ (mX9_word_vsizes l dC dI cI cB cJ Q B I33 A34 r37 hc38) (cwV 1 hts gX9_readBody_X9_word rfl rfl rfl (by decide +kernel) ⟨Nat.le_of_ble_eq_true rfl, Nat.le_of_ble_eq_true rfl⟩) ⟨blindR, va_recv hK hP (ci := 6) (q0 := 0) rfl rfl, fun U hU hW => ⟨rfl, by rw [hU]; exact hP, va_K.moved hW.alike hK⟩⟩ rfl rfl hl.1 rfl (lv_room (Nat.le_of_ble_eq_true rfl)) dX9_readBody_190 ⟨Nat.zero_le _, Nat.zero_le _⟩) ?_
      refine W.eq (g2 := F0 m 193 ls [.int r37]) rfl ?_
      exact sg193  I33 A34 v3 r37 H locs ls hf hP hD hS (lv_sub hl [0, 2] rfl)
    · have hf := (if_pos c36).symm.trans hf
      refine lv_bipush (v := (-2 : Int32)) hx hb dX9_readBody_180 (by decide) ?_
      refine lv_goto (tgt := 193) hx hb dX9_readBody_182 (by decide) ?_
      exact sg193  I33 A34 v3 (-2 : Int32) H locs ls hf hP hD hS (lv_sub hl [0, 2] rfl)
  have sg142 : ∀ (I : Nat → Int32) (A : Nat → Nat → Int32) (v1 : Int32) (t0 : Int32) (H : Heap) (locs : List Loc) (ls : Array Slot), fX9_readBody_142 B  I A v1 t0 = some z → va_P (dC, dI) vwCl (wM cI cB cJ Q B I A) H → va_D AA (wM cI cB cJ Q B I A) → va_S AA s.heap H locs → lv_has ls 6 [(0, .ref (Q 100)), (1, .int v1)] → W p l e (headSpec wsX9_readBody ({ frames := 4, cells := 0, slots := 0, locals := 92 })).room s m (([.ref (Q 100)] : List Value).toArray) below meth c H locs 0 0 (MQ below (va_Qi (fun (r : Int32) (u : (Nat → Int32) × (Nat → Nat → Int32)) => (r, u) = z) (atM dC dI cI cB cJ Q B AA) AA) (([.ref (Q 100)] : List Value).toArray) s 0 0 AA) (F0 m 142 ls [.int t0]) := by
    intro I A v1 t0 H locs ls hf hP hD hS hl
    unfold fX9_readBody_142 at hf
    refine lv_istore_n (lv' := [(3, .int t0), (0, .ref (Q 100)), (1, .int v1)]) hx hb dX9_readBody_142 rfl hl (by decide) rfl (fun ls hl => ?_)
    refine lv_aload_n hx hb dX9_readBody_143 rfl (lv_at hl 1 rfl) ?_
    refine lv_iconst (v := (5 : Int32)) hx hb dX9_readBody_144 (by decide) ?_
    refine lv_iload_n hx hb dX9_readBody_145 rfl (lv_at hl 0 rfl) ?_
    refine lv_if_eq (tgt := 154) hx hb dX9_readBody_146 (by decide) (fun c29 => ?_) (fun c29 => ?_)
    · have hf := (if_pos c29).symm.trans hf
      refine lv_iload_n hx hb dX9_readBody_154 rfl (lv_at hl 2 rfl) ?_
      refine lv_iconst (v := (4 : Int32)) hx hb dX9_readBody_155 (by decide) ?_
      refine lv_icmp_eq (tgt := 164) hx hb dX9_readBody_156 (by decide) (fun c30 => ?_) (fun c30 => ?_)
      · have hf := (if_pos c30).symm.trans hf
        refine lv_bipush (v := (8 : Int32)) hx hb dX9_readBody_164 (by decide) ?_
        refine lv_goto (tgt := 171) hx hb dX9_readBody_166 (by decide) ?_
        exact sg171  I A v1 t0 (8 : Int32) (5 : Int32) H locs ls hf hP hD hS (lv_sub hl [1, 2, 0] rfl)
      · have hf := (if_neg c30).symm.trans hf
        refine lv_iload_n hx hb dX9_readBody_159 rfl (lv_at hl 2 rfl) ?_
        refine lv_iconst (v := (5 : Int32)) hx hb dX9_readBody_160 (by decide) ?_
        refine lv_icmp_ne (tgt := 169) hx hb dX9_readBody_161 (by decide) (fun c31 => ?_) (fun c31 => ?_)
        · have hf := (if_neg c31).symm.trans hf
          refine lv_bipush (v := (7 : Int32)) hx hb dX9_readBody_169 (by decide) ?_
          exact sg171  I A v1 t0 (7 : Int32) (5 : Int32) H locs ls hf hP hD hS (lv_sub hl [1, 2, 0] rfl)
        · have hf := (if_pos c31).symm.trans hf
          refine lv_bipush (v := (8 : Int32)) hx hb dX9_readBody_164 (by decide) ?_
          refine lv_goto (tgt := 171) hx hb dX9_readBody_166 (by decide) ?_
          exact sg171  I A v1 t0 (8 : Int32) (5 : Int32) H locs ls hf hP hD hS (lv_sub hl [1, 2, 0] rfl)
    · have hf := (if_neg c29).symm.trans hf
      refine lv_bipush (v := (6 : Int32)) hx hb dX9_readBody_149 (by decide) ?_
      refine lv_goto (tgt := 171) hx hb dX9_readBody_151 (by decide) ?_
      exact sg171  I A v1 t0 (6 : Int32) (5 : Int32) H locs ls hf hP hD hS (lv_sub hl [1, 2, 0] rfl)
  have sg127 : ∀ (I : Nat → Int32) (A : Nat → Nat → Int32) (v1 : Int32) (H : Heap) (locs : List Loc) (ls : Array Slot), fX9_readBody_127 B  I A v1 = some z → va_P (dC, dI) vwCl (wM cI cB cJ Q B I A) H → va_D AA (wM cI cB cJ Q B I A) → va_S AA s.heap H locs → lv_has ls 6 [(0, .ref (Q 100)), (1, .int v1)] → W p l e (headSpec wsX9_readBody ({ frames := 4, cells := 0, slots := 0, locals := 92 })).room s m (([.ref (Q 100)] : List Value).toArray) below meth c H locs 0 0 (MQ below (va_Qi (fun (r : Int32) (u : (Nat → Int32) × (Nat → Nat → Int32)) => (r, u) = z) (atM dC dI cI cB cJ Q B AA) AA) (([.ref (Q 100)] : List Value).toArray) s 0 0 AA) (F0 m 127 ls []) := by
    intro I A v1 H locs ls hf hP hD hS hl
    unfold fX9_readBody_127 at hf
    refine lv_iload_n hx hb dX9_readBody_127 rfl (lv_at hl 1 rfl) ?_
    refine lv_iconst (v := (2 : Int32)) hx hb dX9_readBody_128 (by decide) ?_
    refine lv_icmp_eq (tgt := 137) hx hb dX9_readBody_129 (by decide) (fun c27 => ?_) (fun c27 => ?_)
    · have hf := (if_pos c27).symm.trans hf
      refine lv_iconst (v := (1 : Int32)) hx hb dX9_readBody_137 (by decide) ?_
      refine lv_goto (tgt := 142) hx hb dX9_readBody_138 (by decide) ?_
      exact sg142  I A v1 (1 : Int32) H locs ls hf hP hD hS (lv_sub hl [0, 1] rfl)
    · have hf := (if_neg c27).symm.trans hf
      refine lv_iload_n hx hb dX9_readBody_132 rfl (lv_at hl 1 rfl) ?_
      refine lv_iconst (v := (3 : Int32)) hx hb dX9_readBody_133 (by decide) ?_
      refine lv_icmp_ne (tgt := 141) hx hb dX9_readBody_134 (by decide) (fun c28 => ?_) (fun c28 => ?_)
      · have hf := (if_neg c28).symm.trans hf
        refine lv_iconst (v := (0 : Int32)) hx hb dX9_readBody_141 (by decide) ?_
        exact sg142  I A v1 (0 : Int32) H locs ls hf hP hD hS (lv_sub hl [0, 1] rfl)
      · have hf := (if_pos c28).symm.trans hf
        refine lv_iconst (v := (1 : Int32)) hx hb dX9_readBody_137 (by decide) ?_
        refine lv_goto (tgt := 142) hx hb dX9_readBody_138 (by decide) ?_
        exact sg142  I A v1 (1 : Int32) H locs ls hf hP hD hS (lv_sub hl [0, 1] rfl)
  have sg96 : ∀ (I : Nat → Int32) (A : Nat → Nat → Int32) (v1 : Int32) (t0 : Int32) (t1 : Int32) (H : Heap) (locs : List Loc) (ls : Array Slot), fX9_readBody_96 B  I A v1 t0 t1 = some z → va_P (dC, dI) vwCl (wM cI cB cJ Q B I A) H → va_D AA (wM cI cB cJ Q B I A) → va_S AA s.heap H locs → lv_has ls 6 [(0, .ref (Q 100)), (1, .int v1)] → W p l e (headSpec wsX9_readBody ({ frames := 4, cells := 0, slots := 0, locals := 92 })).room s m (([.ref (Q 100)] : List Value).toArray) below meth c H locs 0 0 (MQ below (va_Qi (fun (r : Int32) (u : (Nat → Int32) × (Nat → Nat → Int32)) => (r, u) = z) (atM dC dI cI cB cJ Q B AA) AA) (([.ref (Q 100)] : List Value).toArray) s 0 0 AA) (F0 m 96 ls [.int t0, .int t1, .ref (Q 100)]) := by
    intro I A v1 t0 t1 H locs ls hf hP hD hS hl
    unfold fX9_readBody_96 at hf
    refine lv_iadd hx hb dX9_readBody_96 ?_
    refine va_put (D := (dC, dI)) (ci := 6) (v := .int (t1 + t0)) (ty := .int) (C := RX9) (T := TX9) (N := 36) hx hb hts hinX9 tyX9 tyX9_ok nmX9 hown hK hP hD hS 0 (fs := (oM Q I)) rfl rfl 23 (by decide) hk202 (fun _ h9 => h9) rfl (by decide +kernel) rfl rfl (Nat.le_of_ble_eq_true rfl) dX9_readBody_97 (fun H locs hP hD hS => ?_)
    have hP : va_P (dC, dI) vwCl (wM cI cB cJ Q B (upd I 23 (t1 + t0)) A) H := Eq.mp (congrArg (fun w => va_P (dC, dI) vwCl w H) (wMI_23 cI cB cJ Q B I A (t1 + t0))) hP
    have hD : va_D AA (wM cI cB cJ Q B (upd I 23 (t1 + t0)) A) := Eq.mp (congrArg (fun w => va_D AA w) (wMI_23 cI cB cJ Q B I A (t1 + t0))) hD
    refine lv_iload_n hx hb dX9_readBody_100 rfl (lv_at hl 1 rfl) ?_
    refine lv_iconst (v := (0 : Int32)) hx hb dX9_readBody_101 (by decide) ?_
    refine lv_iconst (v := (3 : Int32)) hx hb dX9_readBody_102 (by decide) ?_
    refine W.callR (r := (fX9_isIn v1 (0 : Int32) (3 : Int32))) (W.runS (As := [.int v1, .int (0 : Int32), .int (3 : Int32)]) (rest := []) ⟨hx, hb, hml, hown, hts⟩ (mX9_isIn l v1 (0 : Int32) (3 : Int32) (fX9_isIn v1 (0 : Int32) (3 : Int32)) rfl) (va_cwS 3 hts gX9_readBody_X9_isIn rfl rfl rfl (by decide +kernel) ⟨Nat.le_of_ble_eq_true rfl, Nat.le_of_ble_eq_true rfl⟩) ⟨fun _ _ _ _ q => q, fun U hU hW => ⟨rfl, trivial⟩⟩ rfl rfl hl.1 rfl (lv_room (Nat.le_of_ble_eq_true rfl)) dX9_readBody_103 ⟨Nat.zero_le _, Nat.zero_le _⟩) ?_
    refine W.eq (g2 := F0 m 106 ls [.int (fX9_isIn v1 (0 : Int32) (3 : Int32))]) rfl ?_
    refine lv_istore_n (lv' := [(2, .int (fX9_isIn v1 (0 : Int32) (3 : Int32))), (0, .ref (Q 100)), (1, .int v1)]) hx hb dX9_readBody_106 rfl hl (by decide) rfl (fun ls hl => ?_)
    refine lv_iload_n hx hb dX9_readBody_107 rfl (lv_at hl 2 rfl) ?_
    refine lv_bipush (v := (6 : Int32)) hx hb dX9_readBody_108 (by decide) ?_
    refine lv_icmp_eq (tgt := 127) hx hb dX9_readBody_110 (by decide) (fun c17 => ?_) (fun c17 => ?_)
    · have hf := (if_pos c17).symm.trans hf
      exact sg127  (upd I 23 (t1 + t0)) A v1 H locs ls hf hP hD hS (lv_sub hl [1, 2] rfl)
    · have hf := (if_neg c17).symm.trans hf
      refine lv_aload_n hx hb dX9_readBody_113 rfl (lv_at hl 1 rfl) ?_
      refine lv_iconst (v := (3 : Int32)) hx hb dX9_readBody_114 (by decide) ?_
      refine lv_iload_n hx hb dX9_readBody_115 rfl (lv_at hl 0 rfl) ?_
      refine lv_if_eq (tgt := 123) hx hb dX9_readBody_116 (by decide) (fun c18 => ?_) (fun c18 => ?_)
      · have hf := (if_pos c18).symm.trans hf
        refine lv_iconst (v := (4 : Int32)) hx hb dX9_readBody_123 (by decide) ?_
        obtain ⟨⟨I20, A21⟩, hc19, hf⟩ := of_bind_some hf
        have hF22 := va_freeAll hD hS hA
        refine va_callv (va_runV (As := [.int (3 : Int32), .int (4 : Int32)]) (rest := []) ⟨hx, hb, hml, hown, hts⟩ (mX9_comes l dC dI cI cB cJ Q B (upd I 23 (t1 + t0)) A (3 : Int32) (4 : Int32) H.size _ hc19) (cwV 2 hts gX9_readBody_X9_comes rfl rfl rfl (by decide +kernel) ⟨Nat.le_of_ble_eq_true rfl, Nat.le_of_ble_eq_true rfl⟩) ⟨blindW, va_recv hK hP (ci := 6) (q0 := 0) rfl rfl, fun U hU hW => ⟨rfl, by rw [hU], by rw [hU]; exact hP, va_K.moved hW.alike hK, hD.weaken (fun _ _ _ _ => trivial)⟩⟩ rfl rfl hl.1 rfl (lv_room (Nat.le_of_ble_eq_true rfl)) dX9_readBody_124 ⟨Nat.zero_le _, Nat.zero_le _⟩) hS (fun q _ h => hF22 q h) hF22 (fun u t H locs ht hvm hw hB hz1 hk1 hS => ?_)
        cases hw
        obtain ⟨hP, hK9, hD⟩ := hB
        rw [ht] at hP
        have hP : va_P (dC, dI) vwCl (wM cI cB cJ Q B I20 A21) H := hP
        have hD : va_D AA (wM cI cB cJ Q B I20 A21) := hD.weaken (fun _ _ _ h => hF22 _ h)
        exact sg127  I20 A21 v1 H locs ls hf hP hD hS (lv_sub hl [1, 2] rfl)
      · have hf := (if_neg c18).symm.trans hf
        refine lv_iconst (v := (3 : Int32)) hx hb dX9_readBody_119 (by decide) ?_
        refine lv_goto (tgt := 124) hx hb dX9_readBody_120 (by decide) ?_
        obtain ⟨⟨I24, A25⟩, hc23, hf⟩ := of_bind_some hf
        have hF26 := va_freeAll hD hS hA
        refine va_callv (va_runV (As := [.int (3 : Int32), .int (3 : Int32)]) (rest := []) ⟨hx, hb, hml, hown, hts⟩ (mX9_comes l dC dI cI cB cJ Q B (upd I 23 (t1 + t0)) A (3 : Int32) (3 : Int32) H.size _ hc23) (cwV 2 hts gX9_readBody_X9_comes rfl rfl rfl (by decide +kernel) ⟨Nat.le_of_ble_eq_true rfl, Nat.le_of_ble_eq_true rfl⟩) ⟨blindW, va_recv hK hP (ci := 6) (q0 := 0) rfl rfl, fun U hU hW => ⟨rfl, by rw [hU], by rw [hU]; exact hP, va_K.moved hW.alike hK, hD.weaken (fun _ _ _ _ => trivial)⟩⟩ rfl rfl hl.1 rfl (lv_room (Nat.le_of_ble_eq_true rfl)) dX9_readBody_124 ⟨Nat.zero_le _, Nat.zero_le _⟩) hS (fun q _ h => hF26 q h) hF26 (fun u t H locs ht hvm hw hB hz1 hk1 hS => ?_)
        cases hw
        obtain ⟨hP, hK9, hD⟩ := hB
        rw [ht] at hP
        have hP : va_P (dC, dI) vwCl (wM cI cB cJ Q B I24 A25) H := hP
        have hD : va_D AA (wM cI cB cJ Q B I24 A25) := hD.weaken (fun _ _ _ h => hF26 _ h)
        exact sg127  I24 A25 v1 H locs ls hf hP hD hS (lv_sub hl [1, 2] rfl)
  have sg72 : ∀ (I : Nat → Int32) (A : Nat → Nat → Int32) (v1 : Int32) (H : Heap) (locs : List Loc) (ls : Array Slot), fX9_readBody_72 B  I A v1 = some z → va_P (dC, dI) vwCl (wM cI cB cJ Q B I A) H → va_D AA (wM cI cB cJ Q B I A) → va_S AA s.heap H locs → lv_has ls 6 [(0, .ref (Q 100)), (1, .int v1)] → W p l e (headSpec wsX9_readBody ({ frames := 4, cells := 0, slots := 0, locals := 92 })).room s m (([.ref (Q 100)] : List Value).toArray) below meth c H locs 0 0 (MQ below (va_Qi (fun (r : Int32) (u : (Nat → Int32) × (Nat → Nat → Int32)) => (r, u) = z) (atM dC dI cI cB cJ Q B AA) AA) (([.ref (Q 100)] : List Value).toArray) s 0 0 AA) (F0 m 72 ls []) := by
    intro I A v1 H locs ls hf hP hD hS hl
    unfold fX9_readBody_72 at hf
    refine lv_aload_n hx hb dX9_readBody_72 rfl (lv_at hl 0 rfl) ?_
    refine lv_dup hx hb dX9_readBody_73 rfl ?_
    refine va_get (D := (dC, dI)) (ci := 6) (v := .int (I 23)) (C := RX9) (T := TX9) (N := 36) hx hb hts hinX9 hown hK hP 0 rfl rfl 23 (by decide) hk202 (fun _ h9 => h9) rfl dX9_readBody_74 ?_
    refine lv_iload_n hx hb dX9_readBody_77 rfl (lv_at hl 1 rfl) ?_
    refine lv_bipush (v := (-2 : Int32)) hx hb dX9_readBody_78 (by decide) ?_
    refine lv_icmp_ne (tgt := 87) hx hb dX9_readBody_80 (by decide) (fun c13 => ?_) (fun c13 => ?_)
    · have hf := (if_neg c13).symm.trans hf
      refine lv_aload_n hx hb dX9_readBody_87 rfl (lv_at hl 0 rfl) ?_
      refine va_get (D := (dC, dI)) (ci := 6) (v := .ref (Q 16)) (C := RX9) (T := TX9) (N := 36) hx hb hts hinX9 hown hK hP 0 rfl rfl 16 (by decide) hk58 (fun _ h9 => h9) rfl dX9_readBody_88 ?_
      refine lv_iload_n hx hb dX9_readBody_91 rfl (lv_at hl 1 rfl) ?_
      obtain ⟨g14, hf⟩ := of_ite_some hf
      refine va_lald hx hb hK hP 12 2 (n := 7) (f := (B 16)) rfl rfl g14 dX9_readBody_92 ?_
      obtain ⟨r15, hc16, hf⟩ := of_bind_some hf
      refine W.callR (r := r15) (W.runS (As := [.long ((B 16) v1.toNatClampNeg)]) (rest := [.int (I 23), .ref (Q 100)]) ⟨hx, hb, hml, hown, hts⟩ (mX9_lengthOf l ((B 16) v1.toNatClampNeg) r15 hc16) (va_cwS 1 hts gX9_readBody_X9_lengthOf rfl rfl rfl (by decide +kernel) ⟨Nat.le_of_ble_eq_true rfl, Nat.le_of_ble_eq_true rfl⟩) ⟨fun _ _ _ _ q => q, fun U hU hW => ⟨rfl, trivial⟩⟩ rfl rfl hl.1 rfl (lv_room (Nat.le_of_ble_eq_true rfl)) dX9_readBody_93 ⟨Nat.zero_le _, Nat.zero_le _⟩) ?_
      refine W.eq (g2 := F0 m 96 ls [.int r15, .int (I 23), .ref (Q 100)]) rfl ?_
      exact sg96  I A v1 r15 (I 23) H locs ls hf hP hD hS (lv_sub hl [0, 1] rfl)
    · have hf := (if_pos c13).symm.trans hf
      refine lv_iconst (v := (0 : Int32)) hx hb dX9_readBody_83 (by decide) ?_
      refine lv_goto (tgt := 96) hx hb dX9_readBody_84 (by decide) ?_
      exact sg96  I A v1 (0 : Int32) (I 23) H locs ls hf hP hD hS (lv_sub hl [0, 1] rfl)
  have hl := lv_entry ([.ref (Q 100)]) (n := 6) (Nat.le_of_ble_eq_true rfl)
  rw [lg_entry_eq]
  generalize (lg_sl ([.ref (Q 100)]) ++ List.replicate (6 - (lg_sl ([.ref (Q 100)])).length) Slot.unset).toArray = ls at hl ⊢
  have hl : lv_has ls 6 [(0, .ref (Q 100))] := hl
  unfold fX9_readBody at hf
  refine lv_aload_n hx hb dX9_readBody_0 rfl (lv_at hl 0 rfl) ?_
  refine lv_iconst (v := (0 : Int32)) hx hb dX9_readBody_1 (by decide) ?_
  refine va_put (D := (dC, dI)) (ci := 6) (v := .int (0 : Int32)) (ty := .int) (C := RX9) (T := TX9) (N := 36) hx hb hts hinX9 tyX9 tyX9_ok nmX9 hown hK hP hD hS 0 (fs := (oM Q I)) rfl rfl 26 (by decide) hk212 (fun _ h9 => h9) rfl (by decide +kernel) rfl rfl (Nat.le_of_ble_eq_true rfl) dX9_readBody_2 (fun H locs hP hD hS => ?_)
  have hP : va_P (dC, dI) vwCl (wM cI cB cJ Q B (upd I 26 (0 : Int32)) A) H := Eq.mp (congrArg (fun w => va_P (dC, dI) vwCl w H) (wMI_26 cI cB cJ Q B I A (0 : Int32))) hP
  have hD : va_D AA (wM cI cB cJ Q B (upd I 26 (0 : Int32)) A) := Eq.mp (congrArg (fun w => va_D AA w) (wMI_26 cI cB cJ Q B I A (0 : Int32))) hD
  refine lv_aload_n hx hb dX9_readBody_5 rfl (lv_at hl 0 rfl) ?_
  refine lv_iconst (v := (1 : Int32)) hx hb dX9_readBody_6 (by decide) ?_
  refine lv_iconst (v := (0 : Int32)) hx hb dX9_readBody_7 (by decide) ?_
  obtain ⟨⟨I2, A3⟩, hc1, hf⟩ := of_bind_some hf
  have hF4 := va_freeAll hD hS hA
  refine va_callv (va_runV (As := [.int (1 : Int32), .int (0 : Int32)]) (rest := []) ⟨hx, hb, hml, hown, hts⟩ (mX9_comes l dC dI cI cB cJ Q B (upd I 26 (0 : Int32)) A (1 : Int32) (0 : Int32) H.size _ hc1) (cwV 2 hts gX9_readBody_X9_comes rfl rfl rfl (by decide +kernel) ⟨Nat.le_of_ble_eq_true rfl, Nat.le_of_ble_eq_true rfl⟩) ⟨blindW, va_recv hK hP (ci := 6) (q0 := 0) rfl rfl, fun U hU hW => ⟨rfl, by rw [hU], by rw [hU]; exact hP, va_K.moved hW.alike hK, hD.weaken (fun _ _ _ _ => trivial)⟩⟩ rfl rfl hl.1 rfl (lv_room (Nat.le_of_ble_eq_true rfl)) dX9_readBody_8 ⟨Nat.zero_le _, Nat.zero_le _⟩) hS (fun q _ h => hF4 q h) hF4 (fun u t H locs ht hvm hw hB hz1 hk1 hS => ?_)
  cases hw
  obtain ⟨hP, hK9, hD⟩ := hB
  rw [ht] at hP
  have hP : va_P (dC, dI) vwCl (wM cI cB cJ Q B I2 A3) H := hP
  have hD : va_D AA (wM cI cB cJ Q B I2 A3) := hD.weaken (fun _ _ _ h => hF4 _ h)
  refine lv_aload_n hx hb dX9_readBody_11 rfl (lv_at hl 0 rfl) ?_
  refine lv_aload_n hx hb dX9_readBody_12 rfl (lv_at hl 0 rfl) ?_
  refine va_get (D := (dC, dI)) (ci := 6) (v := .ref (Q 16)) (C := RX9) (T := TX9) (N := 36) hx hb hts hinX9 hown hK hP 0 rfl rfl 16 (by decide) hk58 (fun _ h9 => h9) rfl dX9_readBody_13 ?_
  obtain ⟨r5, hc6, hf⟩ := of_bind_some hf
  refine W.callR (r := r5) (W.runV (As := [.ref (Q 16)]) (rest := []) ⟨hx, hb, hml, hown, hts⟩ (mX9_word_vkinds l dC dI cI cB cJ Q B I2 A3 r5 hc6) (cwV 1 hts gX9_readBody_X9_word rfl rfl rfl (by decide +kernel) ⟨Nat.le_of_ble_eq_true rfl, Nat.le_of_ble_eq_true rfl⟩) ⟨blindR, va_recv hK hP (ci := 6) (q0 := 0) rfl rfl, fun U hU hW => ⟨rfl, by rw [hU]; exact hP, va_K.moved hW.alike hK⟩⟩ rfl rfl hl.1 rfl (lv_room (Nat.le_of_ble_eq_true rfl)) dX9_readBody_16 ⟨Nat.zero_le _, Nat.zero_le _⟩) ?_
  refine W.eq (g2 := F0 m 19 ls [.int r5]) rfl ?_
  refine lv_istore_n (lv' := [(1, .int r5), (0, .ref (Q 100))]) hx hb dX9_readBody_19 rfl hl (by decide) rfl (fun ls hl => ?_)
  refine lv_iload_n hx hb dX9_readBody_20 rfl (lv_at hl 0 rfl) ?_
  refine lv_if_ne (tgt := 72) hx hb dX9_readBody_21 (by decide) (fun c7 => ?_) (fun c7 => ?_)
  · have hf := (if_neg c7).symm.trans hf
    exact sg72  I2 A3 r5 H locs ls hf hP hD hS (lv_sub hl [1, 0] rfl)
  · have hf := (if_pos c7).symm.trans hf
    refine lv_aload_n hx hb dX9_readBody_24 rfl (lv_at hl 1 rfl) ?_
    refine va_get (D := (dC, dI)) (ci := 6) (v := .int (I2 23)) (C := RX9) (T := TX9) (N := 36) hx hb hts hinX9 hown hK hP 0 rfl rfl 23 (by decide) hk202 (fun _ h9 => h9) rfl dX9_readBody_25 ?_
    refine lv_iconst (v := (2 : Int32)) hx hb dX9_readBody_28 (by decide) ?_
    refine lv_iadd hx hb dX9_readBody_29 ?_
    refine lv_aload_n hx hb dX9_readBody_30 rfl (lv_at hl 1 rfl) ?_
    refine va_get (D := (dC, dI)) (ci := 6) (v := .int (I2 22)) (C := RX9) (T := TX9) (N := 36) hx hb hts hinX9 hown hK hP 0 rfl rfl 22 (by decide) hk194 (fun _ h9 => h9) rfl dX9_readBody_31 ?_
    refine lv_icmp_ge (tgt := 72) hx hb dX9_readBody_34 (by decide) (fun c8 => ?_) (fun c8 => ?_)
    · have hf := (if_pos c8).symm.trans hf
      exact sg72  I2 A3 r5 H locs ls hf hP hD hS (lv_sub hl [1, 0] rfl)
    · have hf := (if_neg c8).symm.trans hf
      refine lv_aload_n hx hb dX9_readBody_37 rfl (lv_at hl 1 rfl) ?_
      refine va_get (D := (dC, dI)) (ci := 6) (v := .ref (Q 21)) (C := RX9) (T := TX9) (N := 36) hx hb hts hinX9 hown hK hP 0 rfl rfl 21 (by decide) hk166 (fun _ h9 => h9) rfl dX9_readBody_38 ?_
      refine lv_aload_n hx hb dX9_readBody_41 rfl (lv_at hl 1 rfl) ?_
      refine va_get (D := (dC, dI)) (ci := 6) (v := .int (I2 23)) (C := RX9) (T := TX9) (N := 36) hx hb hts hinX9 hown hK hP 0 rfl rfl 23 (by decide) hk202 (fun _ h9 => h9) rfl dX9_readBody_42 ?_
      refine lv_iconst (v := (1 : Int32)) hx hb dX9_readBody_45 (by decide) ?_
      refine lv_iadd hx hb dX9_readBody_46 ?_
      obtain ⟨g9, hf⟩ := of_ite_some hf
      refine va_bald hx hb hK hP 17 1 (n := 64) (f := (A3 21)) rfl rfl g9 dX9_readBody_47 ?_
      refine lv_bipush (v := (97 : Int32)) hx hb dX9_readBody_48 (by decide) ?_
      refine lv_icmp_ne (tgt := 72) hx hb dX9_readBody_50 (by decide) (fun c10 => ?_) (fun c10 => ?_)
      · have hf := (if_neg c10).symm.trans hf
        exact sg72  I2 A3 r5 H locs ls hf hP hD hS (lv_sub hl [1, 0] rfl)
      · have hf := (if_pos c10).symm.trans hf
        refine lv_aload_n hx hb dX9_readBody_53 rfl (lv_at hl 1 rfl) ?_
        refine va_get (D := (dC, dI)) (ci := 6) (v := .ref (Q 21)) (C := RX9) (T := TX9) (N := 36) hx hb hts hinX9 hown hK hP 0 rfl rfl 21 (by decide) hk166 (fun _ h9 => h9) rfl dX9_readBody_54 ?_
        refine lv_aload_n hx hb dX9_readBody_57 rfl (lv_at hl 1 rfl) ?_
        refine va_get (D := (dC, dI)) (ci := 6) (v := .int (I2 23)) (C := RX9) (T := TX9) (N := 36) hx hb hts hinX9 hown hK hP 0 rfl rfl 23 (by decide) hk202 (fun _ h9 => h9) rfl dX9_readBody_58 ?_
        refine lv_iconst (v := (2 : Int32)) hx hb dX9_readBody_61 (by decide) ?_
        refine lv_iadd hx hb dX9_readBody_62 ?_
        obtain ⟨g11, hf⟩ := of_ite_some hf
        refine va_bald hx hb hK hP 17 1 (n := 64) (f := (A3 21)) rfl rfl g11 dX9_readBody_63 ?_
        refine lv_bipush (v := (106 : Int32)) hx hb dX9_readBody_64 (by decide) ?_
        refine lv_icmp_ne (tgt := 72) hx hb dX9_readBody_66 (by decide) (fun c12 => ?_) (fun c12 => ?_)
        · have hf := (if_neg c12).symm.trans hf
          exact sg72  I2 A3 r5 H locs ls hf hP hD hS (lv_sub hl [1, 0] rfl)
        · have hf := (if_pos c12).symm.trans hf
          refine lv_bipush (v := (-2 : Int32)) hx hb dX9_readBody_69 (by decide) ?_
          refine lv_istore_n (lv' := [(1, .int (-2 : Int32)), (0, .ref (Q 100))]) hx hb dX9_readBody_71 rfl hl (by decide) rfl (fun ls hl => ?_)
          exact sg72  I2 A3 (-2 : Int32) H locs ls hf hP hD hS (lv_sub hl [1, 0] rfl)
def fX9_writes_52 (B : Nat → Nat → Int64)  (I : Nat → Int32) (A : Nat → Nat → Int32) (v1 : Int32) (v2 : Int32) (t0 : Int64) : Option ((Nat → Int32) × (Nat → Nat → Int32)) :=
  ((fX9_showsWord B I A t0).bind fun (I12, A13) => ((fX9_bassOf B I12 A13 v1).bind fun r15 => ((fX9_rootOf B I12 A13 v1).bind fun r17 => (if r15 = r17 then (some (I12, A13)) else ((fX9_shows B I12 A13 (47 : Int32)).bind fun (I21, A22) => (if gd (v2 + (2 : Int32)) 500 then (if gd (v2 + (3 : Int32)) 500 then ((fX9_showsNote B I21 A22 ((A22 2) (v2 + (2 : Int32)).toNatClampNeg) ((A22 2) (v2 + (3 : Int32)).toNatClampNeg)).bind fun (I27, A28) => (some (I27, A28))) else none) else none))))))
def fX9_writes (B : Nat → Nat → Int64) (I : Nat → Int32) (A : Nat → Nat → Int32) (x1 : Int32) : Option ((Nat → Int32) × (Nat → Nat → Int32)) :=
  ((fX9_bodyOf B I A x1).bind fun r1 => (if gd ((5 : Int32) * x1) 500 then (if gd (((5 : Int32) * x1) + (1 : Int32)) 500 then ((fX9_showsNote B (upd I 8 (0 : Int32)) A ((A 2) ((5 : Int32) * x1).toNatClampNeg) ((A 2) (((5 : Int32) * x1) + (1 : Int32)).toNatClampNeg)).bind fun (I6, A7) => (if r1 = (-2 : Int32) then (fX9_writes_52 B  I6 A7 x1 ((5 : Int32) * x1) (63 : Int64)) else (if gd r1 20 then (fX9_writes_52 B  I6 A7 x1 ((5 : Int32) * x1) ((B 19) r1.toNatClampNeg)) else none))) else none) else none))
set_option maxRecDepth 100000 in
set_option maxHeartbeats 4000000 in
theorem mX9_writes (l : Launch) (dC : Nat → ClassId) (dI : Nat → Nat → Nat) (cI cB cJ : ClassId) (Q : Nat → Nat) (B : Nat → Nat → Int64) (I : Nat → Int32) (A : Nat → Nat → Int32) (x1 : Int32) (sz : Nat) (z : (Nat → Int32) × (Nat → Nat → Int32)) (hf : fX9_writes B I A x1 = some z) : Met l yX9_writes wsX9_writes ({ frames := 3, cells := 0, slots := 0, locals := 68 }) (va_Pc [.ref (Q 100), .int x1] (fun U => U.heap.size = sz ∧ va_P (dC, dI) vwCl (wM cI cB cJ Q B I A) U.heap ∧ va_K (dC, dI) vwCl (tM cI cB cJ) U ∧ va_D (fun _ => True) (wM cI cB cJ Q B I A))) (va_Qv (fun (u : (Nat → Int32) × (Nat → Nat → Int32)) => u = z) (atM dC dI cI cB cJ Q B (va_A (wM cI cB cJ Q B I A) sz)) (va_A (wM cI cB cJ Q B I A) sz)) 0 0 (va_A (wM cI cB cJ Q B I A) sz) := by
  refine Met.ofW (cc := cX9_writes) (maxL := 4) (ret := none) (by decide) rfl ?_
  intro p e s m args below meth c s₁ BL hml hv
  obtain ⟨rfl, hsz, hP, hK, hD0⟩ := hv
  have hx := BL.exec
  have hb := BL.bytes
  have hr := BL.returns
  have hts := atoms_spec (ws := wsX9_writes) BL.pre
  have hown : s.vm.findClass RX9 = some m.cls := findClass_of_methodNamed BL.named
  have hlocks := BL.notSynchronized
  have hinX9 : ∀ w ∈ u_ws RX9 TX9 36, w ∈ wsX9_writes := by decide +kernel
  have hk13 := hts (.fieldLink RX9 13 "LeadSheetsModel" "heads" "[I") (by decide +kernel)
  have hk136 := hts (.fieldLink RX9 136 "LeadSheetsModel" "bodies" "[J") (by decide +kernel)
  have hk304 := hts (.fieldLink RX9 304 "LeadSheetsModel" "shownMany" "I") (by decide +kernel)
  subst hsz
  have hD := hD0.self (sz := s.heap.size)
  generalize hAe : va_A (wM cI cB cJ Q B I A) s.heap.size = AA at hD ⊢
  have hA : ∀ q : Nat, s.heap.size ≤ q → AA q := fun q h => by rw [← hAe]; exact Or.inr h
  have hS : va_S AA s.heap s.heap [] := va_S.rf
  have sg52 : ∀ (I : Nat → Int32) (A : Nat → Nat → Int32) (v1 : Int32) (v2 : Int32) (t0 : Int64) (H : Heap) (locs : List Loc) (ls : Array Slot), fX9_writes_52 B  I A v1 v2 t0 = some z → va_P (dC, dI) vwCl (wM cI cB cJ Q B I A) H → va_D AA (wM cI cB cJ Q B I A) → va_S AA s.heap H locs → lv_has ls 4 [(0, .ref (Q 100)), (1, .int v1), (2, .int v2)] → W p l e (headSpec wsX9_writes ({ frames := 3, cells := 0, slots := 0, locals := 68 })).room s m (([.ref (Q 100), .int x1] : List Value).toArray) below meth c H locs 0 0 (MQ below (va_Qv (fun (u : (Nat → Int32) × (Nat → Nat → Int32)) => u = z) (atM dC dI cI cB cJ Q B AA) AA) (([.ref (Q 100), .int x1] : List Value).toArray) s 0 0 AA) (F0 m 52 ls [.long t0, .ref (Q 100)]) := by
    intro I A v1 v2 t0 H locs ls hf hP hD hS hl
    unfold fX9_writes_52 at hf
    obtain ⟨⟨I12, A13⟩, hc11, hf⟩ := of_bind_some hf
    have hF14 := va_freeAll hD hS hA
    refine va_callv (va_runV (As := [.long t0]) (rest := []) ⟨hx, hb, hml, hown, hts⟩ (mX9_showsWord l dC dI cI cB cJ Q B I A t0 H.size _ hc11) (cwV 1 hts gX9_writes_X9_showsWord rfl rfl rfl (by decide +kernel) ⟨Nat.le_of_ble_eq_true rfl, Nat.le_of_ble_eq_true rfl⟩) ⟨blindW, va_recv hK hP (ci := 6) (q0 := 0) rfl rfl, fun U hU hW => ⟨rfl, by rw [hU], by rw [hU]; exact hP, va_K.moved hW.alike hK, hD.weaken (fun _ _ _ _ => trivial)⟩⟩ rfl rfl hl.1 rfl (lv_room (Nat.le_of_ble_eq_true rfl)) dX9_writes_52 ⟨Nat.zero_le _, Nat.zero_le _⟩) hS (fun q _ h => hF14 q h) hF14 (fun u t H locs ht hvm hw hB hz1 hk1 hS => ?_)
    cases hw
    obtain ⟨hP, hK9, hD⟩ := hB
    rw [ht] at hP
    have hP : va_P (dC, dI) vwCl (wM cI cB cJ Q B I12 A13) H := hP
    have hD : va_D AA (wM cI cB cJ Q B I12 A13) := hD.weaken (fun _ _ _ h => hF14 _ h)
    refine lv_aload_n hx hb dX9_writes_55 rfl (lv_at hl 0 rfl) ?_
    refine lv_iload_n hx hb dX9_writes_56 rfl (lv_at hl 1 rfl) ?_
    obtain ⟨r15, hc16, hf⟩ := of_bind_some hf
    refine W.callR (r := r15) (W.runV (As := [.int v1]) (rest := []) ⟨hx, hb, hml, hown, hts⟩ (mX9_bassOf l dC dI cI cB cJ Q B I12 A13 v1 r15 hc16) (cwV 1 hts gX9_writes_X9_bassOf rfl rfl rfl (by decide +kernel) ⟨Nat.le_of_ble_eq_true rfl, Nat.le_of_ble_eq_true rfl⟩) ⟨blindR, va_recv hK hP (ci := 6) (q0 := 0) rfl rfl, fun U hU hW => ⟨rfl, by rw [hU]; exact hP, va_K.moved hW.alike hK⟩⟩ rfl rfl hl.1 rfl (lv_room (Nat.le_of_ble_eq_true rfl)) dX9_writes_57 ⟨Nat.zero_le _, Nat.zero_le _⟩) ?_
    refine W.eq (g2 := F0 m 60 ls [.int r15]) rfl ?_
    refine lv_aload_n hx hb dX9_writes_60 rfl (lv_at hl 0 rfl) ?_
    refine lv_iload_n hx hb dX9_writes_61 rfl (lv_at hl 1 rfl) ?_
    obtain ⟨r17, hc18, hf⟩ := of_bind_some hf
    refine W.callR (r := r17) (W.runV (As := [.int v1]) (rest := [.int r15]) ⟨hx, hb, hml, hown, hts⟩ (mX9_rootOf l dC dI cI cB cJ Q B I12 A13 v1 r17 hc18) (cwV 1 hts gX9_writes_X9_rootOf rfl rfl rfl (by decide +kernel) ⟨Nat.le_of_ble_eq_true rfl, Nat.le_of_ble_eq_true rfl⟩) ⟨blindR, va_recv hK hP (ci := 6) (q0 := 0) rfl rfl, fun U hU hW => ⟨rfl, by rw [hU]; exact hP, va_K.moved hW.alike hK⟩⟩ rfl rfl hl.1 rfl (lv_room (Nat.le_of_ble_eq_true rfl)) dX9_writes_62 ⟨Nat.zero_le _, Nat.zero_le _⟩) ?_
    refine W.eq (g2 := F0 m 65 ls [.int r17, .int r15]) rfl ?_
    refine lv_icmp_eq (tgt := 94) hx hb dX9_writes_65 (by decide) (fun c19 => ?_) (fun c19 => ?_)
    · have hf := (if_pos c19).symm.trans hf
      exact W.vret hx hb hr (fun t ht hW => ⟨⟨(I12, A13), rfl, Option.some.inj hf, by rw [ht]; exact hP, va_K.moved hW.alike hK, hD⟩, hS.F ht⟩) hS.2.2 dX9_writes_94
    · have hf := (if_neg c19).symm.trans hf
      refine lv_aload_n hx hb dX9_writes_68 rfl (lv_at hl 0 rfl) ?_
      refine lv_bipush (v := (47 : Int32)) hx hb dX9_writes_69 (by decide) ?_
      obtain ⟨⟨I21, A22⟩, hc20, hf⟩ := of_bind_some hf
      have hF23 := va_freeAll hD hS hA
      refine va_callv (va_runV (As := [.int (47 : Int32)]) (rest := []) ⟨hx, hb, hml, hown, hts⟩ (mX9_shows l dC dI cI cB cJ Q B I12 A13 (47 : Int32) H.size _ hc20) (cwV 1 hts gX9_writes_X9_shows rfl rfl rfl (by decide +kernel) ⟨Nat.le_of_ble_eq_true rfl, Nat.le_of_ble_eq_true rfl⟩) ⟨blindW, va_recv hK hP (ci := 6) (q0 := 0) rfl rfl, fun U hU hW => ⟨rfl, by rw [hU], by rw [hU]; exact hP, va_K.moved hW.alike hK, hD.weaken (fun _ _ _ _ => trivial)⟩⟩ rfl rfl hl.1 rfl (lv_room (Nat.le_of_ble_eq_true rfl)) dX9_writes_71 ⟨Nat.zero_le _, Nat.zero_le _⟩) hS (fun q _ h => hF23 q h) hF23 (fun u t H locs ht hvm hw hB hz1 hk1 hS => ?_)
      cases hw
      obtain ⟨hP, hK9, hD⟩ := hB
      rw [ht] at hP
      have hP : va_P (dC, dI) vwCl (wM cI cB cJ Q B I21 A22) H := hP
      have hD : va_D AA (wM cI cB cJ Q B I21 A22) := hD.weaken (fun _ _ _ h => hF23 _ h)
      refine lv_aload_n hx hb dX9_writes_74 rfl (lv_at hl 0 rfl) ?_
      refine lv_aload_n hx hb dX9_writes_75 rfl (lv_at hl 0 rfl) ?_
      refine va_get (D := (dC, dI)) (ci := 6) (v := .ref (Q 2)) (C := RX9) (T := TX9) (N := 36) hx hb hts hinX9 hown hK hP 0 rfl rfl 2 (by decide) hk13 (fun _ h9 => h9) rfl dX9_writes_76 ?_
      refine lv_iload_n hx hb dX9_writes_79 rfl (lv_at hl 2 rfl) ?_
      refine lv_iconst (v := (2 : Int32)) hx hb dX9_writes_80 (by decide) ?_
      refine lv_iadd hx hb dX9_writes_81 ?_
      obtain ⟨g24, hf⟩ := of_ite_some hf
      refine va_iald hx hb hK hP 2 0 (n := 500) (f := (A22 2)) rfl rfl g24 dX9_writes_82 ?_
      refine lv_aload_n hx hb dX9_writes_83 rfl (lv_at hl 0 rfl) ?_
      refine va_get (D := (dC, dI)) (ci := 6) (v := .ref (Q 2)) (C := RX9) (T := TX9) (N := 36) hx hb hts hinX9 hown hK hP 0 rfl rfl 2 (by decide) hk13 (fun _ h9 => h9) rfl dX9_writes_84 ?_
      refine lv_iload_n hx hb dX9_writes_87 rfl (lv_at hl 2 rfl) ?_
      refine lv_iconst (v := (3 : Int32)) hx hb dX9_writes_88 (by decide) ?_
      refine lv_iadd hx hb dX9_writes_89 ?_
      obtain ⟨g25, hf⟩ := of_ite_some hf
      refine va_iald hx hb hK hP 2 0 (n := 500) (f := (A22 2)) rfl rfl g25 dX9_writes_90 ?_
      obtain ⟨⟨I27, A28⟩, hc26, hf⟩ := of_bind_some hf
      have hF29 := va_freeAll hD hS hA
      refine va_callv (va_runV (As := [.int ((A22 2) (v2 + (2 : Int32)).toNatClampNeg), .int ((A22 2) (v2 + (3 : Int32)).toNatClampNeg)]) (rest := []) ⟨hx, hb, hml, hown, hts⟩ (mX9_showsNote l dC dI cI cB cJ Q B I21 A22 ((A22 2) (v2 + (2 : Int32)).toNatClampNeg) ((A22 2) (v2 + (3 : Int32)).toNatClampNeg) H.size _ hc26) (cwV 2 hts gX9_writes_X9_showsNote rfl rfl rfl (by decide +kernel) ⟨Nat.le_of_ble_eq_true rfl, Nat.le_of_ble_eq_true rfl⟩) ⟨blindW, va_recv hK hP (ci := 6) (q0 := 0) rfl rfl, fun U hU hW => ⟨rfl, by rw [hU], by rw [hU]; exact hP, va_K.moved hW.alike hK, hD.weaken (fun _ _ _ _ => trivial)⟩⟩ rfl rfl hl.1 rfl (lv_room (Nat.le_of_ble_eq_true rfl)) dX9_writes_91 ⟨Nat.zero_le _, Nat.zero_le _⟩) hS (fun q _ h => hF29 q h) hF29 (fun u t H locs ht hvm hw hB hz1 hk1 hS => ?_)
      cases hw
      obtain ⟨hP, hK9, hD⟩ := hB
      rw [ht] at hP
      have hP : va_P (dC, dI) vwCl (wM cI cB cJ Q B I27 A28) H := hP
      have hD : va_D AA (wM cI cB cJ Q B I27 A28) := hD.weaken (fun _ _ _ h => hF29 _ h)
      exact W.vret hx hb hr (fun t ht hW => ⟨⟨(I27, A28), rfl, Option.some.inj hf, by rw [ht]; exact hP, va_K.moved hW.alike hK, hD⟩, hS.F ht⟩) hS.2.2 dX9_writes_94
  have hl := lv_entry ([.ref (Q 100), .int x1]) (n := 4) (Nat.le_of_ble_eq_true rfl)
  rw [lg_entry_eq]
  generalize (lg_sl ([.ref (Q 100), .int x1]) ++ List.replicate (4 - (lg_sl ([.ref (Q 100), .int x1])).length) Slot.unset).toArray = ls at hl ⊢
  have hl : lv_has ls 4 [(0, .ref (Q 100)), (1, .int x1)] := hl
  unfold fX9_writes at hf
  refine lv_iconst (v := (5 : Int32)) hx hb dX9_writes_0 (by decide) ?_
  refine lv_iload_n hx hb dX9_writes_1 rfl (lv_at hl 1 rfl) ?_
  refine lv_imul hx hb dX9_writes_2 ?_
  refine lv_istore_n (lv' := [(2, .int ((5 : Int32) * x1)), (0, .ref (Q 100)), (1, .int x1)]) hx hb dX9_writes_3 rfl hl (by decide) rfl (fun ls hl => ?_)
  refine lv_aload_n hx hb dX9_writes_4 rfl (lv_at hl 1 rfl) ?_
  refine lv_iload_n hx hb dX9_writes_5 rfl (lv_at hl 2 rfl) ?_
  obtain ⟨r1, hc2, hf⟩ := of_bind_some hf
  refine W.callR (r := r1) (W.runV (As := [.int x1]) (rest := []) ⟨hx, hb, hml, hown, hts⟩ (mX9_bodyOf l dC dI cI cB cJ Q B I A x1 r1 hc2) (cwV 1 hts gX9_writes_X9_bodyOf rfl rfl rfl (by decide +kernel) ⟨Nat.le_of_ble_eq_true rfl, Nat.le_of_ble_eq_true rfl⟩) ⟨blindR, va_recv hK hP (ci := 6) (q0 := 0) rfl rfl, fun U hU hW => ⟨rfl, by rw [hU]; exact hP, va_K.moved hW.alike hK⟩⟩ rfl rfl hl.1 rfl (lv_room (Nat.le_of_ble_eq_true rfl)) dX9_writes_6 ⟨Nat.zero_le _, Nat.zero_le _⟩) ?_
  refine W.eq (g2 := F0 m 9 ls [.int r1]) rfl ?_
  refine lv_istore_n (lv' := [(3, .int r1), (2, .int ((5 : Int32) * x1)), (0, .ref (Q 100)), (1, .int x1)]) hx hb dX9_writes_9 rfl hl (by decide) rfl (fun ls hl => ?_)
  refine lv_aload_n hx hb dX9_writes_10 rfl (lv_at hl 2 rfl) ?_
  refine lv_iconst (v := (0 : Int32)) hx hb dX9_writes_11 (by decide) ?_
  refine va_put (D := (dC, dI)) (ci := 6) (v := .int (0 : Int32)) (ty := .int) (C := RX9) (T := TX9) (N := 36) hx hb hts hinX9 tyX9 tyX9_ok nmX9 hown hK hP hD hS 0 (fs := (oM Q I)) rfl rfl 8 (by decide) hk304 (fun _ h9 => h9) rfl (by decide +kernel) rfl rfl (Nat.le_of_ble_eq_true rfl) dX9_writes_12 (fun H locs hP hD hS => ?_)
  have hP : va_P (dC, dI) vwCl (wM cI cB cJ Q B (upd I 8 (0 : Int32)) A) H := Eq.mp (congrArg (fun w => va_P (dC, dI) vwCl w H) (wMI_8 cI cB cJ Q B I A (0 : Int32))) hP
  have hD : va_D AA (wM cI cB cJ Q B (upd I 8 (0 : Int32)) A) := Eq.mp (congrArg (fun w => va_D AA w) (wMI_8 cI cB cJ Q B I A (0 : Int32))) hD
  refine lv_aload_n hx hb dX9_writes_15 rfl (lv_at hl 2 rfl) ?_
  refine lv_aload_n hx hb dX9_writes_16 rfl (lv_at hl 2 rfl) ?_
  refine va_get (D := (dC, dI)) (ci := 6) (v := .ref (Q 2)) (C := RX9) (T := TX9) (N := 36) hx hb hts hinX9 hown hK hP 0 rfl rfl 2 (by decide) hk13 (fun _ h9 => h9) rfl dX9_writes_17 ?_
  refine lv_iload_n hx hb dX9_writes_20 rfl (lv_at hl 1 rfl) ?_
  obtain ⟨g3, hf⟩ := of_ite_some hf
  refine va_iald hx hb hK hP 2 0 (n := 500) (f := (A 2)) rfl rfl g3 dX9_writes_21 ?_
  refine lv_aload_n hx hb dX9_writes_22 rfl (lv_at hl 2 rfl) ?_
  refine va_get (D := (dC, dI)) (ci := 6) (v := .ref (Q 2)) (C := RX9) (T := TX9) (N := 36) hx hb hts hinX9 hown hK hP 0 rfl rfl 2 (by decide) hk13 (fun _ h9 => h9) rfl dX9_writes_23 ?_
  refine lv_iload_n hx hb dX9_writes_26 rfl (lv_at hl 1 rfl) ?_
  refine lv_iconst (v := (1 : Int32)) hx hb dX9_writes_27 (by decide) ?_
  refine lv_iadd hx hb dX9_writes_28 ?_
  obtain ⟨g4, hf⟩ := of_ite_some hf
  refine va_iald hx hb hK hP 2 0 (n := 500) (f := (A 2)) rfl rfl g4 dX9_writes_29 ?_
  obtain ⟨⟨I6, A7⟩, hc5, hf⟩ := of_bind_some hf
  have hF8 := va_freeAll hD hS hA
  refine va_callv (va_runV (As := [.int ((A 2) ((5 : Int32) * x1).toNatClampNeg), .int ((A 2) (((5 : Int32) * x1) + (1 : Int32)).toNatClampNeg)]) (rest := []) ⟨hx, hb, hml, hown, hts⟩ (mX9_showsNote l dC dI cI cB cJ Q B (upd I 8 (0 : Int32)) A ((A 2) ((5 : Int32) * x1).toNatClampNeg) ((A 2) (((5 : Int32) * x1) + (1 : Int32)).toNatClampNeg) H.size _ hc5) (cwV 2 hts gX9_writes_X9_showsNote rfl rfl rfl (by decide +kernel) ⟨Nat.le_of_ble_eq_true rfl, Nat.le_of_ble_eq_true rfl⟩) ⟨blindW, va_recv hK hP (ci := 6) (q0 := 0) rfl rfl, fun U hU hW => ⟨rfl, by rw [hU], by rw [hU]; exact hP, va_K.moved hW.alike hK, hD.weaken (fun _ _ _ _ => trivial)⟩⟩ rfl rfl hl.1 rfl (lv_room (Nat.le_of_ble_eq_true rfl)) dX9_writes_30 ⟨Nat.zero_le _, Nat.zero_le _⟩) hS (fun q _ h => hF8 q h) hF8 (fun u t H locs ht hvm hw hB hz1 hk1 hS => ?_)
  cases hw
  obtain ⟨hP, hK9, hD⟩ := hB
  rw [ht] at hP
  have hP : va_P (dC, dI) vwCl (wM cI cB cJ Q B I6 A7) H := hP
  have hD : va_D AA (wM cI cB cJ Q B I6 A7) := hD.weaken (fun _ _ _ h => hF8 _ h)
  refine lv_aload_n hx hb dX9_writes_33 rfl (lv_at hl 2 rfl) ?_
  refine lv_iload_n hx hb dX9_writes_34 rfl (lv_at hl 0 rfl) ?_
  refine lv_bipush (v := (-2 : Int32)) hx hb dX9_writes_35 (by decide) ?_
  refine lv_icmp_ne (tgt := 46) hx hb dX9_writes_37 (by decide) (fun c9 => ?_) (fun c9 => ?_)
  · have hf := (if_neg c9).symm.trans hf
    refine lv_aload_n hx hb dX9_writes_46 rfl (lv_at hl 2 rfl) ?_
    refine va_get (D := (dC, dI)) (ci := 6) (v := .ref (Q 19)) (C := RX9) (T := TX9) (N := 36) hx hb hts hinX9 hown hK hP 0 rfl rfl 19 (by decide) hk136 (fun _ h9 => h9) rfl dX9_writes_47 ?_
    refine lv_iload_n hx hb dX9_writes_50 rfl (lv_at hl 0 rfl) ?_
    obtain ⟨g10, hf⟩ := of_ite_some hf
    refine va_lald hx hb hK hP 15 2 (n := 20) (f := (B 19)) rfl rfl g10 dX9_writes_51 ?_
    exact sg52  I6 A7 x1 ((5 : Int32) * x1) ((B 19) r1.toNatClampNeg) H locs ls hf hP hD hS (lv_sub hl [2, 3, 1] rfl)
  · have hf := (if_pos c9).symm.trans hf
    refine lv_ldc2 hx hb hown (hts (.constantLong RX9 316 (63)) (by decide +kernel)) dX9_writes_40 ?_
    refine lv_goto (tgt := 52) hx hb dX9_writes_43 (by decide) ?_
    exact sg52  I6 A7 x1 ((5 : Int32) * x1) (63 : Int64) H locs ls hf hP hD hS (lv_sub hl [2, 3, 1] rfl)
def fX9_write (B : Nat → Nat → Int64) (I : Nat → Int32) (A : Nat → Nat → Int32) (x1 : Int32) : Option (Int32 × (Nat → Int32) × (Nat → Nat → Int32)) :=
  ((fX9_isChord B I A x1).bind fun r1 => (if r1 = 0 then (some ((-1 : Int32), (I, A))) else ((fX9_writes B I A x1).bind fun (I5, A6) => (some ((I5 8), (I5, A6))))))
set_option maxRecDepth 100000 in
set_option maxHeartbeats 4000000 in
theorem mX9_write (l : Launch) (dC : Nat → ClassId) (dI : Nat → Nat → Nat) (cI cB cJ : ClassId) (Q : Nat → Nat) (B : Nat → Nat → Int64) (I : Nat → Int32) (A : Nat → Nat → Int32) (x1 : Int32) (sz : Nat) (z : Int32 × (Nat → Int32) × (Nat → Nat → Int32)) (hf : fX9_write B I A x1 = some z) : Met l yX9_write wsX9_write ({ frames := 4, cells := 0, slots := 0, locals := 91 }) (va_Pc [.ref (Q 100), .int x1] (fun U => U.heap.size = sz ∧ va_P (dC, dI) vwCl (wM cI cB cJ Q B I A) U.heap ∧ va_K (dC, dI) vwCl (tM cI cB cJ) U ∧ va_D (fun _ => True) (wM cI cB cJ Q B I A))) (va_Qi (fun (r : Int32) (u : (Nat → Int32) × (Nat → Nat → Int32)) => (r, u) = z) (atM dC dI cI cB cJ Q B (va_A (wM cI cB cJ Q B I A) sz)) (va_A (wM cI cB cJ Q B I A) sz)) 0 0 (va_A (wM cI cB cJ Q B I A) sz) := by
  refine Met.ofW (cc := cX9_write) (maxL := 2) (ret := (some .int)) (by decide) rfl ?_
  intro p e s m args below meth c s₁ BL hml hv
  obtain ⟨rfl, hsz, hP, hK, hD0⟩ := hv
  have hx := BL.exec
  have hb := BL.bytes
  have hr := BL.returns
  have hts := atoms_spec (ws := wsX9_write) BL.pre
  have hown : s.vm.findClass RX9 = some m.cls := findClass_of_methodNamed BL.named
  have hlocks := BL.notSynchronized
  have hinX9 : ∀ w ∈ u_ws RX9 TX9 36, w ∈ wsX9_write := by decide +kernel
  have hk304 := hts (.fieldLink RX9 304 "LeadSheetsModel" "shownMany" "I") (by decide +kernel)
  subst hsz
  have hD := hD0.self (sz := s.heap.size)
  generalize hAe : va_A (wM cI cB cJ Q B I A) s.heap.size = AA at hD ⊢
  have hA : ∀ q : Nat, s.heap.size ≤ q → AA q := fun q h => by rw [← hAe]; exact Or.inr h
  have hS : va_S AA s.heap s.heap [] := va_S.rf
  have hl := lv_entry ([.ref (Q 100), .int x1]) (n := 2) (Nat.le_of_ble_eq_true rfl)
  rw [lg_entry_eq]
  generalize (lg_sl ([.ref (Q 100), .int x1]) ++ List.replicate (2 - (lg_sl ([.ref (Q 100), .int x1])).length) Slot.unset).toArray = ls at hl ⊢
  have hl : lv_has ls 2 [(0, .ref (Q 100)), (1, .int x1)] := hl
  unfold fX9_write at hf
  refine lv_aload_n hx hb dX9_write_0 rfl (lv_at hl 0 rfl) ?_
  refine lv_iload_n hx hb dX9_write_1 rfl (lv_at hl 1 rfl) ?_
  obtain ⟨r1, hc2, hf⟩ := of_bind_some hf
  refine W.callR (r := r1) (W.runV (As := [.int x1]) (rest := []) ⟨hx, hb, hml, hown, hts⟩ (mX9_isChord l dC dI cI cB cJ Q B I A x1 r1 hc2) (cwV 1 hts gX9_write_X9_isChord rfl rfl rfl (by decide +kernel) ⟨Nat.le_of_ble_eq_true rfl, Nat.le_of_ble_eq_true rfl⟩) ⟨blindR, va_recv hK hP (ci := 6) (q0 := 0) rfl rfl, fun U hU hW => ⟨rfl, by rw [hU]; exact hP, va_K.moved hW.alike hK⟩⟩ rfl rfl hl.1 rfl (lv_room (Nat.le_of_ble_eq_true rfl)) dX9_write_2 ⟨Nat.zero_le _, Nat.zero_le _⟩) ?_
  refine W.eq (g2 := F0 m 5 ls [.int r1]) rfl ?_
  refine lv_if_ne (tgt := 10) hx hb dX9_write_5 (by decide) (fun c3 => ?_) (fun c3 => ?_)
  · have hf := (if_neg c3).symm.trans hf
    refine lv_aload_n hx hb dX9_write_10 rfl (lv_at hl 0 rfl) ?_
    refine lv_iload_n hx hb dX9_write_11 rfl (lv_at hl 1 rfl) ?_
    obtain ⟨⟨I5, A6⟩, hc4, hf⟩ := of_bind_some hf
    have hF7 := va_freeAll hD hS hA
    refine va_callv (va_runV (As := [.int x1]) (rest := []) ⟨hx, hb, hml, hown, hts⟩ (mX9_writes l dC dI cI cB cJ Q B I A x1 s.heap.size _ hc4) (cwV 1 hts gX9_write_X9_writes rfl rfl rfl (by decide +kernel) ⟨Nat.le_of_ble_eq_true rfl, Nat.le_of_ble_eq_true rfl⟩) ⟨blindW, va_recv hK hP (ci := 6) (q0 := 0) rfl rfl, fun U hU hW => ⟨rfl, by rw [hU], by rw [hU]; exact hP, va_K.moved hW.alike hK, hD.weaken (fun _ _ _ _ => trivial)⟩⟩ rfl rfl hl.1 rfl (lv_room (Nat.le_of_ble_eq_true rfl)) dX9_write_12 ⟨Nat.zero_le _, Nat.zero_le _⟩) hS (fun q _ h => hF7 q h) hF7 (fun u t H locs ht hvm hw hB hz1 hk1 hS => ?_)
    cases hw
    obtain ⟨hP, hK9, hD⟩ := hB
    rw [ht] at hP
    have hP : va_P (dC, dI) vwCl (wM cI cB cJ Q B I5 A6) H := hP
    have hD : va_D AA (wM cI cB cJ Q B I5 A6) := hD.weaken (fun _ _ _ h => hF7 _ h)
    refine lv_aload_n hx hb dX9_write_15 rfl (lv_at hl 0 rfl) ?_
    refine va_get (D := (dC, dI)) (ci := 6) (v := .int (I5 8)) (C := RX9) (T := TX9) (N := 36) hx hb hts hinX9 hown hK hP 0 rfl rfl 8 (by decide) hk304 (fun _ h9 => h9) rfl dX9_write_16 ?_
    exact W.iret (v := (I5 8)) hx hb hr (fun t ht hW => ⟨⟨(I5 8), (I5, A6), rfl, Option.some.inj hf, by rw [ht]; exact hP, va_K.moved hW.alike hK, hD⟩, hS.F ht⟩) hS.2.2 dX9_write_19
  · have hf := (if_pos c3).symm.trans hf
    refine lv_iconst (v := (-1 : Int32)) hx hb dX9_write_8 (by decide) ?_
    exact W.iret (v := (-1 : Int32)) hx hb hr (fun t ht hW => ⟨⟨(-1 : Int32), (I, A), rfl, Option.some.inj hf, by rw [ht]; exact hP, va_K.moved hW.alike hK, hD⟩, hS.F ht⟩) hS.2.2 dX9_write_9
def fX9_finds_146 (B : Nat → Nat → Int64) (k7 : (Nat → Int32) → (Nat → Nat → Int32) → Int32 → Int32 → Int32 → Option ((Nat → Int32) × (Nat → Nat → Int32))) (k24 : (Nat → Int32) → (Nat → Nat → Int32) → Int32 → Int32 → Int32 → Int32 → Int32 → Option ((Nat → Int32) × (Nat → Nat → Int32))) (I : Nat → Int32) (A : Nat → Nat → Int32) (v1 : Int32) (v2 : Int32) (v3 : Int32) (v4 : Int32) (v5 : Int32) (v7 : Int32) (v9 : Int32) (t0 : Int32) (t1 : Int32) : Option ((Nat → Int32) × (Nat → Nat → Int32)) :=
  (if gd t1 2400 then (if gd (v7 + (4 : Int32)) 2400 then (k24 (upd I 30 ((I 30) + (1 : Int32))) (va_up A 29 (upd (upd (A 29) t1.toNatClampNeg t0) (v7 + (4 : Int32)).toNatClampNeg v9)) v1 v2 v3 v4 (v5 + (1 : Int32))) else none) else none)
def fX9_finds_61 (B : Nat → Nat → Int64) (k7 : (Nat → Int32) → (Nat → Nat → Int32) → Int32 → Int32 → Int32 → Option ((Nat → Int32) × (Nat → Nat → Int32))) (k24 : (Nat → Int32) → (Nat → Nat → Int32) → Int32 → Int32 → Int32 → Int32 → Int32 → Option ((Nat → Int32) × (Nat → Nat → Int32))) (I : Nat → Int32) (A : Nat → Nat → Int32) (v1 : Int32) (v2 : Int32) (v3 : Int32) (v4 : Int32) (v5 : Int32) : Option ((Nat → Int32) × (Nat → Nat → Int32)) :=
  ((fX9_spelt B I A v4 v5).bind fun r8 => ((fX9_spelt B I A v2 (0 : Int32)).bind fun r10 => ((fX9_letterOf v4 r8).bind fun r12 => (if gd ((5 : Int32) * (I 30)) 2400 then (if gd (((5 : Int32) * (I 30)) + (1 : Int32)) 2400 then (if gd (((5 : Int32) * (I 30)) + (2 : Int32)) 2400 then (if v3 = 0 then (fX9_finds_146 B k7 k24 I (va_up A 29 (upd (upd (upd (A 29) ((5 : Int32) * (I 30)).toNatClampNeg r12) (((5 : Int32) * (I 30)) + (1 : Int32)).toNatClampNeg r8) (((5 : Int32) * (I 30)) + (2 : Int32)).toNatClampNeg v5)) v1 v2 v3 v4 v5 ((5 : Int32) * (I 30)) r10 (-2 : Int32) (((5 : Int32) * (I 30)) + (3 : Int32))) else ((fX9_letterOf v2 r10).bind fun r18 => (fX9_finds_146 B k7 k24 I (va_up A 29 (upd (upd (upd (A 29) ((5 : Int32) * (I 30)).toNatClampNeg r12) (((5 : Int32) * (I 30)) + (1 : Int32)).toNatClampNeg r8) (((5 : Int32) * (I 30)) + (2 : Int32)).toNatClampNeg v5)) v1 v2 v3 v4 v5 ((5 : Int32) * (I 30)) r10 r18 (((5 : Int32) * (I 30)) + (3 : Int32))))) else none) else none) else none))))
def fX9_finds_24B (B : Nat → Nat → Int64) (k7 : (Nat → Int32) → (Nat → Nat → Int32) → Int32 → Int32 → Int32 → Option ((Nat → Int32) × (Nat → Nat → Int32))) (k24 : (Nat → Int32) → (Nat → Nat → Int32) → Int32 → Int32 → Int32 → Int32 → Int32 → Option ((Nat → Int32) × (Nat → Nat → Int32))) (I : Nat → Int32) (A : Nat → Nat → Int32) (v1 : Int32) (v2 : Int32) (v3 : Int32) (v4 : Int32) (v5 : Int32) : Option ((Nat → Int32) × (Nat → Nat → Int32)) :=
  (if (20 : Int32) ≤ v5 then (k7 I A v1 v2 (v3 + (1 : Int32))) else ((fX9_setOfBody B I A v5 v4).bind fun r3 => (if r3 = v1 then (fX9_finds_61 B k7 k24 I A v1 v2 v3 v4 v5) else (if v3 ≤ 0 then (k24 I A v1 v2 v3 v4 (v5 + (1 : Int32))) else (if (r3 ||| ((1 : Int32) <<< (v2 &&& 31))) = v1 then (fX9_finds_61 B k7 k24 I A v1 v2 v3 v4 v5) else (k24 I A v1 v2 v3 v4 (v5 + (1 : Int32))))))))
def fX9_finds_24 (B : Nat → Nat → Int64) (k7 : (Nat → Int32) → (Nat → Nat → Int32) → Int32 → Int32 → Int32 → Option ((Nat → Int32) × (Nat → Nat → Int32))) : Nat → ((Nat → Int32) → (Nat → Nat → Int32) → Int32 → Int32 → Int32 → Int32 → Int32 → Option ((Nat → Int32) × (Nat → Nat → Int32)))
  | 0 => fun _ _ _ _ _ _ _ => none
  | n + 1 => fX9_finds_24B B k7 (fX9_finds_24 B k7 n)
def fX9_finds_7B (B : Nat → Nat → Int64)  (k7 : (Nat → Int32) → (Nat → Nat → Int32) → Int32 → Int32 → Int32 → Option ((Nat → Int32) × (Nat → Nat → Int32))) (I : Nat → Int32) (A : Nat → Nat → Int32) (v1 : Int32) (v2 : Int32) (v3 : Int32) : Option ((Nat → Int32) × (Nat → Nat → Int32)) :=
  (if (12 : Int32) ≤ v3 then (some (I, A)) else (fX9_finds_24 B k7 FU I A v1 v2 v3 (jrem (v2 + v3) (12 : Int32)) (0 : Int32)))
def fX9_finds_7 (B : Nat → Nat → Int64)  : Nat → ((Nat → Int32) → (Nat → Nat → Int32) → Int32 → Int32 → Int32 → Option ((Nat → Int32) × (Nat → Nat → Int32)))
  | 0 => fun _ _ _ _ _ => none
  | n + 1 => fX9_finds_7B B  (fX9_finds_7 B  n)
def fX9_finds (B : Nat → Nat → Int64) (I : Nat → Int32) (A : Nat → Nat → Int32) (x1 : Int32) (x2 : Int32) : Option ((Nat → Int32) × (Nat → Nat → Int32)) :=
  (fX9_finds_7 B  FU (upd I 30 (0 : Int32)) A x1 x2 (0 : Int32))
set_option maxRecDepth 100000 in
set_option maxHeartbeats 4000000 in
theorem mX9_finds (l : Launch) (dC : Nat → ClassId) (dI : Nat → Nat → Nat) (cI cB cJ : ClassId) (Q : Nat → Nat) (B : Nat → Nat → Int64) (I : Nat → Int32) (A : Nat → Nat → Int32) (x1 : Int32) (x2 : Int32) (sz : Nat) (z : (Nat → Int32) × (Nat → Nat → Int32)) (hf : fX9_finds B I A x1 x2 = some z) : Met l yX9_finds wsX9_finds ({ frames := 3, cells := 0, slots := 0, locals := 72 }) (va_Pc [.ref (Q 100), .int x1, .int x2] (fun U => U.heap.size = sz ∧ va_P (dC, dI) vwCl (wM cI cB cJ Q B I A) U.heap ∧ va_K (dC, dI) vwCl (tM cI cB cJ) U ∧ va_D (fun _ => True) (wM cI cB cJ Q B I A))) (va_Qv (fun (u : (Nat → Int32) × (Nat → Nat → Int32)) => u = z) (atM dC dI cI cB cJ Q B (va_A (wM cI cB cJ Q B I A) sz)) (va_A (wM cI cB cJ Q B I A) sz)) 0 0 (va_A (wM cI cB cJ Q B I A) sz) := by
  refine Met.ofW (cc := cX9_finds) (maxL := 10) (ret := none) (by decide) rfl ?_
  intro p e s m args below meth c s₁ BL hml hv
  obtain ⟨rfl, hsz, hP, hK, hD0⟩ := hv
  have hx := BL.exec
  have hb := BL.bytes
  have hr := BL.returns
  have hts := atoms_spec (ws := wsX9_finds) BL.pre
  have hown : s.vm.findClass RX9 = some m.cls := findClass_of_methodNamed BL.named
  have hlocks := BL.notSynchronized
  have hinX9 : ∀ w ∈ u_ws RX9 TX9 36, w ∈ wsX9_finds := by decide +kernel
  have hk175 := hts (.fieldLink RX9 175 "LeadSheetsModel" "names" "[I") (by decide +kernel)
  have hk325 := hts (.fieldLink RX9 325 "LeadSheetsModel" "nameMany" "I") (by decide +kernel)
  subst hsz
  have hD := hD0.self (sz := s.heap.size)
  generalize hAe : va_A (wM cI cB cJ Q B I A) s.heap.size = AA at hD ⊢
  have hA : ∀ q : Nat, s.heap.size ≤ q → AA q := fun q h => by rw [← hAe]; exact Or.inr h
  have hS : va_S AA s.heap s.heap [] := va_S.rf
  have sg146 : ∀ (k7 : (Nat → Int32) → (Nat → Nat → Int32) → Int32 → Int32 → Int32 → Option ((Nat → Int32) × (Nat → Nat → Int32))), (∀ (I : Nat → Int32) (A : Nat → Nat → Int32) (v1 : Int32) (v2 : Int32) (v3 : Int32) (H : Heap) (locs : List Loc) (ls : Array Slot), k7 I A v1 v2 v3 = some z → va_P (dC, dI) vwCl (wM cI cB cJ Q B I A) H → va_D AA (wM cI cB cJ Q B I A) → va_S AA s.heap H locs → lv_has ls 10 [(0, .ref (Q 100)), (1, .int v1), (2, .int v2), (3, .int v3)] → W p l e (headSpec wsX9_finds ({ frames := 3, cells := 0, slots := 0, locals := 72 })).room s m (([.ref (Q 100), .int x1, .int x2] : List Value).toArray) below meth c H locs 0 0 (MQ below (va_Qv (fun (u : (Nat → Int32) × (Nat → Nat → Int32)) => u = z) (atM dC dI cI cB cJ Q B AA) AA) (([.ref (Q 100), .int x1, .int x2] : List Value).toArray) s 0 0 AA) (F0 m 7 ls [])) → ∀ (k24 : (Nat → Int32) → (Nat → Nat → Int32) → Int32 → Int32 → Int32 → Int32 → Int32 → Option ((Nat → Int32) × (Nat → Nat → Int32))), (∀ (I : Nat → Int32) (A : Nat → Nat → Int32) (v1 : Int32) (v2 : Int32) (v3 : Int32) (v4 : Int32) (v5 : Int32) (H : Heap) (locs : List Loc) (ls : Array Slot), k24 I A v1 v2 v3 v4 v5 = some z → va_P (dC, dI) vwCl (wM cI cB cJ Q B I A) H → va_D AA (wM cI cB cJ Q B I A) → va_S AA s.heap H locs → lv_has ls 10 [(0, .ref (Q 100)), (1, .int v1), (2, .int v2), (3, .int v3), (4, .int v4), (5, .int v5)] → W p l e (headSpec wsX9_finds ({ frames := 3, cells := 0, slots := 0, locals := 72 })).room s m (([.ref (Q 100), .int x1, .int x2] : List Value).toArray) below meth c H locs 0 0 (MQ below (va_Qv (fun (u : (Nat → Int32) × (Nat → Nat → Int32)) => u = z) (atM dC dI cI cB cJ Q B AA) AA) (([.ref (Q 100), .int x1, .int x2] : List Value).toArray) s 0 0 AA) (F0 m 24 ls [])) → ∀ (I : Nat → Int32) (A : Nat → Nat → Int32) (v1 : Int32) (v2 : Int32) (v3 : Int32) (v4 : Int32) (v5 : Int32) (v7 : Int32) (v9 : Int32) (t0 : Int32) (t1 : Int32) (H : Heap) (locs : List Loc) (ls : Array Slot), fX9_finds_146 B k7 k24 I A v1 v2 v3 v4 v5 v7 v9 t0 t1 = some z → va_P (dC, dI) vwCl (wM cI cB cJ Q B I A) H → va_D AA (wM cI cB cJ Q B I A) → va_S AA s.heap H locs → lv_has ls 10 [(0, .ref (Q 100)), (1, .int v1), (2, .int v2), (3, .int v3), (4, .int v4), (5, .int v5), (7, .int v7), (9, .int v9)] → W p l e (headSpec wsX9_finds ({ frames := 3, cells := 0, slots := 0, locals := 72 })).room s m (([.ref (Q 100), .int x1, .int x2] : List Value).toArray) below meth c H locs 0 0 (MQ below (va_Qv (fun (u : (Nat → Int32) × (Nat → Nat → Int32)) => u = z) (atM dC dI cI cB cJ Q B AA) AA) (([.ref (Q 100), .int x1, .int x2] : List Value).toArray) s 0 0 AA) (F0 m 146 ls [.int t0, .int t1, .ref (Q 29)]) := by
    intro k7 ih7 k24 ih24
    intro I A v1 v2 v3 v4 v5 v7 v9 t0 t1 H locs ls hf hP hD hS hl
    unfold fX9_finds_146 at hf
    obtain ⟨g20, hf⟩ := of_ite_some hf
    refine va_iast hx hb hK hP hD hS 20 0 (n := 2400) (f := (A 29)) rfl rfl g20 dX9_finds_146 (fun H locs hP hD hS => ?_)
    have hP : va_P (dC, dI) vwCl (wM cI cB cJ Q B I (va_up A 29 (upd (A 29) t1.toNatClampNeg t0))) H := Eq.mp (congrArg (fun w => va_P (dC, dI) vwCl w H) (wMA_29 cI cB cJ Q B I A (upd (A 29) t1.toNatClampNeg t0))) hP
    have hD : va_D AA (wM cI cB cJ Q B I (va_up A 29 (upd (A 29) t1.toNatClampNeg t0))) := Eq.mp (congrArg (fun w => va_D AA w) (wMA_29 cI cB cJ Q B I A (upd (A 29) t1.toNatClampNeg t0))) hD
    refine lv_aload_n hx hb dX9_finds_147 rfl (lv_at hl 0 rfl) ?_
    refine va_get (D := (dC, dI)) (ci := 6) (v := .ref (Q 29)) (C := RX9) (T := TX9) (N := 36) hx hb hts hinX9 hown hK hP 0 rfl rfl 29 (by decide) hk175 (fun _ h9 => h9) rfl dX9_finds_148 ?_
    refine lv_iload hx hb dX9_finds_151 (lv_at hl 6 rfl) ?_
    refine lv_iconst (v := (4 : Int32)) hx hb dX9_finds_153 (by decide) ?_
    refine lv_iadd hx hb dX9_finds_154 ?_
    refine lv_iload hx hb dX9_finds_155 (lv_at hl 7 rfl) ?_
    obtain ⟨g21, hf⟩ := of_ite_some hf
    refine va_iast hx hb hK hP hD hS 20 0 (n := 2400) (f := (upd (A 29) t1.toNatClampNeg t0)) rfl rfl g21 dX9_finds_157 (fun H locs hP hD hS => ?_)
    have hP : va_P (dC, dI) vwCl (wM cI cB cJ Q B I (va_up A 29 (upd (upd (A 29) t1.toNatClampNeg t0) (v7 + (4 : Int32)).toNatClampNeg v9))) H := Eq.mp (congrArg (fun w => va_P (dC, dI) vwCl w H) (wMA_29c cI cB cJ Q B I A (upd (A 29) t1.toNatClampNeg t0) (upd (upd (A 29) t1.toNatClampNeg t0) (v7 + (4 : Int32)).toNatClampNeg v9))) hP
    have hD : va_D AA (wM cI cB cJ Q B I (va_up A 29 (upd (upd (A 29) t1.toNatClampNeg t0) (v7 + (4 : Int32)).toNatClampNeg v9))) := Eq.mp (congrArg (fun w => va_D AA w) (wMA_29c cI cB cJ Q B I A (upd (A 29) t1.toNatClampNeg t0) (upd (upd (A 29) t1.toNatClampNeg t0) (v7 + (4 : Int32)).toNatClampNeg v9))) hD
    refine lv_aload_n hx hb dX9_finds_158 rfl (lv_at hl 0 rfl) ?_
    refine lv_dup hx hb dX9_finds_159 rfl ?_
    refine va_get (D := (dC, dI)) (ci := 6) (v := .int (I 30)) (C := RX9) (T := TX9) (N := 36) hx hb hts hinX9 hown hK hP 0 rfl rfl 30 (by decide) hk325 (fun _ h9 => h9) rfl dX9_finds_160 ?_
    refine lv_iconst (v := (1 : Int32)) hx hb dX9_finds_163 (by decide) ?_
    refine lv_iadd hx hb dX9_finds_164 ?_
    refine va_put (D := (dC, dI)) (ci := 6) (v := .int ((I 30) + (1 : Int32))) (ty := .int) (C := RX9) (T := TX9) (N := 36) hx hb hts hinX9 tyX9 tyX9_ok nmX9 hown hK hP hD hS 0 (fs := (oM Q I)) rfl rfl 30 (by decide) hk325 (fun _ h9 => h9) rfl (by decide +kernel) rfl rfl (Nat.le_of_ble_eq_true rfl) dX9_finds_165 (fun H locs hP hD hS => ?_)
    have hP : va_P (dC, dI) vwCl (wM cI cB cJ Q B (upd I 30 ((I 30) + (1 : Int32))) (va_up A 29 (upd (upd (A 29) t1.toNatClampNeg t0) (v7 + (4 : Int32)).toNatClampNeg v9))) H := Eq.mp (congrArg (fun w => va_P (dC, dI) vwCl w H) (wMI_30 cI cB cJ Q B I (va_up A 29 (upd (upd (A 29) t1.toNatClampNeg t0) (v7 + (4 : Int32)).toNatClampNeg v9)) ((I 30) + (1 : Int32)))) hP
    have hD : va_D AA (wM cI cB cJ Q B (upd I 30 ((I 30) + (1 : Int32))) (va_up A 29 (upd (upd (A 29) t1.toNatClampNeg t0) (v7 + (4 : Int32)).toNatClampNeg v9))) := Eq.mp (congrArg (fun w => va_D AA w) (wMI_30 cI cB cJ Q B I (va_up A 29 (upd (upd (A 29) t1.toNatClampNeg t0) (v7 + (4 : Int32)).toNatClampNeg v9)) ((I 30) + (1 : Int32)))) hD
    refine lv_iinc (v := (v5 + (1 : Int32))) (lv' := [(5, .int (v5 + (1 : Int32))), (0, .ref (Q 100)), (1, .int v1), (2, .int v2), (3, .int v3), (4, .int v4), (7, .int v7), (9, .int v9)]) hx hb dX9_finds_168 hl (k := 5) rfl rfl (by decide) rfl (fun ls hl => ?_)
    refine lv_goto (tgt := 24) hx hb dX9_finds_171 (by decide) ?_
    exact ih24 (upd I 30 ((I 30) + (1 : Int32))) (va_up A 29 (upd (upd (A 29) t1.toNatClampNeg t0) (v7 + (4 : Int32)).toNatClampNeg v9)) v1 v2 v3 v4 (v5 + (1 : Int32)) H locs ls hf hP hD hS (lv_sub hl [1, 2, 3, 4, 5, 0] rfl)
  have sg61 : ∀ (k7 : (Nat → Int32) → (Nat → Nat → Int32) → Int32 → Int32 → Int32 → Option ((Nat → Int32) × (Nat → Nat → Int32))), (∀ (I : Nat → Int32) (A : Nat → Nat → Int32) (v1 : Int32) (v2 : Int32) (v3 : Int32) (H : Heap) (locs : List Loc) (ls : Array Slot), k7 I A v1 v2 v3 = some z → va_P (dC, dI) vwCl (wM cI cB cJ Q B I A) H → va_D AA (wM cI cB cJ Q B I A) → va_S AA s.heap H locs → lv_has ls 10 [(0, .ref (Q 100)), (1, .int v1), (2, .int v2), (3, .int v3)] → W p l e (headSpec wsX9_finds ({ frames := 3, cells := 0, slots := 0, locals := 72 })).room s m (([.ref (Q 100), .int x1, .int x2] : List Value).toArray) below meth c H locs 0 0 (MQ below (va_Qv (fun (u : (Nat → Int32) × (Nat → Nat → Int32)) => u = z) (atM dC dI cI cB cJ Q B AA) AA) (([.ref (Q 100), .int x1, .int x2] : List Value).toArray) s 0 0 AA) (F0 m 7 ls [])) → ∀ (k24 : (Nat → Int32) → (Nat → Nat → Int32) → Int32 → Int32 → Int32 → Int32 → Int32 → Option ((Nat → Int32) × (Nat → Nat → Int32))), (∀ (I : Nat → Int32) (A : Nat → Nat → Int32) (v1 : Int32) (v2 : Int32) (v3 : Int32) (v4 : Int32) (v5 : Int32) (H : Heap) (locs : List Loc) (ls : Array Slot), k24 I A v1 v2 v3 v4 v5 = some z → va_P (dC, dI) vwCl (wM cI cB cJ Q B I A) H → va_D AA (wM cI cB cJ Q B I A) → va_S AA s.heap H locs → lv_has ls 10 [(0, .ref (Q 100)), (1, .int v1), (2, .int v2), (3, .int v3), (4, .int v4), (5, .int v5)] → W p l e (headSpec wsX9_finds ({ frames := 3, cells := 0, slots := 0, locals := 72 })).room s m (([.ref (Q 100), .int x1, .int x2] : List Value).toArray) below meth c H locs 0 0 (MQ below (va_Qv (fun (u : (Nat → Int32) × (Nat → Nat → Int32)) => u = z) (atM dC dI cI cB cJ Q B AA) AA) (([.ref (Q 100), .int x1, .int x2] : List Value).toArray) s 0 0 AA) (F0 m 24 ls [])) → ∀ (I : Nat → Int32) (A : Nat → Nat → Int32) (v1 : Int32) (v2 : Int32) (v3 : Int32) (v4 : Int32) (v5 : Int32) (H : Heap) (locs : List Loc) (ls : Array Slot), fX9_finds_61 B k7 k24 I A v1 v2 v3 v4 v5 = some z → va_P (dC, dI) vwCl (wM cI cB cJ Q B I A) H → va_D AA (wM cI cB cJ Q B I A) → va_S AA s.heap H locs → lv_has ls 10 [(0, .ref (Q 100)), (1, .int v1), (2, .int v2), (3, .int v3), (4, .int v4), (5, .int v5)] → W p l e (headSpec wsX9_finds ({ frames := 3, cells := 0, slots := 0, locals := 72 })).room s m (([.ref (Q 100), .int x1, .int x2] : List Value).toArray) below meth c H locs 0 0 (MQ below (va_Qv (fun (u : (Nat → Int32) × (Nat → Nat → Int32)) => u = z) (atM dC dI cI cB cJ Q B AA) AA) (([.ref (Q 100), .int x1, .int x2] : List Value).toArray) s 0 0 AA) (F0 m 61 ls []) := by
    intro k7 ih7 k24 ih24
    intro I A v1 v2 v3 v4 v5 H locs ls hf hP hD hS hl
    unfold fX9_finds_61 at hf
    refine lv_iconst (v := (5 : Int32)) hx hb dX9_finds_61 (by decide) ?_
    refine lv_aload_n hx hb dX9_finds_62 rfl (lv_at hl 0 rfl) ?_
    refine va_get (D := (dC, dI)) (ci := 6) (v := .int (I 30)) (C := RX9) (T := TX9) (N := 36) hx hb hts hinX9 hown hK hP 0 rfl rfl 30 (by decide) hk325 (fun _ h9 => h9) rfl dX9_finds_63 ?_
    refine lv_imul hx hb dX9_finds_66 ?_
    refine lv_istore (lv' := [(7, .int ((5 : Int32) * (I 30))), (0, .ref (Q 100)), (1, .int v1), (2, .int v2), (3, .int v3), (4, .int v4), (5, .int v5)]) hx hb dX9_finds_67 hl (by decide) rfl (fun ls hl => ?_)
    refine lv_aload_n hx hb dX9_finds_69 rfl (lv_at hl 1 rfl) ?_
    refine lv_iload hx hb dX9_finds_70 (lv_at hl 5 rfl) ?_
    refine lv_iload hx hb dX9_finds_72 (lv_at hl 6 rfl) ?_
    obtain ⟨r8, hc9, hf⟩ := of_bind_some hf
    refine W.callR (r := r8) (W.runV (As := [.int v4, .int v5]) (rest := []) ⟨hx, hb, hml, hown, hts⟩ (mX9_spelt l dC dI cI cB cJ Q B I A v4 v5 r8 hc9) (cwV 2 hts gX9_finds_X9_spelt rfl rfl rfl (by decide +kernel) ⟨Nat.le_of_ble_eq_true rfl, Nat.le_of_ble_eq_true rfl⟩) ⟨blindR, va_recv hK hP (ci := 6) (q0 := 0) rfl rfl, fun U hU hW => ⟨rfl, by rw [hU]; exact hP, va_K.moved hW.alike hK⟩⟩ rfl rfl hl.1 rfl (lv_room (Nat.le_of_ble_eq_true rfl)) dX9_finds_74 ⟨Nat.zero_le _, Nat.zero_le _⟩) ?_
    refine W.eq (g2 := F0 m 77 ls [.int r8]) rfl ?_
    refine lv_istore (lv' := [(8, .int r8), (7, .int ((5 : Int32) * (I 30))), (0, .ref (Q 100)), (1, .int v1), (2, .int v2), (3, .int v3), (4, .int v4), (5, .int v5)]) hx hb dX9_finds_77 hl (by decide) rfl (fun ls hl => ?_)
    refine lv_aload_n hx hb dX9_finds_79 rfl (lv_at hl 2 rfl) ?_
    refine lv_iload_n hx hb dX9_finds_80 rfl (lv_at hl 4 rfl) ?_
    refine lv_iconst (v := (0 : Int32)) hx hb dX9_finds_81 (by decide) ?_
    obtain ⟨r10, hc11, hf⟩ := of_bind_some hf
    refine W.callR (r := r10) (W.runV (As := [.int v2, .int (0 : Int32)]) (rest := []) ⟨hx, hb, hml, hown, hts⟩ (mX9_spelt l dC dI cI cB cJ Q B I A v2 (0 : Int32) r10 hc11) (cwV 2 hts gX9_finds_X9_spelt rfl rfl rfl (by decide +kernel) ⟨Nat.le_of_ble_eq_true rfl, Nat.le_of_ble_eq_true rfl⟩) ⟨blindR, va_recv hK hP (ci := 6) (q0 := 0) rfl rfl, fun U hU hW => ⟨rfl, by rw [hU]; exact hP, va_K.moved hW.alike hK⟩⟩ rfl rfl hl.1 rfl (lv_room (Nat.le_of_ble_eq_true rfl)) dX9_finds_82 ⟨Nat.zero_le _, Nat.zero_le _⟩) ?_
    refine W.eq (g2 := F0 m 85 ls [.int r10]) rfl ?_
    refine lv_istore (lv' := [(9, .int r10), (8, .int r8), (7, .int ((5 : Int32) * (I 30))), (0, .ref (Q 100)), (1, .int v1), (2, .int v2), (3, .int v3), (4, .int v4), (5, .int v5)]) hx hb dX9_finds_85 hl (by decide) rfl (fun ls hl => ?_)
    refine lv_aload_n hx hb dX9_finds_87 rfl (lv_at hl 3 rfl) ?_
    refine va_get (D := (dC, dI)) (ci := 6) (v := .ref (Q 29)) (C := RX9) (T := TX9) (N := 36) hx hb hts hinX9 hown hK hP 0 rfl rfl 29 (by decide) hk175 (fun _ h9 => h9) rfl dX9_finds_88 ?_
    refine lv_iload hx hb dX9_finds_91 (lv_at hl 2 rfl) ?_
    refine lv_iload hx hb dX9_finds_93 (lv_at hl 7 rfl) ?_
    refine lv_iload hx hb dX9_finds_95 (lv_at hl 1 rfl) ?_
    obtain ⟨r12, hc13, hf⟩ := of_bind_some hf
    refine W.callR (r := r12) (W.runS (As := [.int v4, .int r8]) (rest := [.int ((5 : Int32) * (I 30)), .ref (Q 29)]) ⟨hx, hb, hml, hown, hts⟩ (mX9_letterOf l v4 r8 r12 hc13) (va_cwS 2 hts gX9_finds_X9_letterOf rfl rfl rfl (by decide +kernel) ⟨Nat.le_of_ble_eq_true rfl, Nat.le_of_ble_eq_true rfl⟩) ⟨fun _ _ _ _ q => q, fun U hU hW => ⟨rfl, trivial⟩⟩ rfl rfl hl.1 rfl (lv_room (Nat.le_of_ble_eq_true rfl)) dX9_finds_97 ⟨Nat.zero_le _, Nat.zero_le _⟩) ?_
    refine W.eq (g2 := F0 m 100 ls [.int r12, .int ((5 : Int32) * (I 30)), .ref (Q 29)]) rfl ?_
    obtain ⟨g14, hf⟩ := of_ite_some hf
    refine va_iast hx hb hK hP hD hS 20 0 (n := 2400) (f := (A 29)) rfl rfl g14 dX9_finds_100 (fun H locs hP hD hS => ?_)
    have hP : va_P (dC, dI) vwCl (wM cI cB cJ Q B I (va_up A 29 (upd (A 29) ((5 : Int32) * (I 30)).toNatClampNeg r12))) H := Eq.mp (congrArg (fun w => va_P (dC, dI) vwCl w H) (wMA_29 cI cB cJ Q B I A (upd (A 29) ((5 : Int32) * (I 30)).toNatClampNeg r12))) hP
    have hD : va_D AA (wM cI cB cJ Q B I (va_up A 29 (upd (A 29) ((5 : Int32) * (I 30)).toNatClampNeg r12))) := Eq.mp (congrArg (fun w => va_D AA w) (wMA_29 cI cB cJ Q B I A (upd (A 29) ((5 : Int32) * (I 30)).toNatClampNeg r12))) hD
    refine lv_aload_n hx hb dX9_finds_101 rfl (lv_at hl 3 rfl) ?_
    refine va_get (D := (dC, dI)) (ci := 6) (v := .ref (Q 29)) (C := RX9) (T := TX9) (N := 36) hx hb hts hinX9 hown hK hP 0 rfl rfl 29 (by decide) hk175 (fun _ h9 => h9) rfl dX9_finds_102 ?_
    refine lv_iload hx hb dX9_finds_105 (lv_at hl 2 rfl) ?_
    refine lv_iconst (v := (1 : Int32)) hx hb dX9_finds_107 (by decide) ?_
    refine lv_iadd hx hb dX9_finds_108 ?_
    refine lv_iload hx hb dX9_finds_109 (lv_at hl 1 rfl) ?_
    obtain ⟨g15, hf⟩ := of_ite_some hf
    refine va_iast hx hb hK hP hD hS 20 0 (n := 2400) (f := (upd (A 29) ((5 : Int32) * (I 30)).toNatClampNeg r12)) rfl rfl g15 dX9_finds_111 (fun H locs hP hD hS => ?_)
    have hP : va_P (dC, dI) vwCl (wM cI cB cJ Q B I (va_up A 29 (upd (upd (A 29) ((5 : Int32) * (I 30)).toNatClampNeg r12) (((5 : Int32) * (I 30)) + (1 : Int32)).toNatClampNeg r8))) H := Eq.mp (congrArg (fun w => va_P (dC, dI) vwCl w H) (wMA_29c cI cB cJ Q B I A (upd (A 29) ((5 : Int32) * (I 30)).toNatClampNeg r12) (upd (upd (A 29) ((5 : Int32) * (I 30)).toNatClampNeg r12) (((5 : Int32) * (I 30)) + (1 : Int32)).toNatClampNeg r8))) hP
    have hD : va_D AA (wM cI cB cJ Q B I (va_up A 29 (upd (upd (A 29) ((5 : Int32) * (I 30)).toNatClampNeg r12) (((5 : Int32) * (I 30)) + (1 : Int32)).toNatClampNeg r8))) := Eq.mp (congrArg (fun w => va_D AA w) (wMA_29c cI cB cJ Q B I A (upd (A 29) ((5 : Int32) * (I 30)).toNatClampNeg r12) (upd (upd (A 29) ((5 : Int32) * (I 30)).toNatClampNeg r12) (((5 : Int32) * (I 30)) + (1 : Int32)).toNatClampNeg r8))) hD
    refine lv_aload_n hx hb dX9_finds_112 rfl (lv_at hl 3 rfl) ?_
    refine va_get (D := (dC, dI)) (ci := 6) (v := .ref (Q 29)) (C := RX9) (T := TX9) (N := 36) hx hb hts hinX9 hown hK hP 0 rfl rfl 29 (by decide) hk175 (fun _ h9 => h9) rfl dX9_finds_113 ?_
    refine lv_iload hx hb dX9_finds_116 (lv_at hl 2 rfl) ?_
    refine lv_iconst (v := (2 : Int32)) hx hb dX9_finds_118 (by decide) ?_
    refine lv_iadd hx hb dX9_finds_119 ?_
    refine lv_iload hx hb dX9_finds_120 (lv_at hl 8 rfl) ?_
    obtain ⟨g16, hf⟩ := of_ite_some hf
    refine va_iast hx hb hK hP hD hS 20 0 (n := 2400) (f := (upd (upd (A 29) ((5 : Int32) * (I 30)).toNatClampNeg r12) (((5 : Int32) * (I 30)) + (1 : Int32)).toNatClampNeg r8)) rfl rfl g16 dX9_finds_122 (fun H locs hP hD hS => ?_)
    have hP : va_P (dC, dI) vwCl (wM cI cB cJ Q B I (va_up A 29 (upd (upd (upd (A 29) ((5 : Int32) * (I 30)).toNatClampNeg r12) (((5 : Int32) * (I 30)) + (1 : Int32)).toNatClampNeg r8) (((5 : Int32) * (I 30)) + (2 : Int32)).toNatClampNeg v5))) H := Eq.mp (congrArg (fun w => va_P (dC, dI) vwCl w H) (wMA_29c cI cB cJ Q B I A (upd (upd (A 29) ((5 : Int32) * (I 30)).toNatClampNeg r12) (((5 : Int32) * (I 30)) + (1 : Int32)).toNatClampNeg r8) (upd (upd (upd (A 29) ((5 : Int32) * (I 30)).toNatClampNeg r12) (((5 : Int32) * (I 30)) + (1 : Int32)).toNatClampNeg r8) (((5 : Int32) * (I 30)) + (2 : Int32)).toNatClampNeg v5))) hP
    have hD : va_D AA (wM cI cB cJ Q B I (va_up A 29 (upd (upd (upd (A 29) ((5 : Int32) * (I 30)).toNatClampNeg r12) (((5 : Int32) * (I 30)) + (1 : Int32)).toNatClampNeg r8) (((5 : Int32) * (I 30)) + (2 : Int32)).toNatClampNeg v5))) := Eq.mp (congrArg (fun w => va_D AA w) (wMA_29c cI cB cJ Q B I A (upd (upd (A 29) ((5 : Int32) * (I 30)).toNatClampNeg r12) (((5 : Int32) * (I 30)) + (1 : Int32)).toNatClampNeg r8) (upd (upd (upd (A 29) ((5 : Int32) * (I 30)).toNatClampNeg r12) (((5 : Int32) * (I 30)) + (1 : Int32)).toNatClampNeg r8) (((5 : Int32) * (I 30)) + (2 : Int32)).toNatClampNeg v5))) hD
    refine lv_aload_n hx hb dX9_finds_123 rfl (lv_at hl 3 rfl) ?_
    refine va_get (D := (dC, dI)) (ci := 6) (v := .ref (Q 29)) (C := RX9) (T := TX9) (N := 36) hx hb hts hinX9 hown hK hP 0 rfl rfl 29 (by decide) hk175 (fun _ h9 => h9) rfl dX9_finds_124 ?_
    refine lv_iload hx hb dX9_finds_127 (lv_at hl 2 rfl) ?_
    refine lv_iconst (v := (3 : Int32)) hx hb dX9_finds_129 (by decide) ?_
    refine lv_iadd hx hb dX9_finds_130 ?_
    refine lv_iload_n hx hb dX9_finds_131 rfl (lv_at hl 6 rfl) ?_
    refine lv_if_ne (tgt := 140) hx hb dX9_finds_132 (by decide) (fun c17 => ?_) (fun c17 => ?_)
    · have hf := (if_neg c17).symm.trans hf
      refine lv_iload_n hx hb dX9_finds_140 rfl (lv_at hl 5 rfl) ?_
      refine lv_iload hx hb dX9_finds_141 (lv_at hl 0 rfl) ?_
      obtain ⟨r18, hc19, hf⟩ := of_bind_some hf
      refine W.callR (r := r18) (W.runS (As := [.int v2, .int r10]) (rest := [.int (((5 : Int32) * (I 30)) + (3 : Int32)), .ref (Q 29)]) ⟨hx, hb, hml, hown, hts⟩ (mX9_letterOf l v2 r10 r18 hc19) (va_cwS 2 hts gX9_finds_X9_letterOf rfl rfl rfl (by decide +kernel) ⟨Nat.le_of_ble_eq_true rfl, Nat.le_of_ble_eq_true rfl⟩) ⟨fun _ _ _ _ q => q, fun U hU hW => ⟨rfl, trivial⟩⟩ rfl rfl hl.1 rfl (lv_room (Nat.le_of_ble_eq_true rfl)) dX9_finds_143 ⟨Nat.zero_le _, Nat.zero_le _⟩) ?_
      refine W.eq (g2 := F0 m 146 ls [.int r18, .int (((5 : Int32) * (I 30)) + (3 : Int32)), .ref (Q 29)]) rfl ?_
      exact sg146 _ ih7 _ ih24 I (va_up A 29 (upd (upd (upd (A 29) ((5 : Int32) * (I 30)).toNatClampNeg r12) (((5 : Int32) * (I 30)) + (1 : Int32)).toNatClampNeg r8) (((5 : Int32) * (I 30)) + (2 : Int32)).toNatClampNeg v5)) v1 v2 v3 v4 v5 ((5 : Int32) * (I 30)) r10 r18 (((5 : Int32) * (I 30)) + (3 : Int32)) H locs ls hf hP hD hS (lv_sub hl [3, 4, 5, 6, 7, 8, 2, 0] rfl)
    · have hf := (if_pos c17).symm.trans hf
      refine lv_bipush (v := (-2 : Int32)) hx hb dX9_finds_135 (by decide) ?_
      refine lv_goto (tgt := 146) hx hb dX9_finds_137 (by decide) ?_
      exact sg146 _ ih7 _ ih24 I (va_up A 29 (upd (upd (upd (A 29) ((5 : Int32) * (I 30)).toNatClampNeg r12) (((5 : Int32) * (I 30)) + (1 : Int32)).toNatClampNeg r8) (((5 : Int32) * (I 30)) + (2 : Int32)).toNatClampNeg v5)) v1 v2 v3 v4 v5 ((5 : Int32) * (I 30)) r10 (-2 : Int32) (((5 : Int32) * (I 30)) + (3 : Int32)) H locs ls hf hP hD hS (lv_sub hl [3, 4, 5, 6, 7, 8, 2, 0] rfl)
  have sg24 : ∀ (k7 : (Nat → Int32) → (Nat → Nat → Int32) → Int32 → Int32 → Int32 → Option ((Nat → Int32) × (Nat → Nat → Int32))), (∀ (I : Nat → Int32) (A : Nat → Nat → Int32) (v1 : Int32) (v2 : Int32) (v3 : Int32) (H : Heap) (locs : List Loc) (ls : Array Slot), k7 I A v1 v2 v3 = some z → va_P (dC, dI) vwCl (wM cI cB cJ Q B I A) H → va_D AA (wM cI cB cJ Q B I A) → va_S AA s.heap H locs → lv_has ls 10 [(0, .ref (Q 100)), (1, .int v1), (2, .int v2), (3, .int v3)] → W p l e (headSpec wsX9_finds ({ frames := 3, cells := 0, slots := 0, locals := 72 })).room s m (([.ref (Q 100), .int x1, .int x2] : List Value).toArray) below meth c H locs 0 0 (MQ below (va_Qv (fun (u : (Nat → Int32) × (Nat → Nat → Int32)) => u = z) (atM dC dI cI cB cJ Q B AA) AA) (([.ref (Q 100), .int x1, .int x2] : List Value).toArray) s 0 0 AA) (F0 m 7 ls [])) → ∀ n : Nat, ∀ (I : Nat → Int32) (A : Nat → Nat → Int32) (v1 : Int32) (v2 : Int32) (v3 : Int32) (v4 : Int32) (v5 : Int32) (H : Heap) (locs : List Loc) (ls : Array Slot), fX9_finds_24 B k7 n I A v1 v2 v3 v4 v5 = some z → va_P (dC, dI) vwCl (wM cI cB cJ Q B I A) H → va_D AA (wM cI cB cJ Q B I A) → va_S AA s.heap H locs → lv_has ls 10 [(0, .ref (Q 100)), (1, .int v1), (2, .int v2), (3, .int v3), (4, .int v4), (5, .int v5)] → W p l e (headSpec wsX9_finds ({ frames := 3, cells := 0, slots := 0, locals := 72 })).room s m (([.ref (Q 100), .int x1, .int x2] : List Value).toArray) below meth c H locs 0 0 (MQ below (va_Qv (fun (u : (Nat → Int32) × (Nat → Nat → Int32)) => u = z) (atM dC dI cI cB cJ Q B AA) AA) (([.ref (Q 100), .int x1, .int x2] : List Value).toArray) s 0 0 AA) (F0 m 24 ls []) := by
    intro k7 ih7
    intro n
    induction n with
    | zero => intro I A v1 v2 v3 v4 v5 H locs ls hf hP hD hS hl; exact of_none hf
    | succ n ih24 =>
      intro I A v1 v2 v3 v4 v5 H locs ls hf hP hD hS hl
      change fX9_finds_24B B k7 (fX9_finds_24 B k7 n) I A v1 v2 v3 v4 v5 = _ at hf
      unfold fX9_finds_24B at hf
      refine lv_iload hx hb dX9_finds_24 (lv_at hl 5 rfl) ?_
      refine lv_bipush (v := (20 : Int32)) hx hb dX9_finds_26 (by decide) ?_
      refine lv_icmp_ge (tgt := 174) hx hb dX9_finds_28 (by decide) (fun c2 => ?_) (fun c2 => ?_)
      · have hf := (if_pos c2).symm.trans hf
        refine lv_iinc (v := (v3 + (1 : Int32))) (lv' := [(3, .int (v3 + (1 : Int32))), (0, .ref (Q 100)), (1, .int v1), (2, .int v2), (4, .int v4), (5, .int v5)]) hx hb dX9_finds_174 hl (k := 3) rfl rfl (by decide) rfl (fun ls hl => ?_)
        refine lv_goto (tgt := 7) hx hb dX9_finds_177 (by decide) ?_
        exact ih7 I A v1 v2 (v3 + (1 : Int32)) H locs ls hf hP hD hS (lv_sub hl [1, 2, 3, 0] rfl)
      · have hf := (if_neg c2).symm.trans hf
        refine lv_aload_n hx hb dX9_finds_31 rfl (lv_at hl 0 rfl) ?_
        refine lv_iload hx hb dX9_finds_32 (lv_at hl 5 rfl) ?_
        refine lv_iload hx hb dX9_finds_34 (lv_at hl 4 rfl) ?_
        obtain ⟨r3, hc4, hf⟩ := of_bind_some hf
        refine W.callR (r := r3) (W.runV (As := [.int v5, .int v4]) (rest := []) ⟨hx, hb, hml, hown, hts⟩ (mX9_setOfBody l dC dI cI cB cJ Q B I A v5 v4 r3 hc4) (cwV 2 hts gX9_finds_X9_setOfBody rfl rfl rfl (by decide +kernel) ⟨Nat.le_of_ble_eq_true rfl, Nat.le_of_ble_eq_true rfl⟩) ⟨blindR, va_recv hK hP (ci := 6) (q0 := 0) rfl rfl, fun U hU hW => ⟨rfl, by rw [hU]; exact hP, va_K.moved hW.alike hK⟩⟩ rfl rfl hl.1 rfl (lv_room (Nat.le_of_ble_eq_true rfl)) dX9_finds_36 ⟨Nat.zero_le _, Nat.zero_le _⟩) ?_
        refine W.eq (g2 := F0 m 39 ls [.int r3]) rfl ?_
        refine lv_istore (lv' := [(6, .int r3), (0, .ref (Q 100)), (1, .int v1), (2, .int v2), (3, .int v3), (4, .int v4), (5, .int v5)]) hx hb dX9_finds_39 hl (by decide) rfl (fun ls hl => ?_)
        refine lv_iload hx hb dX9_finds_41 (lv_at hl 0 rfl) ?_
        refine lv_iload_n hx hb dX9_finds_43 rfl (lv_at hl 2 rfl) ?_
        refine lv_icmp_eq (tgt := 61) hx hb dX9_finds_44 (by decide) (fun c5 => ?_) (fun c5 => ?_)
        · have hf := (if_pos c5).symm.trans hf
          exact sg61 _ ih7 _ ih24 I A v1 v2 v3 v4 v5 H locs ls hf hP hD hS (lv_sub hl [1, 2, 3, 4, 5, 6] rfl)
        · have hf := (if_neg c5).symm.trans hf
          refine lv_iload_n hx hb dX9_finds_47 rfl (lv_at hl 4 rfl) ?_
          refine lv_if_le (tgt := 168) hx hb dX9_finds_48 (by decide) (fun c6 => ?_) (fun c6 => ?_)
          · have hf := (if_pos c6).symm.trans hf
            refine lv_iinc (v := (v5 + (1 : Int32))) (lv' := [(5, .int (v5 + (1 : Int32))), (6, .int r3), (0, .ref (Q 100)), (1, .int v1), (2, .int v2), (3, .int v3), (4, .int v4)]) hx hb dX9_finds_168 hl (k := 6) rfl rfl (by decide) rfl (fun ls hl => ?_)
            refine lv_goto (tgt := 24) hx hb dX9_finds_171 (by decide) ?_
            exact ih24 I A v1 v2 v3 v4 (v5 + (1 : Int32)) H locs ls hf hP hD hS (lv_sub hl [2, 3, 4, 5, 6, 0] rfl)
          · have hf := (if_neg c6).symm.trans hf
            refine lv_iload hx hb dX9_finds_51 (lv_at hl 0 rfl) ?_
            refine lv_iconst (v := (1 : Int32)) hx hb dX9_finds_53 (by decide) ?_
            refine lv_iload_n hx hb dX9_finds_54 rfl (lv_at hl 3 rfl) ?_
            refine lv_ishl hx hb dX9_finds_55 ?_
            refine lv_ior hx hb dX9_finds_56 ?_
            refine lv_iload_n hx hb dX9_finds_57 rfl (lv_at hl 2 rfl) ?_
            refine lv_icmp_ne (tgt := 168) hx hb dX9_finds_58 (by decide) (fun c7 => ?_) (fun c7 => ?_)
            · have hf := (if_neg c7).symm.trans hf
              refine lv_iinc (v := (v5 + (1 : Int32))) (lv' := [(5, .int (v5 + (1 : Int32))), (6, .int r3), (0, .ref (Q 100)), (1, .int v1), (2, .int v2), (3, .int v3), (4, .int v4)]) hx hb dX9_finds_168 hl (k := 6) rfl rfl (by decide) rfl (fun ls hl => ?_)
              refine lv_goto (tgt := 24) hx hb dX9_finds_171 (by decide) ?_
              exact ih24 I A v1 v2 v3 v4 (v5 + (1 : Int32)) H locs ls hf hP hD hS (lv_sub hl [2, 3, 4, 5, 6, 0] rfl)
            · have hf := (if_pos c7).symm.trans hf
              exact sg61 _ ih7 _ ih24 I A v1 v2 v3 v4 v5 H locs ls hf hP hD hS (lv_sub hl [1, 2, 3, 4, 5, 6] rfl)
  have sg7 : ∀ n : Nat, ∀ (I : Nat → Int32) (A : Nat → Nat → Int32) (v1 : Int32) (v2 : Int32) (v3 : Int32) (H : Heap) (locs : List Loc) (ls : Array Slot), fX9_finds_7 B  n I A v1 v2 v3 = some z → va_P (dC, dI) vwCl (wM cI cB cJ Q B I A) H → va_D AA (wM cI cB cJ Q B I A) → va_S AA s.heap H locs → lv_has ls 10 [(0, .ref (Q 100)), (1, .int v1), (2, .int v2), (3, .int v3)] → W p l e (headSpec wsX9_finds ({ frames := 3, cells := 0, slots := 0, locals := 72 })).room s m (([.ref (Q 100), .int x1, .int x2] : List Value).toArray) below meth c H locs 0 0 (MQ below (va_Qv (fun (u : (Nat → Int32) × (Nat → Nat → Int32)) => u = z) (atM dC dI cI cB cJ Q B AA) AA) (([.ref (Q 100), .int x1, .int x2] : List Value).toArray) s 0 0 AA) (F0 m 7 ls []) := by
    intro n
    induction n with
    | zero => intro I A v1 v2 v3 H locs ls hf hP hD hS hl; exact of_none hf
    | succ n ih7 =>
      intro I A v1 v2 v3 H locs ls hf hP hD hS hl
      change fX9_finds_7B B  (fX9_finds_7 B  n) I A v1 v2 v3 = _ at hf
      unfold fX9_finds_7B at hf
      refine lv_iload_n hx hb dX9_finds_7 rfl (lv_at hl 3 rfl) ?_
      refine lv_bipush (v := (12 : Int32)) hx hb dX9_finds_8 (by decide) ?_
      refine lv_icmp_ge (tgt := 180) hx hb dX9_finds_10 (by decide) (fun c1 => ?_) (fun c1 => ?_)
      · have hf := (if_pos c1).symm.trans hf
        exact W.vret hx hb hr (fun t ht hW => ⟨⟨(I, A), rfl, Option.some.inj hf, by rw [ht]; exact hP, va_K.moved hW.alike hK, hD⟩, hS.F ht⟩) hS.2.2 dX9_finds_180
      · have hf := (if_neg c1).symm.trans hf
        refine lv_iload_n hx hb dX9_finds_13 rfl (lv_at hl 2 rfl) ?_
        refine lv_iload_n hx hb dX9_finds_14 rfl (lv_at hl 3 rfl) ?_
        refine lv_iadd hx hb dX9_finds_15 ?_
        refine lv_bipush (v := (12 : Int32)) hx hb dX9_finds_16 (by decide) ?_
        refine lv_irem hx hb dX9_finds_18 (by decide) ?_
        refine W.eq (g2 := F0 m 19 ls [.int (jrem (v2 + v3) (12 : Int32))]) rfl ?_
        refine lv_istore (lv' := [(4, .int (jrem (v2 + v3) (12 : Int32))), (0, .ref (Q 100)), (1, .int v1), (2, .int v2), (3, .int v3)]) hx hb dX9_finds_19 hl (by decide) rfl (fun ls hl => ?_)
        refine lv_iconst (v := (0 : Int32)) hx hb dX9_finds_21 (by decide) ?_
        refine lv_istore (lv' := [(5, .int (0 : Int32)), (4, .int (jrem (v2 + v3) (12 : Int32))), (0, .ref (Q 100)), (1, .int v1), (2, .int v2), (3, .int v3)]) hx hb dX9_finds_22 hl (by decide) rfl (fun ls hl => ?_)
        exact sg24 _ ih7 FU I A v1 v2 v3 (jrem (v2 + v3) (12 : Int32)) (0 : Int32) H locs ls hf hP hD hS (lv_sub hl [2, 3, 4, 5, 1, 0] rfl)
  have hl := lv_entry ([.ref (Q 100), .int x1, .int x2]) (n := 10) (Nat.le_of_ble_eq_true rfl)
  rw [lg_entry_eq]
  generalize (lg_sl ([.ref (Q 100), .int x1, .int x2]) ++ List.replicate (10 - (lg_sl ([.ref (Q 100), .int x1, .int x2])).length) Slot.unset).toArray = ls at hl ⊢
  have hl : lv_has ls 10 [(0, .ref (Q 100)), (1, .int x1), (2, .int x2)] := hl
  unfold fX9_finds at hf
  refine lv_aload_n hx hb dX9_finds_0 rfl (lv_at hl 0 rfl) ?_
  refine lv_iconst (v := (0 : Int32)) hx hb dX9_finds_1 (by decide) ?_
  refine va_put (D := (dC, dI)) (ci := 6) (v := .int (0 : Int32)) (ty := .int) (C := RX9) (T := TX9) (N := 36) hx hb hts hinX9 tyX9 tyX9_ok nmX9 hown hK hP hD hS 0 (fs := (oM Q I)) rfl rfl 30 (by decide) hk325 (fun _ h9 => h9) rfl (by decide +kernel) rfl rfl (Nat.le_of_ble_eq_true rfl) dX9_finds_2 (fun H locs hP hD hS => ?_)
  have hP : va_P (dC, dI) vwCl (wM cI cB cJ Q B (upd I 30 (0 : Int32)) A) H := Eq.mp (congrArg (fun w => va_P (dC, dI) vwCl w H) (wMI_30 cI cB cJ Q B I A (0 : Int32))) hP
  have hD : va_D AA (wM cI cB cJ Q B (upd I 30 (0 : Int32)) A) := Eq.mp (congrArg (fun w => va_D AA w) (wMI_30 cI cB cJ Q B I A (0 : Int32))) hD
  refine lv_iconst (v := (0 : Int32)) hx hb dX9_finds_5 (by decide) ?_
  refine lv_istore_n (lv' := [(3, .int (0 : Int32)), (0, .ref (Q 100)), (1, .int x1), (2, .int x2)]) hx hb dX9_finds_6 rfl hl (by decide) rfl (fun ls hl => ?_)
  exact sg7  FU (upd I 30 (0 : Int32)) A x1 x2 (0 : Int32) H locs ls hf hP hD hS (lv_sub hl [1, 2, 3, 0] rfl)
def fX9_named_39B (B : Nat → Nat → Int64)  (k39 : (Nat → Int32) → (Nat → Nat → Int32) → Int32 → Option (Int32 × (Nat → Int32) × (Nat → Nat → Int32))) (I : Nat → Int32) (A : Nat → Nat → Int32) (v3 : Int32) : Option (Int32 × (Nat → Int32) × (Nat → Nat → Int32)) :=
  (if ((5 : Int32) * (I 30)) ≤ v3 then (some ((I 30), ((upd I 10 (I 30)), A))) else (if gd v3 2400 then (if gd v3 2400 then (k39 I (va_up A 9 (upd (A 9) v3.toNatClampNeg ((A 29) v3.toNatClampNeg))) (v3 + (1 : Int32))) else none) else none))
def fX9_named_39 (B : Nat → Nat → Int64)  : Nat → ((Nat → Int32) → (Nat → Nat → Int32) → Int32 → Option (Int32 × (Nat → Int32) × (Nat → Nat → Int32)))
  | 0 => fun _ _ _ => none
  | n + 1 => fX9_named_39B B  (fX9_named_39 B  n)
def fX9_named (B : Nat → Nat → Int64) (I : Nat → Int32) (A : Nat → Nat → Int32) (x1 : Int32) (x2 : Int32) : Option (Int32 × (Nat → Int32) × (Nat → Nat → Int32)) :=
  (if (fX9_isIn x1 (1 : Int32) (4095 : Int32)) = 0 then (some ((-1 : Int32), (I, A))) else (if (fX9_isIn x2 (0 : Int32) (11 : Int32)) = 0 then (some ((-1 : Int32), (I, A))) else (if ((x1 >>> (x2 &&& 31)) &&& (1 : Int32)) = 0 then (some ((-1 : Int32), (I, A))) else ((fX9_finds B I A x1 x2).bind fun (I5, A6) => (fX9_named_39 B  FU I5 A6 (0 : Int32))))))
set_option maxRecDepth 100000 in
set_option maxHeartbeats 4000000 in
theorem mX9_named (l : Launch) (dC : Nat → ClassId) (dI : Nat → Nat → Nat) (cI cB cJ : ClassId) (Q : Nat → Nat) (B : Nat → Nat → Int64) (I : Nat → Int32) (A : Nat → Nat → Int32) (x1 : Int32) (x2 : Int32) (sz : Nat) (z : Int32 × (Nat → Int32) × (Nat → Nat → Int32)) (hf : fX9_named B I A x1 x2 = some z) : Met l yX9_named wsX9_named ({ frames := 4, cells := 0, slots := 0, locals := 101 }) (va_Pc [.ref (Q 100), .int x1, .int x2] (fun U => U.heap.size = sz ∧ va_P (dC, dI) vwCl (wM cI cB cJ Q B I A) U.heap ∧ va_K (dC, dI) vwCl (tM cI cB cJ) U ∧ va_D (fun _ => True) (wM cI cB cJ Q B I A))) (va_Qi (fun (r : Int32) (u : (Nat → Int32) × (Nat → Nat → Int32)) => (r, u) = z) (atM dC dI cI cB cJ Q B (va_A (wM cI cB cJ Q B I A) sz)) (va_A (wM cI cB cJ Q B I A) sz)) 0 0 (va_A (wM cI cB cJ Q B I A) sz) := by
  refine Met.ofW (cc := cX9_named) (maxL := 4) (ret := (some .int)) (by decide) rfl ?_
  intro p e s m args below meth c s₁ BL hml hv
  obtain ⟨rfl, hsz, hP, hK, hD0⟩ := hv
  have hx := BL.exec
  have hb := BL.bytes
  have hr := BL.returns
  have hts := atoms_spec (ws := wsX9_named) BL.pre
  have hown : s.vm.findClass RX9 = some m.cls := findClass_of_methodNamed BL.named
  have hlocks := BL.notSynchronized
  have hinX9 : ∀ w ∈ u_ws RX9 TX9 36, w ∈ wsX9_named := by decide +kernel
  have hk29 := hts (.fieldLink RX9 29 "LeadSheetsModel" "found" "[I") (by decide +kernel)
  have hk175 := hts (.fieldLink RX9 175 "LeadSheetsModel" "names" "[I") (by decide +kernel)
  have hk325 := hts (.fieldLink RX9 325 "LeadSheetsModel" "nameMany" "I") (by decide +kernel)
  have hk337 := hts (.fieldLink RX9 337 "LeadSheetsModel" "foundMany" "I") (by decide +kernel)
  subst hsz
  have hD := hD0.self (sz := s.heap.size)
  generalize hAe : va_A (wM cI cB cJ Q B I A) s.heap.size = AA at hD ⊢
  have hA : ∀ q : Nat, s.heap.size ≤ q → AA q := fun q h => by rw [← hAe]; exact Or.inr h
  have hS : va_S AA s.heap s.heap [] := va_S.rf
  have sg39 : ∀ n : Nat, ∀ (I : Nat → Int32) (A : Nat → Nat → Int32) (v3 : Int32) (H : Heap) (locs : List Loc) (ls : Array Slot), fX9_named_39 B  n I A v3 = some z → va_P (dC, dI) vwCl (wM cI cB cJ Q B I A) H → va_D AA (wM cI cB cJ Q B I A) → va_S AA s.heap H locs → lv_has ls 4 [(0, .ref (Q 100)), (3, .int v3)] → W p l e (headSpec wsX9_named ({ frames := 4, cells := 0, slots := 0, locals := 101 })).room s m (([.ref (Q 100), .int x1, .int x2] : List Value).toArray) below meth c H locs 0 0 (MQ below (va_Qi (fun (r : Int32) (u : (Nat → Int32) × (Nat → Nat → Int32)) => (r, u) = z) (atM dC dI cI cB cJ Q B AA) AA) (([.ref (Q 100), .int x1, .int x2] : List Value).toArray) s 0 0 AA) (F0 m 39 ls []) := by
    intro n
    induction n with
    | zero => intro I A v3 H locs ls hf hP hD hS hl; exact of_none hf
    | succ n ih39 =>
      intro I A v3 H locs ls hf hP hD hS hl
      change fX9_named_39B B  (fX9_named_39 B  n) I A v3 = _ at hf
      unfold fX9_named_39B at hf
      refine lv_iload_n hx hb dX9_named_39 rfl (lv_at hl 1 rfl) ?_
      refine lv_iconst (v := (5 : Int32)) hx hb dX9_named_40 (by decide) ?_
      refine lv_aload_n hx hb dX9_named_41 rfl (lv_at hl 0 rfl) ?_
      refine va_get (D := (dC, dI)) (ci := 6) (v := .int (I 30)) (C := RX9) (T := TX9) (N := 36) hx hb hts hinX9 hown hK hP 0 rfl rfl 30 (by decide) hk325 (fun _ h9 => h9) rfl dX9_named_42 ?_
      refine lv_imul hx hb dX9_named_45 ?_
      refine lv_icmp_ge (tgt := 67) hx hb dX9_named_46 (by decide) (fun c8 => ?_) (fun c8 => ?_)
      · have hf := (if_pos c8).symm.trans hf
        refine lv_aload_n hx hb dX9_named_67 rfl (lv_at hl 0 rfl) ?_
        refine lv_aload_n hx hb dX9_named_68 rfl (lv_at hl 0 rfl) ?_
        refine va_get (D := (dC, dI)) (ci := 6) (v := .int (I 30)) (C := RX9) (T := TX9) (N := 36) hx hb hts hinX9 hown hK hP 0 rfl rfl 30 (by decide) hk325 (fun _ h9 => h9) rfl dX9_named_69 ?_
        refine va_put (D := (dC, dI)) (ci := 6) (v := .int (I 30)) (ty := .int) (C := RX9) (T := TX9) (N := 36) hx hb hts hinX9 tyX9 tyX9_ok nmX9 hown hK hP hD hS 0 (fs := (oM Q I)) rfl rfl 10 (by decide) hk337 (fun _ h9 => h9) rfl (by decide +kernel) rfl rfl (Nat.le_of_ble_eq_true rfl) dX9_named_72 (fun H locs hP hD hS => ?_)
        have hP : va_P (dC, dI) vwCl (wM cI cB cJ Q B (upd I 10 (I 30)) A) H := Eq.mp (congrArg (fun w => va_P (dC, dI) vwCl w H) (wMI_10 cI cB cJ Q B I A (I 30))) hP
        have hD : va_D AA (wM cI cB cJ Q B (upd I 10 (I 30)) A) := Eq.mp (congrArg (fun w => va_D AA w) (wMI_10 cI cB cJ Q B I A (I 30))) hD
        refine lv_aload_n hx hb dX9_named_75 rfl (lv_at hl 0 rfl) ?_
        refine va_get (D := (dC, dI)) (ci := 6) (v := .int (I 30)) (C := RX9) (T := TX9) (N := 36) hx hb hts hinX9 hown hK hP 0 rfl rfl 10 (by decide) hk337 (fun _ h9 => h9) rfl dX9_named_76 ?_
        exact W.iret (v := (I 30)) hx hb hr (fun t ht hW => ⟨⟨(I 30), ((upd I 10 (I 30)), A), rfl, Option.some.inj hf, by rw [ht]; exact hP, va_K.moved hW.alike hK, hD⟩, hS.F ht⟩) hS.2.2 dX9_named_79
      · have hf := (if_neg c8).symm.trans hf
        refine lv_aload_n hx hb dX9_named_49 rfl (lv_at hl 0 rfl) ?_
        refine va_get (D := (dC, dI)) (ci := 6) (v := .ref (Q 9)) (C := RX9) (T := TX9) (N := 36) hx hb hts hinX9 hown hK hP 0 rfl rfl 9 (by decide) hk29 (fun _ h9 => h9) rfl dX9_named_50 ?_
        refine lv_iload_n hx hb dX9_named_53 rfl (lv_at hl 1 rfl) ?_
        refine lv_aload_n hx hb dX9_named_54 rfl (lv_at hl 0 rfl) ?_
        refine va_get (D := (dC, dI)) (ci := 6) (v := .ref (Q 29)) (C := RX9) (T := TX9) (N := 36) hx hb hts hinX9 hown hK hP 0 rfl rfl 29 (by decide) hk175 (fun _ h9 => h9) rfl dX9_named_55 ?_
        refine lv_iload_n hx hb dX9_named_58 rfl (lv_at hl 1 rfl) ?_
        obtain ⟨g9, hf⟩ := of_ite_some hf
        refine va_iald hx hb hK hP 20 0 (n := 2400) (f := (A 29)) rfl rfl g9 dX9_named_59 ?_
        obtain ⟨g10, hf⟩ := of_ite_some hf
        refine va_iast hx hb hK hP hD hS 7 0 (n := 2400) (f := (A 9)) rfl rfl g10 dX9_named_60 (fun H locs hP hD hS => ?_)
        have hP : va_P (dC, dI) vwCl (wM cI cB cJ Q B I (va_up A 9 (upd (A 9) v3.toNatClampNeg ((A 29) v3.toNatClampNeg)))) H := Eq.mp (congrArg (fun w => va_P (dC, dI) vwCl w H) (wMA_9 cI cB cJ Q B I A (upd (A 9) v3.toNatClampNeg ((A 29) v3.toNatClampNeg)))) hP
        have hD : va_D AA (wM cI cB cJ Q B I (va_up A 9 (upd (A 9) v3.toNatClampNeg ((A 29) v3.toNatClampNeg)))) := Eq.mp (congrArg (fun w => va_D AA w) (wMA_9 cI cB cJ Q B I A (upd (A 9) v3.toNatClampNeg ((A 29) v3.toNatClampNeg)))) hD
        refine lv_iinc (v := (v3 + (1 : Int32))) (lv' := [(3, .int (v3 + (1 : Int32))), (0, .ref (Q 100))]) hx hb dX9_named_61 hl (k := 1) rfl rfl (by decide) rfl (fun ls hl => ?_)
        refine lv_goto (tgt := 39) hx hb dX9_named_64 (by decide) ?_
        exact ih39 I (va_up A 9 (upd (A 9) v3.toNatClampNeg ((A 29) v3.toNatClampNeg))) (v3 + (1 : Int32)) H locs ls hf hP hD hS (lv_sub hl [1, 0] rfl)
  have hl := lv_entry ([.ref (Q 100), .int x1, .int x2]) (n := 4) (Nat.le_of_ble_eq_true rfl)
  rw [lg_entry_eq]
  generalize (lg_sl ([.ref (Q 100), .int x1, .int x2]) ++ List.replicate (4 - (lg_sl ([.ref (Q 100), .int x1, .int x2])).length) Slot.unset).toArray = ls at hl ⊢
  have hl : lv_has ls 4 [(0, .ref (Q 100)), (1, .int x1), (2, .int x2)] := hl
  unfold fX9_named at hf
  refine lv_iload_n hx hb dX9_named_0 rfl (lv_at hl 1 rfl) ?_
  refine lv_iconst (v := (1 : Int32)) hx hb dX9_named_1 (by decide) ?_
  refine lv_sipush (v := (4095 : Int32)) hx hb dX9_named_2 (by decide) ?_
  refine W.callR (r := (fX9_isIn x1 (1 : Int32) (4095 : Int32))) (W.runS (As := [.int x1, .int (1 : Int32), .int (4095 : Int32)]) (rest := []) ⟨hx, hb, hml, hown, hts⟩ (mX9_isIn l x1 (1 : Int32) (4095 : Int32) (fX9_isIn x1 (1 : Int32) (4095 : Int32)) rfl) (va_cwS 3 hts gX9_named_X9_isIn rfl rfl rfl (by decide +kernel) ⟨Nat.le_of_ble_eq_true rfl, Nat.le_of_ble_eq_true rfl⟩) ⟨fun _ _ _ _ q => q, fun U hU hW => ⟨rfl, trivial⟩⟩ rfl rfl hl.1 rfl (lv_room (Nat.le_of_ble_eq_true rfl)) dX9_named_5 ⟨Nat.zero_le _, Nat.zero_le _⟩) ?_
  refine W.eq (g2 := F0 m 8 ls [.int (fX9_isIn x1 (1 : Int32) (4095 : Int32))]) rfl ?_
  refine lv_if_eq (tgt := 29) hx hb dX9_named_8 (by decide) (fun c1 => ?_) (fun c1 => ?_)
  · have hf := (if_pos c1).symm.trans hf
    refine lv_iconst (v := (-1 : Int32)) hx hb dX9_named_29 (by decide) ?_
    exact W.iret (v := (-1 : Int32)) hx hb hr (fun t ht hW => ⟨⟨(-1 : Int32), (I, A), rfl, Option.some.inj hf, by rw [ht]; exact hP, va_K.moved hW.alike hK, hD⟩, hS.F ht⟩) hS.2.2 dX9_named_30
  · have hf := (if_neg c1).symm.trans hf
    refine lv_iload_n hx hb dX9_named_11 rfl (lv_at hl 2 rfl) ?_
    refine lv_iconst (v := (0 : Int32)) hx hb dX9_named_12 (by decide) ?_
    refine lv_bipush (v := (11 : Int32)) hx hb dX9_named_13 (by decide) ?_
    refine W.callR (r := (fX9_isIn x2 (0 : Int32) (11 : Int32))) (W.runS (As := [.int x2, .int (0 : Int32), .int (11 : Int32)]) (rest := []) ⟨hx, hb, hml, hown, hts⟩ (mX9_isIn l x2 (0 : Int32) (11 : Int32) (fX9_isIn x2 (0 : Int32) (11 : Int32)) rfl) (va_cwS 3 hts gX9_named_X9_isIn rfl rfl rfl (by decide +kernel) ⟨Nat.le_of_ble_eq_true rfl, Nat.le_of_ble_eq_true rfl⟩) ⟨fun _ _ _ _ q => q, fun U hU hW => ⟨rfl, trivial⟩⟩ rfl rfl hl.1 rfl (lv_room (Nat.le_of_ble_eq_true rfl)) dX9_named_15 ⟨Nat.zero_le _, Nat.zero_le _⟩) ?_
    refine W.eq (g2 := F0 m 18 ls [.int (fX9_isIn x2 (0 : Int32) (11 : Int32))]) rfl ?_
    refine lv_if_eq (tgt := 29) hx hb dX9_named_18 (by decide) (fun c2 => ?_) (fun c2 => ?_)
    · have hf := (if_pos c2).symm.trans hf
      refine lv_iconst (v := (-1 : Int32)) hx hb dX9_named_29 (by decide) ?_
      exact W.iret (v := (-1 : Int32)) hx hb hr (fun t ht hW => ⟨⟨(-1 : Int32), (I, A), rfl, Option.some.inj hf, by rw [ht]; exact hP, va_K.moved hW.alike hK, hD⟩, hS.F ht⟩) hS.2.2 dX9_named_30
    · have hf := (if_neg c2).symm.trans hf
      refine lv_iload_n hx hb dX9_named_21 rfl (lv_at hl 1 rfl) ?_
      refine lv_iload_n hx hb dX9_named_22 rfl (lv_at hl 2 rfl) ?_
      refine lv_ishr hx hb dX9_named_23 ?_
      refine lv_iconst (v := (1 : Int32)) hx hb dX9_named_24 (by decide) ?_
      refine lv_iand hx hb dX9_named_25 ?_
      refine lv_if_ne (tgt := 31) hx hb dX9_named_26 (by decide) (fun c3 => ?_) (fun c3 => ?_)
      · have hf := (if_neg c3).symm.trans hf
        refine lv_aload_n hx hb dX9_named_31 rfl (lv_at hl 0 rfl) ?_
        refine lv_iload_n hx hb dX9_named_32 rfl (lv_at hl 1 rfl) ?_
        refine lv_iload_n hx hb dX9_named_33 rfl (lv_at hl 2 rfl) ?_
        obtain ⟨⟨I5, A6⟩, hc4, hf⟩ := of_bind_some hf
        have hF7 := va_freeAll hD hS hA
        refine va_callv (va_runV (As := [.int x1, .int x2]) (rest := []) ⟨hx, hb, hml, hown, hts⟩ (mX9_finds l dC dI cI cB cJ Q B I A x1 x2 s.heap.size _ hc4) (cwV 2 hts gX9_named_X9_finds rfl rfl rfl (by decide +kernel) ⟨Nat.le_of_ble_eq_true rfl, Nat.le_of_ble_eq_true rfl⟩) ⟨blindW, va_recv hK hP (ci := 6) (q0 := 0) rfl rfl, fun U hU hW => ⟨rfl, by rw [hU], by rw [hU]; exact hP, va_K.moved hW.alike hK, hD.weaken (fun _ _ _ _ => trivial)⟩⟩ rfl rfl hl.1 rfl (lv_room (Nat.le_of_ble_eq_true rfl)) dX9_named_34 ⟨Nat.zero_le _, Nat.zero_le _⟩) hS (fun q _ h => hF7 q h) hF7 (fun u t H locs ht hvm hw hB hz1 hk1 hS => ?_)
        cases hw
        obtain ⟨hP, hK9, hD⟩ := hB
        rw [ht] at hP
        have hP : va_P (dC, dI) vwCl (wM cI cB cJ Q B I5 A6) H := hP
        have hD : va_D AA (wM cI cB cJ Q B I5 A6) := hD.weaken (fun _ _ _ h => hF7 _ h)
        refine lv_iconst (v := (0 : Int32)) hx hb dX9_named_37 (by decide) ?_
        refine lv_istore_n (lv' := [(3, .int (0 : Int32)), (0, .ref (Q 100)), (1, .int x1), (2, .int x2)]) hx hb dX9_named_38 rfl hl (by decide) rfl (fun ls hl => ?_)
        exact sg39  FU I5 A6 (0 : Int32) H locs ls hf hP hD hS (lv_sub hl [1, 0] rfl)
      · have hf := (if_pos c3).symm.trans hf
        refine lv_iconst (v := (-1 : Int32)) hx hb dX9_named_29 (by decide) ?_
        exact W.iret (v := (-1 : Int32)) hx hb hr (fun t ht hW => ⟨⟨(-1 : Int32), (I, A), rfl, Option.some.inj hf, by rw [ht]; exact hP, va_K.moved hW.alike hK, hD⟩, hS.F ht⟩) hS.2.2 dX9_named_30
def fX9_showsName_vfound (B : Nat → Nat → Int64) (I : Nat → Int32) (A : Nat → Nat → Int32) (x2 : Int32) : Option ((Nat → Int32) × (Nat → Nat → Int32)) :=
  (if gd x2 2400 then (if gd (x2 + (1 : Int32)) 2400 then ((fX9_showsNote B (upd I 8 (0 : Int32)) A ((A 9) x2.toNatClampNeg) ((A 9) (x2 + (1 : Int32)).toNatClampNeg)).bind fun (I4, A5) => (if gd (x2 + (2 : Int32)) 2400 then (if gd ((A5 9) (x2 + (2 : Int32)).toNatClampNeg) 20 then ((fX9_showsWord B I4 A5 ((B 19) ((A5 9) (x2 + (2 : Int32)).toNatClampNeg).toNatClampNeg)).bind fun (I10, A11) => (if gd (x2 + (3 : Int32)) 2400 then (if ((A11 9) (x2 + (3 : Int32)).toNatClampNeg) = (-2 : Int32) then (some (I10, A11)) else ((fX9_shows B I10 A11 (47 : Int32)).bind fun (I16, A17) => (if gd (x2 + (3 : Int32)) 2400 then (if gd (x2 + (4 : Int32)) 2400 then ((fX9_showsNote B I16 A17 ((A17 9) (x2 + (3 : Int32)).toNatClampNeg) ((A17 9) (x2 + (4 : Int32)).toNatClampNeg)).bind fun (I22, A23) => (some (I22, A23))) else none) else none))) else none)) else none) else none)) else none) else none)
set_option maxRecDepth 100000 in
set_option maxHeartbeats 4000000 in
theorem mX9_showsName_vfound (l : Launch) (dC : Nat → ClassId) (dI : Nat → Nat → Nat) (cI cB cJ : ClassId) (Q : Nat → Nat) (B : Nat → Nat → Int64) (I : Nat → Int32) (A : Nat → Nat → Int32) (x2 : Int32) (sz : Nat) (z : (Nat → Int32) × (Nat → Nat → Int32)) (hf : fX9_showsName_vfound B I A x2 = some z) : Met l yX9_showsName wsX9_showsName ({ frames := 3, cells := 0, slots := 0, locals := 68 }) (va_Pc [.ref (Q 100), .ref (Q 9), .int x2] (fun U => U.heap.size = sz ∧ va_P (dC, dI) vwCl (wM cI cB cJ Q B I A) U.heap ∧ va_K (dC, dI) vwCl (tM cI cB cJ) U ∧ va_D (fun _ => True) (wM cI cB cJ Q B I A))) (va_Qv (fun (u : (Nat → Int32) × (Nat → Nat → Int32)) => u = z) (atM dC dI cI cB cJ Q B (va_A (wM cI cB cJ Q B I A) sz)) (va_A (wM cI cB cJ Q B I A) sz)) 0 0 (va_A (wM cI cB cJ Q B I A) sz) := by
  refine Met.ofW (cc := cX9_showsName) (maxL := 3) (ret := none) (by decide) rfl ?_
  intro p e s m args below meth c s₁ BL hml hv
  obtain ⟨rfl, hsz, hP, hK, hD0⟩ := hv
  have hx := BL.exec
  have hb := BL.bytes
  have hr := BL.returns
  have hts := atoms_spec (ws := wsX9_showsName) BL.pre
  have hown : s.vm.findClass RX9 = some m.cls := findClass_of_methodNamed BL.named
  have hlocks := BL.notSynchronized
  have hinX9 : ∀ w ∈ u_ws RX9 TX9 36, w ∈ wsX9_showsName := by decide +kernel
  have hk136 := hts (.fieldLink RX9 136 "LeadSheetsModel" "bodies" "[J") (by decide +kernel)
  have hk304 := hts (.fieldLink RX9 304 "LeadSheetsModel" "shownMany" "I") (by decide +kernel)
  subst hsz
  have hD := hD0.self (sz := s.heap.size)
  generalize hAe : va_A (wM cI cB cJ Q B I A) s.heap.size = AA at hD ⊢
  have hA : ∀ q : Nat, s.heap.size ≤ q → AA q := fun q h => by rw [← hAe]; exact Or.inr h
  have hS : va_S AA s.heap s.heap [] := va_S.rf
  have hl := lv_entry ([.ref (Q 100), .ref (Q 9), .int x2]) (n := 3) (Nat.le_of_ble_eq_true rfl)
  rw [lg_entry_eq]
  generalize (lg_sl ([.ref (Q 100), .ref (Q 9), .int x2]) ++ List.replicate (3 - (lg_sl ([.ref (Q 100), .ref (Q 9), .int x2])).length) Slot.unset).toArray = ls at hl ⊢
  have hl : lv_has ls 3 [(0, .ref (Q 100)), (1, .ref (Q 9)), (2, .int x2)] := hl
  unfold fX9_showsName_vfound at hf
  refine lv_aload_n hx hb dX9_showsName_0 rfl (lv_at hl 0 rfl) ?_
  refine lv_iconst (v := (0 : Int32)) hx hb dX9_showsName_1 (by decide) ?_
  refine va_put (D := (dC, dI)) (ci := 6) (v := .int (0 : Int32)) (ty := .int) (C := RX9) (T := TX9) (N := 36) hx hb hts hinX9 tyX9 tyX9_ok nmX9 hown hK hP hD hS 0 (fs := (oM Q I)) rfl rfl 8 (by decide) hk304 (fun _ h9 => h9) rfl (by decide +kernel) rfl rfl (Nat.le_of_ble_eq_true rfl) dX9_showsName_2 (fun H locs hP hD hS => ?_)
  have hP : va_P (dC, dI) vwCl (wM cI cB cJ Q B (upd I 8 (0 : Int32)) A) H := Eq.mp (congrArg (fun w => va_P (dC, dI) vwCl w H) (wMI_8 cI cB cJ Q B I A (0 : Int32))) hP
  have hD : va_D AA (wM cI cB cJ Q B (upd I 8 (0 : Int32)) A) := Eq.mp (congrArg (fun w => va_D AA w) (wMI_8 cI cB cJ Q B I A (0 : Int32))) hD
  refine lv_aload_n hx hb dX9_showsName_5 rfl (lv_at hl 0 rfl) ?_
  refine lv_aload_n hx hb dX9_showsName_6 rfl (lv_at hl 1 rfl) ?_
  refine lv_iload_n hx hb dX9_showsName_7 rfl (lv_at hl 2 rfl) ?_
  obtain ⟨g1, hf⟩ := of_ite_some hf
  refine va_iald hx hb hK hP 7 0 (n := 2400) (f := (A 9)) rfl rfl g1 dX9_showsName_8 ?_
  refine lv_aload_n hx hb dX9_showsName_9 rfl (lv_at hl 1 rfl) ?_
  refine lv_iload_n hx hb dX9_showsName_10 rfl (lv_at hl 2 rfl) ?_
  refine lv_iconst (v := (1 : Int32)) hx hb dX9_showsName_11 (by decide) ?_
  refine lv_iadd hx hb dX9_showsName_12 ?_
  obtain ⟨g2, hf⟩ := of_ite_some hf
  refine va_iald hx hb hK hP 7 0 (n := 2400) (f := (A 9)) rfl rfl g2 dX9_showsName_13 ?_
  obtain ⟨⟨I4, A5⟩, hc3, hf⟩ := of_bind_some hf
  have hF6 := va_freeAll hD hS hA
  refine va_callv (va_runV (As := [.int ((A 9) x2.toNatClampNeg), .int ((A 9) (x2 + (1 : Int32)).toNatClampNeg)]) (rest := []) ⟨hx, hb, hml, hown, hts⟩ (mX9_showsNote l dC dI cI cB cJ Q B (upd I 8 (0 : Int32)) A ((A 9) x2.toNatClampNeg) ((A 9) (x2 + (1 : Int32)).toNatClampNeg) H.size _ hc3) (cwV 2 hts gX9_showsName_X9_showsNote rfl rfl rfl (by decide +kernel) ⟨Nat.le_of_ble_eq_true rfl, Nat.le_of_ble_eq_true rfl⟩) ⟨blindW, va_recv hK hP (ci := 6) (q0 := 0) rfl rfl, fun U hU hW => ⟨rfl, by rw [hU], by rw [hU]; exact hP, va_K.moved hW.alike hK, hD.weaken (fun _ _ _ _ => trivial)⟩⟩ rfl rfl hl.1 rfl (lv_room (Nat.le_of_ble_eq_true rfl)) dX9_showsName_14 ⟨Nat.zero_le _, Nat.zero_le _⟩) hS (fun q _ h => hF6 q h) hF6 (fun u t H locs ht hvm hw hB hz1 hk1 hS => ?_)
  cases hw
  obtain ⟨hP, hK9, hD⟩ := hB
  rw [ht] at hP
  have hP : va_P (dC, dI) vwCl (wM cI cB cJ Q B I4 A5) H := hP
  have hD : va_D AA (wM cI cB cJ Q B I4 A5) := hD.weaken (fun _ _ _ h => hF6 _ h)
  refine lv_aload_n hx hb dX9_showsName_17 rfl (lv_at hl 0 rfl) ?_
  refine lv_aload_n hx hb dX9_showsName_18 rfl (lv_at hl 0 rfl) ?_
  refine va_get (D := (dC, dI)) (ci := 6) (v := .ref (Q 19)) (C := RX9) (T := TX9) (N := 36) hx hb hts hinX9 hown hK hP 0 rfl rfl 19 (by decide) hk136 (fun _ h9 => h9) rfl dX9_showsName_19 ?_
  refine lv_aload_n hx hb dX9_showsName_22 rfl (lv_at hl 1 rfl) ?_
  refine lv_iload_n hx hb dX9_showsName_23 rfl (lv_at hl 2 rfl) ?_
  refine lv_iconst (v := (2 : Int32)) hx hb dX9_showsName_24 (by decide) ?_
  refine lv_iadd hx hb dX9_showsName_25 ?_
  obtain ⟨g7, hf⟩ := of_ite_some hf
  refine va_iald hx hb hK hP 7 0 (n := 2400) (f := (A5 9)) rfl rfl g7 dX9_showsName_26 ?_
  obtain ⟨g8, hf⟩ := of_ite_some hf
  refine va_lald hx hb hK hP 15 2 (n := 20) (f := (B 19)) rfl rfl g8 dX9_showsName_27 ?_
  obtain ⟨⟨I10, A11⟩, hc9, hf⟩ := of_bind_some hf
  have hF12 := va_freeAll hD hS hA
  refine va_callv (va_runV (As := [.long ((B 19) ((A5 9) (x2 + (2 : Int32)).toNatClampNeg).toNatClampNeg)]) (rest := []) ⟨hx, hb, hml, hown, hts⟩ (mX9_showsWord l dC dI cI cB cJ Q B I4 A5 ((B 19) ((A5 9) (x2 + (2 : Int32)).toNatClampNeg).toNatClampNeg) H.size _ hc9) (cwV 1 hts gX9_showsName_X9_showsWord rfl rfl rfl (by decide +kernel) ⟨Nat.le_of_ble_eq_true rfl, Nat.le_of_ble_eq_true rfl⟩) ⟨blindW, va_recv hK hP (ci := 6) (q0 := 0) rfl rfl, fun U hU hW => ⟨rfl, by rw [hU], by rw [hU]; exact hP, va_K.moved hW.alike hK, hD.weaken (fun _ _ _ _ => trivial)⟩⟩ rfl rfl hl.1 rfl (lv_room (Nat.le_of_ble_eq_true rfl)) dX9_showsName_28 ⟨Nat.zero_le _, Nat.zero_le _⟩) hS (fun q _ h => hF12 q h) hF12 (fun u t H locs ht hvm hw hB hz1 hk1 hS => ?_)
  cases hw
  obtain ⟨hP, hK9, hD⟩ := hB
  rw [ht] at hP
  have hP : va_P (dC, dI) vwCl (wM cI cB cJ Q B I10 A11) H := hP
  have hD : va_D AA (wM cI cB cJ Q B I10 A11) := hD.weaken (fun _ _ _ h => hF12 _ h)
  refine lv_aload_n hx hb dX9_showsName_31 rfl (lv_at hl 1 rfl) ?_
  refine lv_iload_n hx hb dX9_showsName_32 rfl (lv_at hl 2 rfl) ?_
  refine lv_iconst (v := (3 : Int32)) hx hb dX9_showsName_33 (by decide) ?_
  refine lv_iadd hx hb dX9_showsName_34 ?_
  obtain ⟨g13, hf⟩ := of_ite_some hf
  refine va_iald hx hb hK hP 7 0 (n := 2400) (f := (A11 9)) rfl rfl g13 dX9_showsName_35 ?_
  refine lv_bipush (v := (-2 : Int32)) hx hb dX9_showsName_36 (by decide) ?_
  refine lv_icmp_eq (tgt := 61) hx hb dX9_showsName_38 (by decide) (fun c14 => ?_) (fun c14 => ?_)
  · have hf := (if_pos c14).symm.trans hf
    exact W.vret hx hb hr (fun t ht hW => ⟨⟨(I10, A11), rfl, Option.some.inj hf, by rw [ht]; exact hP, va_K.moved hW.alike hK, hD⟩, hS.F ht⟩) hS.2.2 dX9_showsName_61
  · have hf := (if_neg c14).symm.trans hf
    refine lv_aload_n hx hb dX9_showsName_41 rfl (lv_at hl 0 rfl) ?_
    refine lv_bipush (v := (47 : Int32)) hx hb dX9_showsName_42 (by decide) ?_
    obtain ⟨⟨I16, A17⟩, hc15, hf⟩ := of_bind_some hf
    have hF18 := va_freeAll hD hS hA
    refine va_callv (va_runV (As := [.int (47 : Int32)]) (rest := []) ⟨hx, hb, hml, hown, hts⟩ (mX9_shows l dC dI cI cB cJ Q B I10 A11 (47 : Int32) H.size _ hc15) (cwV 1 hts gX9_showsName_X9_shows rfl rfl rfl (by decide +kernel) ⟨Nat.le_of_ble_eq_true rfl, Nat.le_of_ble_eq_true rfl⟩) ⟨blindW, va_recv hK hP (ci := 6) (q0 := 0) rfl rfl, fun U hU hW => ⟨rfl, by rw [hU], by rw [hU]; exact hP, va_K.moved hW.alike hK, hD.weaken (fun _ _ _ _ => trivial)⟩⟩ rfl rfl hl.1 rfl (lv_room (Nat.le_of_ble_eq_true rfl)) dX9_showsName_44 ⟨Nat.zero_le _, Nat.zero_le _⟩) hS (fun q _ h => hF18 q h) hF18 (fun u t H locs ht hvm hw hB hz1 hk1 hS => ?_)
    cases hw
    obtain ⟨hP, hK9, hD⟩ := hB
    rw [ht] at hP
    have hP : va_P (dC, dI) vwCl (wM cI cB cJ Q B I16 A17) H := hP
    have hD : va_D AA (wM cI cB cJ Q B I16 A17) := hD.weaken (fun _ _ _ h => hF18 _ h)
    refine lv_aload_n hx hb dX9_showsName_47 rfl (lv_at hl 0 rfl) ?_
    refine lv_aload_n hx hb dX9_showsName_48 rfl (lv_at hl 1 rfl) ?_
    refine lv_iload_n hx hb dX9_showsName_49 rfl (lv_at hl 2 rfl) ?_
    refine lv_iconst (v := (3 : Int32)) hx hb dX9_showsName_50 (by decide) ?_
    refine lv_iadd hx hb dX9_showsName_51 ?_
    obtain ⟨g19, hf⟩ := of_ite_some hf
    refine va_iald hx hb hK hP 7 0 (n := 2400) (f := (A17 9)) rfl rfl g19 dX9_showsName_52 ?_
    refine lv_aload_n hx hb dX9_showsName_53 rfl (lv_at hl 1 rfl) ?_
    refine lv_iload_n hx hb dX9_showsName_54 rfl (lv_at hl 2 rfl) ?_
    refine lv_iconst (v := (4 : Int32)) hx hb dX9_showsName_55 (by decide) ?_
    refine lv_iadd hx hb dX9_showsName_56 ?_
    obtain ⟨g20, hf⟩ := of_ite_some hf
    refine va_iald hx hb hK hP 7 0 (n := 2400) (f := (A17 9)) rfl rfl g20 dX9_showsName_57 ?_
    obtain ⟨⟨I22, A23⟩, hc21, hf⟩ := of_bind_some hf
    have hF24 := va_freeAll hD hS hA
    refine va_callv (va_runV (As := [.int ((A17 9) (x2 + (3 : Int32)).toNatClampNeg), .int ((A17 9) (x2 + (4 : Int32)).toNatClampNeg)]) (rest := []) ⟨hx, hb, hml, hown, hts⟩ (mX9_showsNote l dC dI cI cB cJ Q B I16 A17 ((A17 9) (x2 + (3 : Int32)).toNatClampNeg) ((A17 9) (x2 + (4 : Int32)).toNatClampNeg) H.size _ hc21) (cwV 2 hts gX9_showsName_X9_showsNote rfl rfl rfl (by decide +kernel) ⟨Nat.le_of_ble_eq_true rfl, Nat.le_of_ble_eq_true rfl⟩) ⟨blindW, va_recv hK hP (ci := 6) (q0 := 0) rfl rfl, fun U hU hW => ⟨rfl, by rw [hU], by rw [hU]; exact hP, va_K.moved hW.alike hK, hD.weaken (fun _ _ _ _ => trivial)⟩⟩ rfl rfl hl.1 rfl (lv_room (Nat.le_of_ble_eq_true rfl)) dX9_showsName_58 ⟨Nat.zero_le _, Nat.zero_le _⟩) hS (fun q _ h => hF24 q h) hF24 (fun u t H locs ht hvm hw hB hz1 hk1 hS => ?_)
    cases hw
    obtain ⟨hP, hK9, hD⟩ := hB
    rw [ht] at hP
    have hP : va_P (dC, dI) vwCl (wM cI cB cJ Q B I22 A23) H := hP
    have hD : va_D AA (wM cI cB cJ Q B I22 A23) := hD.weaken (fun _ _ _ h => hF24 _ h)
    exact W.vret hx hb hr (fun t ht hW => ⟨⟨(I22, A23), rfl, Option.some.inj hf, by rw [ht]; exact hP, va_K.moved hW.alike hK, hD⟩, hS.F ht⟩) hS.2.2 dX9_showsName_61
def fX9_showsName_vnames (B : Nat → Nat → Int64) (I : Nat → Int32) (A : Nat → Nat → Int32) (x2 : Int32) : Option ((Nat → Int32) × (Nat → Nat → Int32)) :=
  (if gd x2 2400 then (if gd (x2 + (1 : Int32)) 2400 then ((fX9_showsNote B (upd I 8 (0 : Int32)) A ((A 29) x2.toNatClampNeg) ((A 29) (x2 + (1 : Int32)).toNatClampNeg)).bind fun (I4, A5) => (if gd (x2 + (2 : Int32)) 2400 then (if gd ((A5 29) (x2 + (2 : Int32)).toNatClampNeg) 20 then ((fX9_showsWord B I4 A5 ((B 19) ((A5 29) (x2 + (2 : Int32)).toNatClampNeg).toNatClampNeg)).bind fun (I10, A11) => (if gd (x2 + (3 : Int32)) 2400 then (if ((A11 29) (x2 + (3 : Int32)).toNatClampNeg) = (-2 : Int32) then (some (I10, A11)) else ((fX9_shows B I10 A11 (47 : Int32)).bind fun (I16, A17) => (if gd (x2 + (3 : Int32)) 2400 then (if gd (x2 + (4 : Int32)) 2400 then ((fX9_showsNote B I16 A17 ((A17 29) (x2 + (3 : Int32)).toNatClampNeg) ((A17 29) (x2 + (4 : Int32)).toNatClampNeg)).bind fun (I22, A23) => (some (I22, A23))) else none) else none))) else none)) else none) else none)) else none) else none)
set_option maxRecDepth 100000 in
set_option maxHeartbeats 4000000 in
theorem mX9_showsName_vnames (l : Launch) (dC : Nat → ClassId) (dI : Nat → Nat → Nat) (cI cB cJ : ClassId) (Q : Nat → Nat) (B : Nat → Nat → Int64) (I : Nat → Int32) (A : Nat → Nat → Int32) (x2 : Int32) (sz : Nat) (z : (Nat → Int32) × (Nat → Nat → Int32)) (hf : fX9_showsName_vnames B I A x2 = some z) : Met l yX9_showsName wsX9_showsName ({ frames := 3, cells := 0, slots := 0, locals := 68 }) (va_Pc [.ref (Q 100), .ref (Q 29), .int x2] (fun U => U.heap.size = sz ∧ va_P (dC, dI) vwCl (wM cI cB cJ Q B I A) U.heap ∧ va_K (dC, dI) vwCl (tM cI cB cJ) U ∧ va_D (fun _ => True) (wM cI cB cJ Q B I A))) (va_Qv (fun (u : (Nat → Int32) × (Nat → Nat → Int32)) => u = z) (atM dC dI cI cB cJ Q B (va_A (wM cI cB cJ Q B I A) sz)) (va_A (wM cI cB cJ Q B I A) sz)) 0 0 (va_A (wM cI cB cJ Q B I A) sz) := by
  refine Met.ofW (cc := cX9_showsName) (maxL := 3) (ret := none) (by decide) rfl ?_
  intro p e s m args below meth c s₁ BL hml hv
  obtain ⟨rfl, hsz, hP, hK, hD0⟩ := hv
  have hx := BL.exec
  have hb := BL.bytes
  have hr := BL.returns
  have hts := atoms_spec (ws := wsX9_showsName) BL.pre
  have hown : s.vm.findClass RX9 = some m.cls := findClass_of_methodNamed BL.named
  have hlocks := BL.notSynchronized
  have hinX9 : ∀ w ∈ u_ws RX9 TX9 36, w ∈ wsX9_showsName := by decide +kernel
  have hk136 := hts (.fieldLink RX9 136 "LeadSheetsModel" "bodies" "[J") (by decide +kernel)
  have hk304 := hts (.fieldLink RX9 304 "LeadSheetsModel" "shownMany" "I") (by decide +kernel)
  subst hsz
  have hD := hD0.self (sz := s.heap.size)
  generalize hAe : va_A (wM cI cB cJ Q B I A) s.heap.size = AA at hD ⊢
  have hA : ∀ q : Nat, s.heap.size ≤ q → AA q := fun q h => by rw [← hAe]; exact Or.inr h
  have hS : va_S AA s.heap s.heap [] := va_S.rf
  have hl := lv_entry ([.ref (Q 100), .ref (Q 29), .int x2]) (n := 3) (Nat.le_of_ble_eq_true rfl)
  rw [lg_entry_eq]
  generalize (lg_sl ([.ref (Q 100), .ref (Q 29), .int x2]) ++ List.replicate (3 - (lg_sl ([.ref (Q 100), .ref (Q 29), .int x2])).length) Slot.unset).toArray = ls at hl ⊢
  have hl : lv_has ls 3 [(0, .ref (Q 100)), (1, .ref (Q 29)), (2, .int x2)] := hl
  unfold fX9_showsName_vnames at hf
  refine lv_aload_n hx hb dX9_showsName_0 rfl (lv_at hl 0 rfl) ?_
  refine lv_iconst (v := (0 : Int32)) hx hb dX9_showsName_1 (by decide) ?_
  refine va_put (D := (dC, dI)) (ci := 6) (v := .int (0 : Int32)) (ty := .int) (C := RX9) (T := TX9) (N := 36) hx hb hts hinX9 tyX9 tyX9_ok nmX9 hown hK hP hD hS 0 (fs := (oM Q I)) rfl rfl 8 (by decide) hk304 (fun _ h9 => h9) rfl (by decide +kernel) rfl rfl (Nat.le_of_ble_eq_true rfl) dX9_showsName_2 (fun H locs hP hD hS => ?_)
  have hP : va_P (dC, dI) vwCl (wM cI cB cJ Q B (upd I 8 (0 : Int32)) A) H := Eq.mp (congrArg (fun w => va_P (dC, dI) vwCl w H) (wMI_8 cI cB cJ Q B I A (0 : Int32))) hP
  have hD : va_D AA (wM cI cB cJ Q B (upd I 8 (0 : Int32)) A) := Eq.mp (congrArg (fun w => va_D AA w) (wMI_8 cI cB cJ Q B I A (0 : Int32))) hD
  refine lv_aload_n hx hb dX9_showsName_5 rfl (lv_at hl 0 rfl) ?_
  refine lv_aload_n hx hb dX9_showsName_6 rfl (lv_at hl 1 rfl) ?_
  refine lv_iload_n hx hb dX9_showsName_7 rfl (lv_at hl 2 rfl) ?_
  obtain ⟨g1, hf⟩ := of_ite_some hf
  refine va_iald hx hb hK hP 20 0 (n := 2400) (f := (A 29)) rfl rfl g1 dX9_showsName_8 ?_
  refine lv_aload_n hx hb dX9_showsName_9 rfl (lv_at hl 1 rfl) ?_
  refine lv_iload_n hx hb dX9_showsName_10 rfl (lv_at hl 2 rfl) ?_
  refine lv_iconst (v := (1 : Int32)) hx hb dX9_showsName_11 (by decide) ?_
  refine lv_iadd hx hb dX9_showsName_12 ?_
  obtain ⟨g2, hf⟩ := of_ite_some hf
  refine va_iald hx hb hK hP 20 0 (n := 2400) (f := (A 29)) rfl rfl g2 dX9_showsName_13 ?_
  obtain ⟨⟨I4, A5⟩, hc3, hf⟩ := of_bind_some hf
  have hF6 := va_freeAll hD hS hA
  refine va_callv (va_runV (As := [.int ((A 29) x2.toNatClampNeg), .int ((A 29) (x2 + (1 : Int32)).toNatClampNeg)]) (rest := []) ⟨hx, hb, hml, hown, hts⟩ (mX9_showsNote l dC dI cI cB cJ Q B (upd I 8 (0 : Int32)) A ((A 29) x2.toNatClampNeg) ((A 29) (x2 + (1 : Int32)).toNatClampNeg) H.size _ hc3) (cwV 2 hts gX9_showsName_X9_showsNote rfl rfl rfl (by decide +kernel) ⟨Nat.le_of_ble_eq_true rfl, Nat.le_of_ble_eq_true rfl⟩) ⟨blindW, va_recv hK hP (ci := 6) (q0 := 0) rfl rfl, fun U hU hW => ⟨rfl, by rw [hU], by rw [hU]; exact hP, va_K.moved hW.alike hK, hD.weaken (fun _ _ _ _ => trivial)⟩⟩ rfl rfl hl.1 rfl (lv_room (Nat.le_of_ble_eq_true rfl)) dX9_showsName_14 ⟨Nat.zero_le _, Nat.zero_le _⟩) hS (fun q _ h => hF6 q h) hF6 (fun u t H locs ht hvm hw hB hz1 hk1 hS => ?_)
  cases hw
  obtain ⟨hP, hK9, hD⟩ := hB
  rw [ht] at hP
  have hP : va_P (dC, dI) vwCl (wM cI cB cJ Q B I4 A5) H := hP
  have hD : va_D AA (wM cI cB cJ Q B I4 A5) := hD.weaken (fun _ _ _ h => hF6 _ h)
  refine lv_aload_n hx hb dX9_showsName_17 rfl (lv_at hl 0 rfl) ?_
  refine lv_aload_n hx hb dX9_showsName_18 rfl (lv_at hl 0 rfl) ?_
  refine va_get (D := (dC, dI)) (ci := 6) (v := .ref (Q 19)) (C := RX9) (T := TX9) (N := 36) hx hb hts hinX9 hown hK hP 0 rfl rfl 19 (by decide) hk136 (fun _ h9 => h9) rfl dX9_showsName_19 ?_
  refine lv_aload_n hx hb dX9_showsName_22 rfl (lv_at hl 1 rfl) ?_
  refine lv_iload_n hx hb dX9_showsName_23 rfl (lv_at hl 2 rfl) ?_
  refine lv_iconst (v := (2 : Int32)) hx hb dX9_showsName_24 (by decide) ?_
  refine lv_iadd hx hb dX9_showsName_25 ?_
  obtain ⟨g7, hf⟩ := of_ite_some hf
  refine va_iald hx hb hK hP 20 0 (n := 2400) (f := (A5 29)) rfl rfl g7 dX9_showsName_26 ?_
  obtain ⟨g8, hf⟩ := of_ite_some hf
  refine va_lald hx hb hK hP 15 2 (n := 20) (f := (B 19)) rfl rfl g8 dX9_showsName_27 ?_
  obtain ⟨⟨I10, A11⟩, hc9, hf⟩ := of_bind_some hf
  have hF12 := va_freeAll hD hS hA
  refine va_callv (va_runV (As := [.long ((B 19) ((A5 29) (x2 + (2 : Int32)).toNatClampNeg).toNatClampNeg)]) (rest := []) ⟨hx, hb, hml, hown, hts⟩ (mX9_showsWord l dC dI cI cB cJ Q B I4 A5 ((B 19) ((A5 29) (x2 + (2 : Int32)).toNatClampNeg).toNatClampNeg) H.size _ hc9) (cwV 1 hts gX9_showsName_X9_showsWord rfl rfl rfl (by decide +kernel) ⟨Nat.le_of_ble_eq_true rfl, Nat.le_of_ble_eq_true rfl⟩) ⟨blindW, va_recv hK hP (ci := 6) (q0 := 0) rfl rfl, fun U hU hW => ⟨rfl, by rw [hU], by rw [hU]; exact hP, va_K.moved hW.alike hK, hD.weaken (fun _ _ _ _ => trivial)⟩⟩ rfl rfl hl.1 rfl (lv_room (Nat.le_of_ble_eq_true rfl)) dX9_showsName_28 ⟨Nat.zero_le _, Nat.zero_le _⟩) hS (fun q _ h => hF12 q h) hF12 (fun u t H locs ht hvm hw hB hz1 hk1 hS => ?_)
  cases hw
  obtain ⟨hP, hK9, hD⟩ := hB
  rw [ht] at hP
  have hP : va_P (dC, dI) vwCl (wM cI cB cJ Q B I10 A11) H := hP
  have hD : va_D AA (wM cI cB cJ Q B I10 A11) := hD.weaken (fun _ _ _ h => hF12 _ h)
  refine lv_aload_n hx hb dX9_showsName_31 rfl (lv_at hl 1 rfl) ?_
  refine lv_iload_n hx hb dX9_showsName_32 rfl (lv_at hl 2 rfl) ?_
  refine lv_iconst (v := (3 : Int32)) hx hb dX9_showsName_33 (by decide) ?_
  refine lv_iadd hx hb dX9_showsName_34 ?_
  obtain ⟨g13, hf⟩ := of_ite_some hf
  refine va_iald hx hb hK hP 20 0 (n := 2400) (f := (A11 29)) rfl rfl g13 dX9_showsName_35 ?_
  refine lv_bipush (v := (-2 : Int32)) hx hb dX9_showsName_36 (by decide) ?_
  refine lv_icmp_eq (tgt := 61) hx hb dX9_showsName_38 (by decide) (fun c14 => ?_) (fun c14 => ?_)
  · have hf := (if_pos c14).symm.trans hf
    exact W.vret hx hb hr (fun t ht hW => ⟨⟨(I10, A11), rfl, Option.some.inj hf, by rw [ht]; exact hP, va_K.moved hW.alike hK, hD⟩, hS.F ht⟩) hS.2.2 dX9_showsName_61
  · have hf := (if_neg c14).symm.trans hf
    refine lv_aload_n hx hb dX9_showsName_41 rfl (lv_at hl 0 rfl) ?_
    refine lv_bipush (v := (47 : Int32)) hx hb dX9_showsName_42 (by decide) ?_
    obtain ⟨⟨I16, A17⟩, hc15, hf⟩ := of_bind_some hf
    have hF18 := va_freeAll hD hS hA
    refine va_callv (va_runV (As := [.int (47 : Int32)]) (rest := []) ⟨hx, hb, hml, hown, hts⟩ (mX9_shows l dC dI cI cB cJ Q B I10 A11 (47 : Int32) H.size _ hc15) (cwV 1 hts gX9_showsName_X9_shows rfl rfl rfl (by decide +kernel) ⟨Nat.le_of_ble_eq_true rfl, Nat.le_of_ble_eq_true rfl⟩) ⟨blindW, va_recv hK hP (ci := 6) (q0 := 0) rfl rfl, fun U hU hW => ⟨rfl, by rw [hU], by rw [hU]; exact hP, va_K.moved hW.alike hK, hD.weaken (fun _ _ _ _ => trivial)⟩⟩ rfl rfl hl.1 rfl (lv_room (Nat.le_of_ble_eq_true rfl)) dX9_showsName_44 ⟨Nat.zero_le _, Nat.zero_le _⟩) hS (fun q _ h => hF18 q h) hF18 (fun u t H locs ht hvm hw hB hz1 hk1 hS => ?_)
    cases hw
    obtain ⟨hP, hK9, hD⟩ := hB
    rw [ht] at hP
    have hP : va_P (dC, dI) vwCl (wM cI cB cJ Q B I16 A17) H := hP
    have hD : va_D AA (wM cI cB cJ Q B I16 A17) := hD.weaken (fun _ _ _ h => hF18 _ h)
    refine lv_aload_n hx hb dX9_showsName_47 rfl (lv_at hl 0 rfl) ?_
    refine lv_aload_n hx hb dX9_showsName_48 rfl (lv_at hl 1 rfl) ?_
    refine lv_iload_n hx hb dX9_showsName_49 rfl (lv_at hl 2 rfl) ?_
    refine lv_iconst (v := (3 : Int32)) hx hb dX9_showsName_50 (by decide) ?_
    refine lv_iadd hx hb dX9_showsName_51 ?_
    obtain ⟨g19, hf⟩ := of_ite_some hf
    refine va_iald hx hb hK hP 20 0 (n := 2400) (f := (A17 29)) rfl rfl g19 dX9_showsName_52 ?_
    refine lv_aload_n hx hb dX9_showsName_53 rfl (lv_at hl 1 rfl) ?_
    refine lv_iload_n hx hb dX9_showsName_54 rfl (lv_at hl 2 rfl) ?_
    refine lv_iconst (v := (4 : Int32)) hx hb dX9_showsName_55 (by decide) ?_
    refine lv_iadd hx hb dX9_showsName_56 ?_
    obtain ⟨g20, hf⟩ := of_ite_some hf
    refine va_iald hx hb hK hP 20 0 (n := 2400) (f := (A17 29)) rfl rfl g20 dX9_showsName_57 ?_
    obtain ⟨⟨I22, A23⟩, hc21, hf⟩ := of_bind_some hf
    have hF24 := va_freeAll hD hS hA
    refine va_callv (va_runV (As := [.int ((A17 29) (x2 + (3 : Int32)).toNatClampNeg), .int ((A17 29) (x2 + (4 : Int32)).toNatClampNeg)]) (rest := []) ⟨hx, hb, hml, hown, hts⟩ (mX9_showsNote l dC dI cI cB cJ Q B I16 A17 ((A17 29) (x2 + (3 : Int32)).toNatClampNeg) ((A17 29) (x2 + (4 : Int32)).toNatClampNeg) H.size _ hc21) (cwV 2 hts gX9_showsName_X9_showsNote rfl rfl rfl (by decide +kernel) ⟨Nat.le_of_ble_eq_true rfl, Nat.le_of_ble_eq_true rfl⟩) ⟨blindW, va_recv hK hP (ci := 6) (q0 := 0) rfl rfl, fun U hU hW => ⟨rfl, by rw [hU], by rw [hU]; exact hP, va_K.moved hW.alike hK, hD.weaken (fun _ _ _ _ => trivial)⟩⟩ rfl rfl hl.1 rfl (lv_room (Nat.le_of_ble_eq_true rfl)) dX9_showsName_58 ⟨Nat.zero_le _, Nat.zero_le _⟩) hS (fun q _ h => hF24 q h) hF24 (fun u t H locs ht hvm hw hB hz1 hk1 hS => ?_)
    cases hw
    obtain ⟨hP, hK9, hD⟩ := hB
    rw [ht] at hP
    have hP : va_P (dC, dI) vwCl (wM cI cB cJ Q B I22 A23) H := hP
    have hD : va_D AA (wM cI cB cJ Q B I22 A23) := hD.weaken (fun _ _ _ h => hF24 _ h)
    exact W.vret hx hb hr (fun t ht hW => ⟨⟨(I22, A23), rfl, Option.some.inj hf, by rw [ht]; exact hP, va_K.moved hW.alike hK, hD⟩, hS.F ht⟩) hS.2.2 dX9_showsName_61
def fX9_name (B : Nat → Nat → Int64) (I : Nat → Int32) (A : Nat → Nat → Int32) (x1 : Int32) : Option (Int32 × (Nat → Int32) × (Nat → Nat → Int32)) :=
  (if (fX9_isIn x1 (0 : Int32) ((I 10) - (1 : Int32))) = 0 then (some ((-1 : Int32), (I, A))) else ((fX9_showsName_vfound B I A ((5 : Int32) * x1)).bind fun (I3, A4) => (some ((I3 8), (I3, A4)))))
set_option maxRecDepth 100000 in
set_option maxHeartbeats 4000000 in
theorem mX9_name (l : Launch) (dC : Nat → ClassId) (dI : Nat → Nat → Nat) (cI cB cJ : ClassId) (Q : Nat → Nat) (B : Nat → Nat → Int64) (I : Nat → Int32) (A : Nat → Nat → Int32) (x1 : Int32) (sz : Nat) (z : Int32 × (Nat → Int32) × (Nat → Nat → Int32)) (hf : fX9_name B I A x1 = some z) : Met l yX9_name wsX9_name ({ frames := 4, cells := 0, slots := 0, locals := 90 }) (va_Pc [.ref (Q 100), .int x1] (fun U => U.heap.size = sz ∧ va_P (dC, dI) vwCl (wM cI cB cJ Q B I A) U.heap ∧ va_K (dC, dI) vwCl (tM cI cB cJ) U ∧ va_D (fun _ => True) (wM cI cB cJ Q B I A))) (va_Qi (fun (r : Int32) (u : (Nat → Int32) × (Nat → Nat → Int32)) => (r, u) = z) (atM dC dI cI cB cJ Q B (va_A (wM cI cB cJ Q B I A) sz)) (va_A (wM cI cB cJ Q B I A) sz)) 0 0 (va_A (wM cI cB cJ Q B I A) sz) := by
  refine Met.ofW (cc := cX9_name) (maxL := 2) (ret := (some .int)) (by decide) rfl ?_
  intro p e s m args below meth c s₁ BL hml hv
  obtain ⟨rfl, hsz, hP, hK, hD0⟩ := hv
  have hx := BL.exec
  have hb := BL.bytes
  have hr := BL.returns
  have hts := atoms_spec (ws := wsX9_name) BL.pre
  have hown : s.vm.findClass RX9 = some m.cls := findClass_of_methodNamed BL.named
  have hlocks := BL.notSynchronized
  have hinX9 : ∀ w ∈ u_ws RX9 TX9 36, w ∈ wsX9_name := by decide +kernel
  have hk29 := hts (.fieldLink RX9 29 "LeadSheetsModel" "found" "[I") (by decide +kernel)
  have hk304 := hts (.fieldLink RX9 304 "LeadSheetsModel" "shownMany" "I") (by decide +kernel)
  have hk337 := hts (.fieldLink RX9 337 "LeadSheetsModel" "foundMany" "I") (by decide +kernel)
  subst hsz
  have hD := hD0.self (sz := s.heap.size)
  generalize hAe : va_A (wM cI cB cJ Q B I A) s.heap.size = AA at hD ⊢
  have hA : ∀ q : Nat, s.heap.size ≤ q → AA q := fun q h => by rw [← hAe]; exact Or.inr h
  have hS : va_S AA s.heap s.heap [] := va_S.rf
  have hl := lv_entry ([.ref (Q 100), .int x1]) (n := 2) (Nat.le_of_ble_eq_true rfl)
  rw [lg_entry_eq]
  generalize (lg_sl ([.ref (Q 100), .int x1]) ++ List.replicate (2 - (lg_sl ([.ref (Q 100), .int x1])).length) Slot.unset).toArray = ls at hl ⊢
  have hl : lv_has ls 2 [(0, .ref (Q 100)), (1, .int x1)] := hl
  unfold fX9_name at hf
  refine lv_iload_n hx hb dX9_name_0 rfl (lv_at hl 1 rfl) ?_
  refine lv_iconst (v := (0 : Int32)) hx hb dX9_name_1 (by decide) ?_
  refine lv_aload_n hx hb dX9_name_2 rfl (lv_at hl 0 rfl) ?_
  refine va_get (D := (dC, dI)) (ci := 6) (v := .int (I 10)) (C := RX9) (T := TX9) (N := 36) hx hb hts hinX9 hown hK hP 0 rfl rfl 10 (by decide) hk337 (fun _ h9 => h9) rfl dX9_name_3 ?_
  refine lv_iconst (v := (1 : Int32)) hx hb dX9_name_6 (by decide) ?_
  refine lv_isub hx hb dX9_name_7 ?_
  refine W.callR (r := (fX9_isIn x1 (0 : Int32) ((I 10) - (1 : Int32)))) (W.runS (As := [.int x1, .int (0 : Int32), .int ((I 10) - (1 : Int32))]) (rest := []) ⟨hx, hb, hml, hown, hts⟩ (mX9_isIn l x1 (0 : Int32) ((I 10) - (1 : Int32)) (fX9_isIn x1 (0 : Int32) ((I 10) - (1 : Int32))) rfl) (va_cwS 3 hts gX9_name_X9_isIn rfl rfl rfl (by decide +kernel) ⟨Nat.le_of_ble_eq_true rfl, Nat.le_of_ble_eq_true rfl⟩) ⟨fun _ _ _ _ q => q, fun U hU hW => ⟨rfl, trivial⟩⟩ rfl rfl hl.1 rfl (lv_room (Nat.le_of_ble_eq_true rfl)) dX9_name_8 ⟨Nat.zero_le _, Nat.zero_le _⟩) ?_
  refine W.eq (g2 := F0 m 11 ls [.int (fX9_isIn x1 (0 : Int32) ((I 10) - (1 : Int32)))]) rfl ?_
  refine lv_if_ne (tgt := 16) hx hb dX9_name_11 (by decide) (fun c1 => ?_) (fun c1 => ?_)
  · have hf := (if_neg c1).symm.trans hf
    refine lv_aload_n hx hb dX9_name_16 rfl (lv_at hl 0 rfl) ?_
    refine lv_aload_n hx hb dX9_name_17 rfl (lv_at hl 0 rfl) ?_
    refine va_get (D := (dC, dI)) (ci := 6) (v := .ref (Q 9)) (C := RX9) (T := TX9) (N := 36) hx hb hts hinX9 hown hK hP 0 rfl rfl 9 (by decide) hk29 (fun _ h9 => h9) rfl dX9_name_18 ?_
    refine lv_iconst (v := (5 : Int32)) hx hb dX9_name_21 (by decide) ?_
    refine lv_iload_n hx hb dX9_name_22 rfl (lv_at hl 1 rfl) ?_
    refine lv_imul hx hb dX9_name_23 ?_
    obtain ⟨⟨I3, A4⟩, hc2, hf⟩ := of_bind_some hf
    have hF5 := va_freeAll hD hS hA
    refine va_callv (va_runV (As := [.ref (Q 9), .int ((5 : Int32) * x1)]) (rest := []) ⟨hx, hb, hml, hown, hts⟩ (mX9_showsName_vfound l dC dI cI cB cJ Q B I A ((5 : Int32) * x1) s.heap.size _ hc2) (cwV 2 hts gX9_name_X9_showsName rfl rfl rfl (by decide +kernel) ⟨Nat.le_of_ble_eq_true rfl, Nat.le_of_ble_eq_true rfl⟩) ⟨blindW, va_recv hK hP (ci := 6) (q0 := 0) rfl rfl, fun U hU hW => ⟨rfl, by rw [hU], by rw [hU]; exact hP, va_K.moved hW.alike hK, hD.weaken (fun _ _ _ _ => trivial)⟩⟩ rfl rfl hl.1 rfl (lv_room (Nat.le_of_ble_eq_true rfl)) dX9_name_24 ⟨Nat.zero_le _, Nat.zero_le _⟩) hS (fun q _ h => hF5 q h) hF5 (fun u t H locs ht hvm hw hB hz1 hk1 hS => ?_)
    cases hw
    obtain ⟨hP, hK9, hD⟩ := hB
    rw [ht] at hP
    have hP : va_P (dC, dI) vwCl (wM cI cB cJ Q B I3 A4) H := hP
    have hD : va_D AA (wM cI cB cJ Q B I3 A4) := hD.weaken (fun _ _ _ h => hF5 _ h)
    refine lv_aload_n hx hb dX9_name_27 rfl (lv_at hl 0 rfl) ?_
    refine va_get (D := (dC, dI)) (ci := 6) (v := .int (I3 8)) (C := RX9) (T := TX9) (N := 36) hx hb hts hinX9 hown hK hP 0 rfl rfl 8 (by decide) hk304 (fun _ h9 => h9) rfl dX9_name_28 ?_
    exact W.iret (v := (I3 8)) hx hb hr (fun t ht hW => ⟨⟨(I3 8), (I3, A4), rfl, Option.some.inj hf, by rw [ht]; exact hP, va_K.moved hW.alike hK, hD⟩, hS.F ht⟩) hS.2.2 dX9_name_31
  · have hf := (if_pos c1).symm.trans hf
    refine lv_iconst (v := (-1 : Int32)) hx hb dX9_name_14 (by decide) ?_
    exact W.iret (v := (-1 : Int32)) hx hb hr (fun t ht hW => ⟨⟨(-1 : Int32), (I, A), rfl, Option.some.inj hf, by rw [ht]; exact hP, va_K.moved hW.alike hK, hD⟩, hS.F ht⟩) hS.2.2 dX9_name_15
