/-! chords that are made -/
def mkc (a b c d : Int32) : Nat → Int32 := fun k => match k with
  | 0 => a
  | 1 => b
  | 2 => c
  | _ => d
def nwc (r : Option Nat) (f : Option (Nat → Int32)) : va_W := match r, f with
  | some q, some f => [(q, .inr (0, oK (fun _ => q) f))]
  | _, _ => []
theorem zf_of {v : Int32} (h : v = 0 ∨ v = 1) : fits .boolean (.int v) = true := by
  rcases h with rfl | rfl <;> rfl
set_option maxRecDepth 100000 in
set_option maxHeartbeats 4000000 in
theorem mX1_init (l : Launch) (dC : Nat → ClassId) (dI : Nat → Nat → Nat) (cI : ClassId) (Q : Nat → Nat) (I : Nat → Int32) (x1 x2 x3 x4 : Int32) (hz : x4 = 0 ∨ x4 = 1) (sz : Nat) : Met l yX1_init wsX1_init ({ frames := 1, cells := 0, slots := 0, locals := 12 }) (va_Pc [.ref (Q 100), .int x1, .int x2, .int x3, .int x4] (fun U => U.heap.size = sz ∧ va_P (dC, dI) vwCl (wK cI Q I) U.heap ∧ va_K (dC, dI) vwCl [(cI, .int)] U ∧ va_D (fun _ => True) (wK cI Q I))) (va_Qv (fun (u : Nat → Int32) => u = mkc x1 x2 x3 x4) (atK dC dI cI Q (va_A (wK cI Q I) sz)) (va_A (wK cI Q I) sz)) 0 0 (va_A (wK cI Q I) sz) := by
  refine Met.ofW (cc := cX1_init) (maxL := 5) (ret := none) (by decide) rfl ?_
  intro p e s m args below meth c s₁ BL hml hv
  obtain ⟨rfl, hsz, hP, hK, hD0⟩ := hv
  have hx := BL.exec
  have hb := BL.bytes
  have hr := BL.returns
  have hts := atoms_spec (ws := wsX1_init) BL.pre
  have hown : s.vm.findClass RX1 = some m.cls := findClass_of_methodNamed BL.named
  have hlocks := BL.notSynchronized
  have hin : meth.name = "<init>" := (name_of_methodNamed BL.named BL.method).1
  have hinX1 : ∀ w ∈ u_ws RX1 TX1 4, w ∈ wsX1_init := by decide +kernel
  have hk9 := hts (.fieldLink RX1 9 "LeadSheets$Chord" "root" "I") (by decide +kernel)
  have hk15 := hts (.fieldLink RX1 15 "LeadSheets$Chord" "steps" "I") (by decide +kernel)
  have hk18 := hts (.fieldLink RX1 18 "LeadSheets$Chord" "bass" "I") (by decide +kernel)
  have hk21 := hts (.fieldLink RX1 21 "LeadSheets$Chord" "slashed" "Z") (by decide +kernel)
  subst hsz
  have hD := hD0.self (sz := s.heap.size)
  generalize hAe : va_A (wK cI Q I) s.heap.size = AA at hD ⊢
  have hA : ∀ q : Nat, s.heap.size ≤ q → AA q := fun q h => by rw [← hAe]; exact Or.inr h
  have hS : va_S AA s.heap s.heap [] := va_S.rf
  have hl := lv_entry ([.ref (Q 100), .int x1, .int x2, .int x3, .int x4]) (n := 5) (Nat.le_of_ble_eq_true rfl)
  rw [lg_entry_eq]
  generalize (lg_sl ([.ref (Q 100), .int x1, .int x2, .int x3, .int x4]) ++ List.replicate (5 - (lg_sl ([.ref (Q 100), .int x1, .int x2, .int x3, .int x4])).length) Slot.unset).toArray = ls at hl ⊢
  have hl : lv_has ls 5 [(0, .ref (Q 100)), (1, .int x1), (2, .int x2), (3, .int x3), (4, .int x4)] := hl
  refine lv_aload_n hx hb dX1_init_0 rfl (lv_at hl 0 rfl) ?_
  refine W.objInit hx hb hown (hts (.methodLink RX1 3 objectInit) (by decide +kernel)) (hts (.instanceMethod objectInit) (by decide +kernel)) (hts (.code objectInit ⟨#[0xb1]⟩ 1 none) (by decide +kernel)) rfl (by rw [hml]; exact hl.1) rfl dX1_init_1 (Nat.le_of_ble_eq_true rfl) (Nat.le_of_ble_eq_true rfl) ?_
  refine W.eq (g2 := F0 m 4 ls []) rfl ?_
  refine lv_aload_n hx hb dX1_init_4 rfl (lv_at hl 0 rfl) ?_
  refine lv_iload_n hx hb dX1_init_5 rfl (lv_at hl 1 rfl) ?_
  refine va_putF (D := (dC, dI)) (ci := 0) (v := .int x1) (ty := .int) (C := RX1) (T := TX1) (N := 4) hx hb hts hinX1 tyX1 tyX1_ok nmX1 hown hK hP hD hS 0 (fs := [.int (I 0), .int (I 1), .int (I 2), .int (I 3)]) rfl rfl 0 (by decide) hk9 (fun _ h9 => h9) rfl hin rfl (by decide +kernel) rfl rfl (Nat.le_of_ble_eq_true rfl) dX1_init_6 (fun H locs hP hD hS => ?_)
  have hP : va_P (dC, dI) vwCl [(Q 100, .inr (0, [.int x1, .int (I 1), .int (I 2), .int (I 3)]))] H := hP
  have hD : va_D AA [(Q 100, .inr (0, [.int x1, .int (I 1), .int (I 2), .int (I 3)]))] := hD
  refine lv_aload_n hx hb dX1_init_9 rfl (lv_at hl 0 rfl) ?_
  refine lv_iload_n hx hb dX1_init_10 rfl (lv_at hl 2 rfl) ?_
  refine va_putF (D := (dC, dI)) (ci := 0) (v := .int x2) (ty := .int) (C := RX1) (T := TX1) (N := 4) hx hb hts hinX1 tyX1 tyX1_ok nmX1 hown hK hP hD hS 0 (fs := [.int x1, .int (I 1), .int (I 2), .int (I 3)]) rfl rfl 1 (by decide) hk15 (fun _ h9 => h9) rfl hin rfl (by decide +kernel) rfl rfl (Nat.le_of_ble_eq_true rfl) dX1_init_11 (fun H locs hP hD hS => ?_)
  have hP : va_P (dC, dI) vwCl [(Q 100, .inr (0, [.int x1, .int x2, .int (I 2), .int (I 3)]))] H := hP
  have hD : va_D AA [(Q 100, .inr (0, [.int x1, .int x2, .int (I 2), .int (I 3)]))] := hD
  refine lv_aload_n hx hb dX1_init_14 rfl (lv_at hl 0 rfl) ?_
  refine lv_iload_n hx hb dX1_init_15 rfl (lv_at hl 3 rfl) ?_
  refine va_putF (D := (dC, dI)) (ci := 0) (v := .int x3) (ty := .int) (C := RX1) (T := TX1) (N := 4) hx hb hts hinX1 tyX1 tyX1_ok nmX1 hown hK hP hD hS 0 (fs := [.int x1, .int x2, .int (I 2), .int (I 3)]) rfl rfl 2 (by decide) hk18 (fun _ h9 => h9) rfl hin rfl (by decide +kernel) rfl rfl (Nat.le_of_ble_eq_true rfl) dX1_init_16 (fun H locs hP hD hS => ?_)
  have hP : va_P (dC, dI) vwCl [(Q 100, .inr (0, [.int x1, .int x2, .int x3, .int (I 3)]))] H := hP
  have hD : va_D AA [(Q 100, .inr (0, [.int x1, .int x2, .int x3, .int (I 3)]))] := hD
  refine lv_aload_n hx hb dX1_init_19 rfl (lv_at hl 0 rfl) ?_
  refine lv_iload hx hb dX1_init_20 (lv_at hl 4 rfl) ?_
  refine va_putF (D := (dC, dI)) (ci := 0) (v := .int x4) (ty := .boolean) (C := RX1) (T := TX1) (N := 4) hx hb hts hinX1 tyX1 tyX1_ok nmX1 hown hK hP hD hS 0 (fs := [.int x1, .int x2, .int x3, .int (I 3)]) rfl rfl 3 (by decide) hk21 (fun _ h9 => h9) rfl hin rfl (by decide +kernel) (zn_of hz) (zf_of hz) (Nat.le_of_ble_eq_true rfl) dX1_init_22 (fun H locs hP hD hS => ?_)
  have hP : va_P (dC, dI) vwCl [(Q 100, .inr (0, [.int x1, .int x2, .int x3, .int x4]))] H := hP
  have hD : va_D AA [(Q 100, .inr (0, [.int x1, .int x2, .int x3, .int x4]))] := hD
  exact W.vret hx hb hr (fun t ht hW => ⟨⟨mkc x1 x2 x3 x4, rfl, rfl, by rw [ht]; exact hP, va_K.moved hW.alike hK, hD⟩, hS.F ht⟩) hS.2.2 dX1_init_25
def fX1_movedBy_144  (k72 : (Nat → Int32) → Int32 → Int32 → Int32 → Int32 → Int32 → Int32 → Option (Option (Nat → Int32) × (Nat → Int32))) (I : Nat → Int32) (v2 : Int32) (v3 : Int32) (v7 : Int32) (v8 : Int32) (v9 : Int32) (v10 : Int32) : Option (Option (Nat → Int32) × (Nat → Int32)) :=
  (k72 I v2 v3 v8 v9 v10 (v7 + (1 : Int32)))
def fX1_movedBy_72B   (k72 : (Nat → Int32) → Int32 → Int32 → Int32 → Int32 → Int32 → Int32 → Option (Option (Nat → Int32) × (Nat → Int32))) (I : Nat → Int32) (v2 : Int32) (v3 : Int32) (v4 : Int32) (v5 : Int32) (v6 : Int32) (v7 : Int32) : Option (Option (Nat → Int32) × (Nat → Int32)) :=
  (if (9 : Int32) ≤ v7 then (some ((some (mkc v4 (I 1) v5 (1 : Int32))), (I))) else ((fX3_withSigns v2 ((v7 / (3 : Int32)) - (1 : Int32))).bind fun r13 => ((fX3_withSigns v3 ((jrem v7 (3 : Int32)) - (1 : Int32))).bind fun r15 => (if r13 = (-1 : Int32) then (k72 I v2 v3 v4 v5 v6 (v7 + (1 : Int32))) else (if r15 = (-1 : Int32) then (k72 I v2 v3 v4 v5 v6 (v7 + (1 : Int32))) else ((fX4_weight r13 (I 1) r15).bind fun r19 => (if v4 = (-1 : Int32) then (fX1_movedBy_144  k72 I v2 v3 v7 r13 r15 r19) else (if v6 ≤ r19 then (k72 I v2 v3 v4 v5 v6 (v7 + (1 : Int32))) else (fX1_movedBy_144  k72 I v2 v3 v7 r13 r15 r19)))))))))
def fX1_movedBy_72   : Nat → ((Nat → Int32) → Int32 → Int32 → Int32 → Int32 → Int32 → Int32 → Option (Option (Nat → Int32) × (Nat → Int32)))
  | 0 => fun _ _ _ _ _ _ _ => none
  | n + 1 => fX1_movedBy_72B   (fX1_movedBy_72   n)
def fX1_movedBy  (I : Nat → Int32) (x1 : Int32) : Option (Option (Nat → Int32) × (Nat → Int32)) :=
  ((fX3_pitch (I 0)).bind fun r1 => ((fX3_pitch (I 2)).bind fun r3 => (if (I 3) = 0 then ((fX3_spelt (jrem (r1 + x1) (12 : Int32)) (I 1)).bind fun r6 => (some ((some (mkc r6 (I 1) r6 (0 : Int32))), (I)))) else (fX1_movedBy_72   FU I (jrem (r1 + x1) (12 : Int32)) (jrem (r3 + x1) (12 : Int32)) (-1 : Int32) (-1 : Int32) (0 : Int32) (0 : Int32)))))
set_option maxRecDepth 100000 in
set_option maxHeartbeats 4000000 in
theorem mX1_movedBy (l : Launch) (en : Nat → Nat) (dC : Nat → ClassId) (dI : Nat → Nat → Nat) (cI : ClassId) (Q : Nat → Nat)  (I : Nat → Int32) (x1 : Int32) (sz : Nat) (z : Option (Nat → Int32) × (Nat → Int32)) (hf : fX1_movedBy I x1 = some z) : Met l yX1_movedBy wsX1_movedBy ({ frames := 6, cells := 1, slots := 4, locals := 137 }) (va_Pc [.ref (Q 100), .int x1] (fun U => U.heap.size = sz ∧ va_P (dC, dI) vwCl (wK cI Q I) U.heap ∧ va_K (dC, dI) vwCl [(cI, .int)] U ∧ va_D (fun _ => True) (wK cI Q I) ∧ cE en (va_A (wK cI Q I) sz) U U.heap)) (va_Qq (fun (r : Option Nat) (u : Option Nat × Option (Nat → Int32) × (Nat → Int32)) => u.1 = r ∧ u.2 = z ∧ r.isSome = z.1.isSome) (fun (u : Option Nat × Option (Nat → Int32) × (Nat → Int32)) (t : State) => va_P (dC, dI) vwCl (wK cI Q u.2.2 ++ nwc u.1 u.2.1) t.heap ∧ va_K (dC, dI) vwCl [(cI, .int)] t ∧ va_D (va_A (wK cI Q I) sz) (wK cI Q u.2.2 ++ nwc u.1 u.2.1)) (va_A (wK cI Q I) sz)) 1 4 (va_A (wK cI Q I) sz) := by
  refine Met.ofW (cc := cX1_movedBy) (maxL := 11) (ret := (some (.object "LeadSheets$Chord"))) (by decide) rfl ?_
  intro p e s m args below meth c s₁ BL hml hv
  obtain ⟨rfl, hsz, hP, hK, hD0, hE⟩ := hv
  have hx := BL.exec
  have hb := BL.bytes
  have hr := BL.returns
  have hts := atoms_spec (ws := wsX1_movedBy) BL.pre
  have hown : s.vm.findClass RX1 = some m.cls := findClass_of_methodNamed BL.named
  have hlocks := BL.notSynchronized
  have hinX1 : ∀ w ∈ u_ws RX1 TX1 4, w ∈ wsX1_movedBy := by decide +kernel
  have hk9 := hts (.fieldLink RX1 9 "LeadSheets$Chord" "root" "I") (by decide +kernel)
  have hk15 := hts (.fieldLink RX1 15 "LeadSheets$Chord" "steps" "I") (by decide +kernel)
  have hk18 := hts (.fieldLink RX1 18 "LeadSheets$Chord" "bass" "I") (by decide +kernel)
  have hk21 := hts (.fieldLink RX1 21 "LeadSheets$Chord" "slashed" "Z") (by decide +kernel)
  subst hsz
  have hD := hD0.self (sz := s.heap.size)
  generalize hAe : va_A (wK cI Q I) s.heap.size = AA at hD hE ⊢
  have hA : ∀ q : Nat, s.heap.size ≤ q → AA q := fun q h => by rw [← hAe]; exact Or.inr h
  have hS : va_S AA s.heap s.heap [] := va_S.rf
  have sg144 : ∀ (k72 : (Nat → Int32) → Int32 → Int32 → Int32 → Int32 → Int32 → Int32 → Option (Option (Nat → Int32) × (Nat → Int32))), (∀ (I : Nat → Int32) (v2 : Int32) (v3 : Int32) (v4 : Int32) (v5 : Int32) (v6 : Int32) (v7 : Int32) (H : Heap) (locs : List Loc) (ls : Array Slot), k72 I v2 v3 v4 v5 v6 v7 = some z → va_P (dC, dI) vwCl (wK cI Q I) H → va_D AA (wK cI Q I) → va_S AA s.heap H locs → lv_has ls 11 [(0, .ref (Q 100)), (2, .int v2), (3, .int v3), (4, .int v4), (5, .int v5), (6, .int v6), (7, .int v7)] → W p l e (headSpec wsX1_movedBy ({ frames := 6, cells := 1, slots := 4, locals := 137 })).room s m (([.ref (Q 100), .int x1] : List Value).toArray) below meth c H locs 0 0 (MQ below (va_Qq (fun (r : Option Nat) (u : Option Nat × Option (Nat → Int32) × (Nat → Int32)) => u.1 = r ∧ u.2 = z ∧ r.isSome = z.1.isSome) (fun (u : Option Nat × Option (Nat → Int32) × (Nat → Int32)) (t : State) => va_P (dC, dI) vwCl (wK cI Q u.2.2 ++ nwc u.1 u.2.1) t.heap ∧ va_K (dC, dI) vwCl [(cI, .int)] t ∧ va_D AA (wK cI Q u.2.2 ++ nwc u.1 u.2.1)) AA) (([.ref (Q 100), .int x1] : List Value).toArray) s 1 4 AA) (F0 m 72 ls [])) → ∀ (I : Nat → Int32) (v2 : Int32) (v3 : Int32) (v7 : Int32) (v8 : Int32) (v9 : Int32) (v10 : Int32) (H : Heap) (locs : List Loc) (ls : Array Slot), fX1_movedBy_144  k72 I v2 v3 v7 v8 v9 v10 = some z → va_P (dC, dI) vwCl (wK cI Q I) H → va_D AA (wK cI Q I) → va_S AA s.heap H locs → lv_has ls 11 [(0, .ref (Q 100)), (2, .int v2), (3, .int v3), (7, .int v7), (8, .int v8), (9, .int v9), (10, .int v10)] → W p l e (headSpec wsX1_movedBy ({ frames := 6, cells := 1, slots := 4, locals := 137 })).room s m (([.ref (Q 100), .int x1] : List Value).toArray) below meth c H locs 0 0 (MQ below (va_Qq (fun (r : Option Nat) (u : Option Nat × Option (Nat → Int32) × (Nat → Int32)) => u.1 = r ∧ u.2 = z ∧ r.isSome = z.1.isSome) (fun (u : Option Nat × Option (Nat → Int32) × (Nat → Int32)) (t : State) => va_P (dC, dI) vwCl (wK cI Q u.2.2 ++ nwc u.1 u.2.1) t.heap ∧ va_K (dC, dI) vwCl [(cI, .int)] t ∧ va_D AA (wK cI Q u.2.2 ++ nwc u.1 u.2.1)) AA) (([.ref (Q 100), .int x1] : List Value).toArray) s 1 4 AA) (F0 m 144 ls []) := by
    intro k72 ih72
    intro I v2 v3 v7 v8 v9 v10 H locs ls hf hP hD hS hl
    unfold fX1_movedBy_144 at hf
    refine lv_iload hx hb dX1_movedBy_144 (lv_at hl 4 rfl) ?_
    refine lv_istore (lv' := [(4, .int v8), (0, .ref (Q 100)), (2, .int v2), (3, .int v3), (7, .int v7), (8, .int v8), (9, .int v9), (10, .int v10)]) hx hb dX1_movedBy_146 hl (by decide) rfl (fun ls hl => ?_)
    refine lv_iload hx hb dX1_movedBy_148 (lv_at hl 6 rfl) ?_
    refine lv_istore (lv' := [(5, .int v9), (4, .int v8), (0, .ref (Q 100)), (2, .int v2), (3, .int v3), (7, .int v7), (8, .int v8), (9, .int v9), (10, .int v10)]) hx hb dX1_movedBy_150 hl (by decide) rfl (fun ls hl => ?_)
    refine lv_iload hx hb dX1_movedBy_152 (lv_at hl 8 rfl) ?_
    refine lv_istore (lv' := [(6, .int v10), (5, .int v9), (4, .int v8), (0, .ref (Q 100)), (2, .int v2), (3, .int v3), (7, .int v7), (8, .int v8), (9, .int v9), (10, .int v10)]) hx hb dX1_movedBy_154 hl (by decide) rfl (fun ls hl => ?_)
    refine lv_iinc (v := (v7 + (1 : Int32))) (lv' := [(7, .int (v7 + (1 : Int32))), (6, .int v10), (5, .int v9), (4, .int v8), (0, .ref (Q 100)), (2, .int v2), (3, .int v3), (8, .int v8), (9, .int v9), (10, .int v10)]) hx hb dX1_movedBy_156 hl (k := 6) rfl rfl (by decide) rfl (fun ls hl => ?_)
    refine lv_goto (tgt := 72) hx hb dX1_movedBy_159 (by decide) ?_
    exact ih72 I v2 v3 v8 v9 v10 (v7 + (1 : Int32)) H locs ls hf hP hD hS (lv_sub hl [4, 5, 6, 3, 2, 1, 0] rfl)
  have sg72 : ∀ n : Nat, ∀ (I : Nat → Int32) (v2 : Int32) (v3 : Int32) (v4 : Int32) (v5 : Int32) (v6 : Int32) (v7 : Int32) (H : Heap) (locs : List Loc) (ls : Array Slot), fX1_movedBy_72   n I v2 v3 v4 v5 v6 v7 = some z → va_P (dC, dI) vwCl (wK cI Q I) H → va_D AA (wK cI Q I) → va_S AA s.heap H locs → lv_has ls 11 [(0, .ref (Q 100)), (2, .int v2), (3, .int v3), (4, .int v4), (5, .int v5), (6, .int v6), (7, .int v7)] → W p l e (headSpec wsX1_movedBy ({ frames := 6, cells := 1, slots := 4, locals := 137 })).room s m (([.ref (Q 100), .int x1] : List Value).toArray) below meth c H locs 0 0 (MQ below (va_Qq (fun (r : Option Nat) (u : Option Nat × Option (Nat → Int32) × (Nat → Int32)) => u.1 = r ∧ u.2 = z ∧ r.isSome = z.1.isSome) (fun (u : Option Nat × Option (Nat → Int32) × (Nat → Int32)) (t : State) => va_P (dC, dI) vwCl (wK cI Q u.2.2 ++ nwc u.1 u.2.1) t.heap ∧ va_K (dC, dI) vwCl [(cI, .int)] t ∧ va_D AA (wK cI Q u.2.2 ++ nwc u.1 u.2.1)) AA) (([.ref (Q 100), .int x1] : List Value).toArray) s 1 4 AA) (F0 m 72 ls []) := by
    intro n
    induction n with
    | zero => intro I v2 v3 v4 v5 v6 v7 H locs ls hf hP hD hS hl; exact of_none hf
    | succ n ih72 =>
      intro I v2 v3 v4 v5 v6 v7 H locs ls hf hP hD hS hl
      change fX1_movedBy_72B   (fX1_movedBy_72   n) I v2 v3 v4 v5 v6 v7 = _ at hf
      unfold fX1_movedBy_72B at hf
      refine lv_iload hx hb dX1_movedBy_72 (lv_at hl 6 rfl) ?_
      refine lv_bipush (v := (9 : Int32)) hx hb dX1_movedBy_74 (by decide) ?_
      refine lv_icmp_ge (tgt := 162) hx hb dX1_movedBy_76 (by decide) (fun c10 => ?_) (fun c10 => ?_)
      · have hf := (if_pos c10).symm.trans hf
        refine va_new (ci := 0) (fs := [.int 0, .int 0, .int 0, .int 0]) (C := RX1) (T := TX1) (N := 4) hx hb hts hinX1 tyX1 tyX1_ok hown (hts (.classLink RX1 10 RX1) (by decide +kernel)) (hts (.instantiable RX1 4) (by decide +kernel)) (hts (.initialized RX1) (by decide +kernel)) hK hP hD hS hA rfl (fun j hj => by rcases (show j = 0 ∨ j = 1 ∨ j = 2 ∨ j = 3 by omega) with rfl | rfl | rfl | rfl <;> rfl) (Nat.le_of_ble_eq_true rfl) (Nat.le_of_ble_eq_true rfl) dX1_movedBy_162 (fun q11 H hP hD hS => ?_)
        have hP : va_P (dC, dI) vwCl ((wK cI Q I) ++ wK cI (fun _ => q11) (fun _ => 0)) H := hP
        have hD : va_D AA ((wK cI Q I) ++ wK cI (fun _ => q11) (fun _ => 0)) := hD
        refine lv_dup hx hb dX1_movedBy_165 rfl ?_
        refine lv_iload hx hb dX1_movedBy_166 (lv_at hl 3 rfl) ?_
        refine lv_aload_n hx hb dX1_movedBy_168 rfl (lv_at hl 0 rfl) ?_
        refine va_get (D := (dC, dI)) (ci := 0) (v := .int (I 1)) (C := RX1) (T := TX1) (N := 4) hx hb hts hinX1 hown hK hP 0 rfl rfl 1 (by decide) hk15 (fun _ h9 => h9) rfl dX1_movedBy_169 ?_
        refine lv_iload hx hb dX1_movedBy_172 (lv_at hl 4 rfl) ?_
        refine lv_iconst (v := (1 : Int32)) hx hb dX1_movedBy_174 (by decide) ?_
        have hPs : va_P (dC, dI) vwCl ((wK cI Q I) ++ (wK cI (fun _ => q11) (fun _ => 0) ++ [])) H := hP
        have hDs : va_D AA ((wK cI Q I) ++ (wK cI (fun _ => q11) (fun _ => 0) ++ [])) := hD
        have hF12 := va_freeMid hDs hS hA
        refine va_callv (va_runI (As := [.int v4, .int (I 1), .int v5, .int (1 : Int32)]) (rest := [.ref q11]) ⟨hx, hb, hml, hown, hts⟩ (mX1_init l dC dI cI (fun _ => q11) (fun _ => 0) v4 (I 1) v5 (1 : Int32) (Or.inr rfl) H.size) (cwI 4 hts gX1_movedBy_X1_init rfl rfl rfl (hts (.initialized RX1) (by decide +kernel)) (hts (.methodLink RX1 54 yX1_init) (by decide +kernel)) (hts (.instanceMethod yX1_init) (by decide +kernel)) rfl (by decide +kernel) ⟨Nat.le_of_ble_eq_true rfl, Nat.le_of_ble_eq_true rfl⟩) ⟨blindW, fun U hU hW => ⟨rfl, by rw [hU], by rw [hU]; exact hPs.mid, va_K.moved hW.alike hK, hDs.mid.weaken (fun _ _ _ _ => trivial)⟩⟩ rfl rfl hl.1 rfl (lv_room (Nat.le_of_ble_eq_true rfl)) dX1_movedBy_175 ⟨Nat.le_of_ble_eq_true rfl, Nat.le_of_ble_eq_true rfl⟩) hS (fun q _ h => hF12 q h) hF12 (fun u t H locs ht hvm hw hB hz1 hk1 hS => ?_)
        cases hw
        obtain ⟨hP1, hK9, hD1⟩ := hB
        rw [ht] at hP1
        obtain ⟨hP, hD⟩ := va_joinMid hPs hDs hk1 hF12 hP1 hD1
        have hP : va_P (dC, dI) vwCl ((wK cI Q I) ++ nwc (some q11) (some (mkc v4 (I 1) v5 (1 : Int32)))) H := hP
        have hD : va_D AA ((wK cI Q I) ++ nwc (some q11) (some (mkc v4 (I 1) v5 (1 : Int32)))) := hD
        refine W.widen (k := 1) (n := 4) (Nat.le_of_ble_eq_true rfl) (Nat.le_of_ble_eq_true rfl) ?_
        exact W.aret (v := .ref q11) hx hb hr (Or.inl ⟨_, rfl⟩) (Or.inr ⟨_, rfl⟩) (fun t ht hW => ⟨⟨(some q11), ((some q11), (some (mkc v4 (I 1) v5 (1 : Int32))), (I)), rfl, ⟨rfl, Option.some.inj hf, by rw [← Option.some.inj hf]; rfl⟩, by rw [ht]; exact hP, va_K.moved hW.alike hK, hD⟩, hS.F ht⟩) hS.2.2 dX1_movedBy_178
      · have hf := (if_neg c10).symm.trans hf
        refine lv_iload_n hx hb dX1_movedBy_79 rfl (lv_at hl 1 rfl) ?_
        refine lv_iload hx hb dX1_movedBy_80 (lv_at hl 6 rfl) ?_
        refine lv_iconst (v := (3 : Int32)) hx hb dX1_movedBy_82 (by decide) ?_
        refine lv_idiv hx hb dX1_movedBy_83 (by decide) ?_
        refine lv_iconst (v := (1 : Int32)) hx hb dX1_movedBy_84 (by decide) ?_
        refine lv_isub hx hb dX1_movedBy_85 ?_
        obtain ⟨r13, hc14, hf⟩ := of_bind_some hf
        refine W.callR (r := r13) (W.runS (As := [.int v2, .int ((v7 / (3 : Int32)) - (1 : Int32))]) (rest := []) ⟨hx, hb, hml, hown, hts⟩ (mX3_withSigns l en v2 ((v7 / (3 : Int32)) - (1 : Int32)) r13 hc14) (va_cwS 2 hts gX1_movedBy_X3_withSigns rfl rfl rfl (by decide +kernel) ⟨Nat.le_of_ble_eq_true rfl, Nat.le_of_ble_eq_true rfl⟩) ⟨blindS, fun U hU hW => ⟨rfl, cE_read hE hS hW hU⟩⟩ rfl rfl hl.1 rfl (lv_room (Nat.le_of_ble_eq_true rfl)) dX1_movedBy_86 ⟨Nat.zero_le _, Nat.zero_le _⟩) ?_
        refine W.eq (g2 := F0 m 89 ls [.int r13]) rfl ?_
        refine lv_istore (lv' := [(8, .int r13), (0, .ref (Q 100)), (2, .int v2), (3, .int v3), (4, .int v4), (5, .int v5), (6, .int v6), (7, .int v7)]) hx hb dX1_movedBy_89 hl (by decide) rfl (fun ls hl => ?_)
        refine lv_iload_n hx hb dX1_movedBy_91 rfl (lv_at hl 3 rfl) ?_
        refine lv_iload hx hb dX1_movedBy_92 (lv_at hl 7 rfl) ?_
        refine lv_iconst (v := (3 : Int32)) hx hb dX1_movedBy_94 (by decide) ?_
        refine lv_irem hx hb dX1_movedBy_95 (by decide) ?_
        refine W.eq (g2 := F0 m 96 ls [.int (jrem v7 (3 : Int32)), .int v3]) rfl ?_
        refine lv_iconst (v := (1 : Int32)) hx hb dX1_movedBy_96 (by decide) ?_
        refine lv_isub hx hb dX1_movedBy_97 ?_
        obtain ⟨r15, hc16, hf⟩ := of_bind_some hf
        refine W.callR (r := r15) (W.runS (As := [.int v3, .int ((jrem v7 (3 : Int32)) - (1 : Int32))]) (rest := []) ⟨hx, hb, hml, hown, hts⟩ (mX3_withSigns l en v3 ((jrem v7 (3 : Int32)) - (1 : Int32)) r15 hc16) (va_cwS 2 hts gX1_movedBy_X3_withSigns rfl rfl rfl (by decide +kernel) ⟨Nat.le_of_ble_eq_true rfl, Nat.le_of_ble_eq_true rfl⟩) ⟨blindS, fun U hU hW => ⟨rfl, cE_read hE hS hW hU⟩⟩ rfl rfl hl.1 rfl (lv_room (Nat.le_of_ble_eq_true rfl)) dX1_movedBy_98 ⟨Nat.zero_le _, Nat.zero_le _⟩) ?_
        refine W.eq (g2 := F0 m 101 ls [.int r15]) rfl ?_
        refine lv_istore (lv' := [(9, .int r15), (8, .int r13), (0, .ref (Q 100)), (2, .int v2), (3, .int v3), (4, .int v4), (5, .int v5), (6, .int v6), (7, .int v7)]) hx hb dX1_movedBy_101 hl (by decide) rfl (fun ls hl => ?_)
        refine lv_iload hx hb dX1_movedBy_103 (lv_at hl 1 rfl) ?_
        refine lv_iconst (v := (-1 : Int32)) hx hb dX1_movedBy_105 (by decide) ?_
        refine lv_icmp_eq (tgt := 156) hx hb dX1_movedBy_106 (by decide) (fun c17 => ?_) (fun c17 => ?_)
        · have hf := (if_pos c17).symm.trans hf
          refine lv_iinc (v := (v7 + (1 : Int32))) (lv' := [(7, .int (v7 + (1 : Int32))), (9, .int r15), (8, .int r13), (0, .ref (Q 100)), (2, .int v2), (3, .int v3), (4, .int v4), (5, .int v5), (6, .int v6)]) hx hb dX1_movedBy_156 hl (k := 8) rfl rfl (by decide) rfl (fun ls hl => ?_)
          refine lv_goto (tgt := 72) hx hb dX1_movedBy_159 (by decide) ?_
          exact ih72 I v2 v3 v4 v5 v6 (v7 + (1 : Int32)) H locs ls hf hP hD hS (lv_sub hl [3, 4, 5, 6, 7, 8, 0] rfl)
        · have hf := (if_neg c17).symm.trans hf
          refine lv_iload hx hb dX1_movedBy_109 (lv_at hl 0 rfl) ?_
          refine lv_iconst (v := (-1 : Int32)) hx hb dX1_movedBy_111 (by decide) ?_
          refine lv_icmp_ne (tgt := 118) hx hb dX1_movedBy_112 (by decide) (fun c18 => ?_) (fun c18 => ?_)
          · have hf := (if_neg c18).symm.trans hf
            refine lv_iload hx hb dX1_movedBy_118 (lv_at hl 1 rfl) ?_
            refine lv_aload_n hx hb dX1_movedBy_120 rfl (lv_at hl 2 rfl) ?_
            refine va_get (D := (dC, dI)) (ci := 0) (v := .int (I 1)) (C := RX1) (T := TX1) (N := 4) hx hb hts hinX1 hown hK hP 0 rfl rfl 1 (by decide) hk15 (fun _ h9 => h9) rfl dX1_movedBy_121 ?_
            refine lv_iload hx hb dX1_movedBy_124 (lv_at hl 0 rfl) ?_
            obtain ⟨r19, hc20, hf⟩ := of_bind_some hf
            refine W.callR (r := r19) (W.runS (As := [.int r13, .int (I 1), .int r15]) (rest := []) ⟨hx, hb, hml, hown, hts⟩ (mX4_weight l en r13 (I 1) r15 r19 hc20) (va_cwS 3 hts gX1_movedBy_X4_weight rfl rfl rfl (by decide +kernel) ⟨Nat.le_of_ble_eq_true rfl, Nat.le_of_ble_eq_true rfl⟩) ⟨blindS, fun U hU hW => ⟨rfl, cE_read hE hS hW hU⟩⟩ rfl rfl hl.1 rfl (lv_room (Nat.le_of_ble_eq_true rfl)) dX1_movedBy_126 ⟨Nat.zero_le _, Nat.zero_le _⟩) ?_
            refine W.eq (g2 := F0 m 129 ls [.int r19]) rfl ?_
            refine lv_istore (lv' := [(10, .int r19), (9, .int r15), (8, .int r13), (0, .ref (Q 100)), (2, .int v2), (3, .int v3), (4, .int v4), (5, .int v5), (6, .int v6), (7, .int v7)]) hx hb dX1_movedBy_129 hl (by decide) rfl (fun ls hl => ?_)
            refine lv_iload hx hb dX1_movedBy_131 (lv_at hl 6 rfl) ?_
            refine lv_iconst (v := (-1 : Int32)) hx hb dX1_movedBy_133 (by decide) ?_
            refine lv_icmp_eq (tgt := 144) hx hb dX1_movedBy_134 (by decide) (fun c21 => ?_) (fun c21 => ?_)
            · have hf := (if_pos c21).symm.trans hf
              exact sg144 _ ih72 I v2 v3 v7 r13 r15 r19 H locs ls hf hP hD hS (lv_sub hl [3, 4, 5, 9, 2, 1, 0] rfl)
            · have hf := (if_neg c21).symm.trans hf
              refine lv_iload hx hb dX1_movedBy_137 (lv_at hl 0 rfl) ?_
              refine lv_iload hx hb dX1_movedBy_139 (lv_at hl 8 rfl) ?_
              refine lv_icmp_ge (tgt := 156) hx hb dX1_movedBy_141 (by decide) (fun c22 => ?_) (fun c22 => ?_)
              · have hf := (if_pos c22).symm.trans hf
                refine lv_iinc (v := (v7 + (1 : Int32))) (lv' := [(7, .int (v7 + (1 : Int32))), (10, .int r19), (9, .int r15), (8, .int r13), (0, .ref (Q 100)), (2, .int v2), (3, .int v3), (4, .int v4), (5, .int v5), (6, .int v6)]) hx hb dX1_movedBy_156 hl (k := 9) rfl rfl (by decide) rfl (fun ls hl => ?_)
                refine lv_goto (tgt := 72) hx hb dX1_movedBy_159 (by decide) ?_
                exact ih72 I v2 v3 v4 v5 v6 (v7 + (1 : Int32)) H locs ls hf hP hD hS (lv_sub hl [4, 5, 6, 7, 8, 9, 0] rfl)
              · have hf := (if_neg c22).symm.trans hf
                exact sg144 _ ih72 I v2 v3 v7 r13 r15 r19 H locs ls hf hP hD hS (lv_sub hl [3, 4, 5, 9, 2, 1, 0] rfl)
          · have hf := (if_pos c18).symm.trans hf
            refine lv_goto (tgt := 156) hx hb dX1_movedBy_115 (by decide) ?_
            refine lv_iinc (v := (v7 + (1 : Int32))) (lv' := [(7, .int (v7 + (1 : Int32))), (9, .int r15), (8, .int r13), (0, .ref (Q 100)), (2, .int v2), (3, .int v3), (4, .int v4), (5, .int v5), (6, .int v6)]) hx hb dX1_movedBy_156 hl (k := 8) rfl rfl (by decide) rfl (fun ls hl => ?_)
            refine lv_goto (tgt := 72) hx hb dX1_movedBy_159 (by decide) ?_
            exact ih72 I v2 v3 v4 v5 v6 (v7 + (1 : Int32)) H locs ls hf hP hD hS (lv_sub hl [3, 4, 5, 6, 7, 8, 0] rfl)
  have hl := lv_entry ([.ref (Q 100), .int x1]) (n := 11) (Nat.le_of_ble_eq_true rfl)
  rw [lg_entry_eq]
  generalize (lg_sl ([.ref (Q 100), .int x1]) ++ List.replicate (11 - (lg_sl ([.ref (Q 100), .int x1])).length) Slot.unset).toArray = ls at hl ⊢
  have hl : lv_has ls 11 [(0, .ref (Q 100)), (1, .int x1)] := hl
  unfold fX1_movedBy at hf
  refine lv_aload_n hx hb dX1_movedBy_0 rfl (lv_at hl 0 rfl) ?_
  refine va_get (D := (dC, dI)) (ci := 0) (v := .int (I 0)) (C := RX1) (T := TX1) (N := 4) hx hb hts hinX1 hown hK hP 0 rfl rfl 0 (by decide) hk9 (fun _ h9 => h9) rfl dX1_movedBy_1 ?_
  obtain ⟨r1, hc2, hf⟩ := of_bind_some hf
  refine W.callR (r := r1) (W.runS (As := [.int (I 0)]) (rest := []) ⟨hx, hb, hml, hown, hts⟩ (mX3_pitch l en (I 0) r1 hc2) (va_cwS 1 hts gX1_movedBy_X3_pitch rfl rfl rfl (by decide +kernel) ⟨Nat.le_of_ble_eq_true rfl, Nat.le_of_ble_eq_true rfl⟩) ⟨blindS, fun U hU hW => ⟨rfl, cE_read hE hS hW hU⟩⟩ rfl rfl hl.1 rfl (lv_room (Nat.le_of_ble_eq_true rfl)) dX1_movedBy_4 ⟨Nat.zero_le _, Nat.zero_le _⟩) ?_
  refine W.eq (g2 := F0 m 7 ls [.int r1]) rfl ?_
  refine lv_iload_n hx hb dX1_movedBy_7 rfl (lv_at hl 1 rfl) ?_
  refine lv_iadd hx hb dX1_movedBy_8 ?_
  refine lv_bipush (v := (12 : Int32)) hx hb dX1_movedBy_9 (by decide) ?_
  refine lv_irem hx hb dX1_movedBy_11 (by decide) ?_
  refine W.eq (g2 := F0 m 12 ls [.int (jrem (r1 + x1) (12 : Int32))]) rfl ?_
  refine lv_istore_n (lv' := [(2, .int (jrem (r1 + x1) (12 : Int32))), (0, .ref (Q 100)), (1, .int x1)]) hx hb dX1_movedBy_12 rfl hl (by decide) rfl (fun ls hl => ?_)
  refine lv_aload_n hx hb dX1_movedBy_13 rfl (lv_at hl 1 rfl) ?_
  refine va_get (D := (dC, dI)) (ci := 0) (v := .int (I 2)) (C := RX1) (T := TX1) (N := 4) hx hb hts hinX1 hown hK hP 0 rfl rfl 2 (by decide) hk18 (fun _ h9 => h9) rfl dX1_movedBy_14 ?_
  obtain ⟨r3, hc4, hf⟩ := of_bind_some hf
  refine W.callR (r := r3) (W.runS (As := [.int (I 2)]) (rest := []) ⟨hx, hb, hml, hown, hts⟩ (mX3_pitch l en (I 2) r3 hc4) (va_cwS 1 hts gX1_movedBy_X3_pitch rfl rfl rfl (by decide +kernel) ⟨Nat.le_of_ble_eq_true rfl, Nat.le_of_ble_eq_true rfl⟩) ⟨blindS, fun U hU hW => ⟨rfl, cE_read hE hS hW hU⟩⟩ rfl rfl hl.1 rfl (lv_room (Nat.le_of_ble_eq_true rfl)) dX1_movedBy_17 ⟨Nat.zero_le _, Nat.zero_le _⟩) ?_
  refine W.eq (g2 := F0 m 20 ls [.int r3]) rfl ?_
  refine lv_iload_n hx hb dX1_movedBy_20 rfl (lv_at hl 2 rfl) ?_
  refine lv_iadd hx hb dX1_movedBy_21 ?_
  refine lv_bipush (v := (12 : Int32)) hx hb dX1_movedBy_22 (by decide) ?_
  refine lv_irem hx hb dX1_movedBy_24 (by decide) ?_
  refine W.eq (g2 := F0 m 25 ls [.int (jrem (r3 + x1) (12 : Int32))]) rfl ?_
  refine lv_istore_n (lv' := [(3, .int (jrem (r3 + x1) (12 : Int32))), (2, .int (jrem (r1 + x1) (12 : Int32))), (0, .ref (Q 100)), (1, .int x1)]) hx hb dX1_movedBy_25 rfl hl (by decide) rfl (fun ls hl => ?_)
  refine lv_aload_n hx hb dX1_movedBy_26 rfl (lv_at hl 2 rfl) ?_
  refine va_get (D := (dC, dI)) (ci := 0) (v := .int (I 3)) (C := RX1) (T := TX1) (N := 4) hx hb hts hinX1 hown hK hP 0 rfl rfl 3 (by decide) hk21 (fun _ h9 => h9) rfl dX1_movedBy_27 ?_
  refine lv_if_ne (tgt := 60) hx hb dX1_movedBy_30 (by decide) (fun c5 => ?_) (fun c5 => ?_)
  · have hf := (if_neg c5).symm.trans hf
    refine lv_iconst (v := (-1 : Int32)) hx hb dX1_movedBy_60 (by decide) ?_
    refine lv_istore (lv' := [(4, .int (-1 : Int32)), (3, .int (jrem (r3 + x1) (12 : Int32))), (2, .int (jrem (r1 + x1) (12 : Int32))), (0, .ref (Q 100)), (1, .int x1)]) hx hb dX1_movedBy_61 hl (by decide) rfl (fun ls hl => ?_)
    refine lv_iconst (v := (-1 : Int32)) hx hb dX1_movedBy_63 (by decide) ?_
    refine lv_istore (lv' := [(5, .int (-1 : Int32)), (4, .int (-1 : Int32)), (3, .int (jrem (r3 + x1) (12 : Int32))), (2, .int (jrem (r1 + x1) (12 : Int32))), (0, .ref (Q 100)), (1, .int x1)]) hx hb dX1_movedBy_64 hl (by decide) rfl (fun ls hl => ?_)
    refine lv_iconst (v := (0 : Int32)) hx hb dX1_movedBy_66 (by decide) ?_
    refine lv_istore (lv' := [(6, .int (0 : Int32)), (5, .int (-1 : Int32)), (4, .int (-1 : Int32)), (3, .int (jrem (r3 + x1) (12 : Int32))), (2, .int (jrem (r1 + x1) (12 : Int32))), (0, .ref (Q 100)), (1, .int x1)]) hx hb dX1_movedBy_67 hl (by decide) rfl (fun ls hl => ?_)
    refine lv_iconst (v := (0 : Int32)) hx hb dX1_movedBy_69 (by decide) ?_
    refine lv_istore (lv' := [(7, .int (0 : Int32)), (6, .int (0 : Int32)), (5, .int (-1 : Int32)), (4, .int (-1 : Int32)), (3, .int (jrem (r3 + x1) (12 : Int32))), (2, .int (jrem (r1 + x1) (12 : Int32))), (0, .ref (Q 100)), (1, .int x1)]) hx hb dX1_movedBy_70 hl (by decide) rfl (fun ls hl => ?_)
    exact sg72  FU I (jrem (r1 + x1) (12 : Int32)) (jrem (r3 + x1) (12 : Int32)) (-1 : Int32) (-1 : Int32) (0 : Int32) (0 : Int32) s.heap [] ls hf hP hD hS (lv_sub hl [6, 5, 4, 3, 2, 1, 0] rfl)
  · have hf := (if_pos c5).symm.trans hf
    refine lv_iload_n hx hb dX1_movedBy_33 rfl (lv_at hl 1 rfl) ?_
    refine lv_aload_n hx hb dX1_movedBy_34 rfl (lv_at hl 2 rfl) ?_
    refine va_get (D := (dC, dI)) (ci := 0) (v := .int (I 1)) (C := RX1) (T := TX1) (N := 4) hx hb hts hinX1 hown hK hP 0 rfl rfl 1 (by decide) hk15 (fun _ h9 => h9) rfl dX1_movedBy_35 ?_
    obtain ⟨r6, hc7, hf⟩ := of_bind_some hf
    refine W.callR (r := r6) (W.runS (As := [.int (jrem (r1 + x1) (12 : Int32)), .int (I 1)]) (rest := []) ⟨hx, hb, hml, hown, hts⟩ (mX3_spelt l en (jrem (r1 + x1) (12 : Int32)) (I 1) r6 hc7) (va_cwS 2 hts gX1_movedBy_X3_spelt rfl rfl rfl (by decide +kernel) ⟨Nat.le_of_ble_eq_true rfl, Nat.le_of_ble_eq_true rfl⟩) ⟨blindS, fun U hU hW => ⟨rfl, cE_read hE hS hW hU⟩⟩ rfl rfl hl.1 rfl (lv_room (Nat.le_of_ble_eq_true rfl)) dX1_movedBy_38 ⟨Nat.zero_le _, Nat.zero_le _⟩) ?_
    refine W.eq (g2 := F0 m 41 ls [.int r6]) rfl ?_
    refine lv_istore (lv' := [(4, .int r6), (3, .int (jrem (r3 + x1) (12 : Int32))), (2, .int (jrem (r1 + x1) (12 : Int32))), (0, .ref (Q 100)), (1, .int x1)]) hx hb dX1_movedBy_41 hl (by decide) rfl (fun ls hl => ?_)
    refine va_new (ci := 0) (fs := [.int 0, .int 0, .int 0, .int 0]) (C := RX1) (T := TX1) (N := 4) hx hb hts hinX1 tyX1 tyX1_ok hown (hts (.classLink RX1 10 RX1) (by decide +kernel)) (hts (.instantiable RX1 4) (by decide +kernel)) (hts (.initialized RX1) (by decide +kernel)) hK hP hD hS hA rfl (fun j hj => by rcases (show j = 0 ∨ j = 1 ∨ j = 2 ∨ j = 3 by omega) with rfl | rfl | rfl | rfl <;> rfl) (Nat.le_of_ble_eq_true rfl) (Nat.le_of_ble_eq_true rfl) dX1_movedBy_43 (fun q8 H hP hD hS => ?_)
    have hP : va_P (dC, dI) vwCl ((wK cI Q I) ++ wK cI (fun _ => q8) (fun _ => 0)) H := hP
    have hD : va_D AA ((wK cI Q I) ++ wK cI (fun _ => q8) (fun _ => 0)) := hD
    refine lv_dup hx hb dX1_movedBy_46 rfl ?_
    refine lv_iload hx hb dX1_movedBy_47 (lv_at hl 0 rfl) ?_
    refine lv_aload_n hx hb dX1_movedBy_49 rfl (lv_at hl 3 rfl) ?_
    refine va_get (D := (dC, dI)) (ci := 0) (v := .int (I 1)) (C := RX1) (T := TX1) (N := 4) hx hb hts hinX1 hown hK hP 0 rfl rfl 1 (by decide) hk15 (fun _ h9 => h9) rfl dX1_movedBy_50 ?_
    refine lv_iload hx hb dX1_movedBy_53 (lv_at hl 0 rfl) ?_
    refine lv_iconst (v := (0 : Int32)) hx hb dX1_movedBy_55 (by decide) ?_
    have hPs : va_P (dC, dI) vwCl ((wK cI Q I) ++ (wK cI (fun _ => q8) (fun _ => 0) ++ [])) H := hP
    have hDs : va_D AA ((wK cI Q I) ++ (wK cI (fun _ => q8) (fun _ => 0) ++ [])) := hD
    have hF9 := va_freeMid hDs hS hA
    refine va_callv (va_runI (As := [.int r6, .int (I 1), .int r6, .int (0 : Int32)]) (rest := [.ref q8]) ⟨hx, hb, hml, hown, hts⟩ (mX1_init l dC dI cI (fun _ => q8) (fun _ => 0) r6 (I 1) r6 (0 : Int32) (Or.inl rfl) H.size) (cwI 4 hts gX1_movedBy_X1_init rfl rfl rfl (hts (.initialized RX1) (by decide +kernel)) (hts (.methodLink RX1 54 yX1_init) (by decide +kernel)) (hts (.instanceMethod yX1_init) (by decide +kernel)) rfl (by decide +kernel) ⟨Nat.le_of_ble_eq_true rfl, Nat.le_of_ble_eq_true rfl⟩) ⟨blindW, fun U hU hW => ⟨rfl, by rw [hU], by rw [hU]; exact hPs.mid, va_K.moved hW.alike hK, hDs.mid.weaken (fun _ _ _ _ => trivial)⟩⟩ rfl rfl hl.1 rfl (lv_room (Nat.le_of_ble_eq_true rfl)) dX1_movedBy_56 ⟨Nat.le_of_ble_eq_true rfl, Nat.le_of_ble_eq_true rfl⟩) hS (fun q _ h => hF9 q h) hF9 (fun u t H locs ht hvm hw hB hz1 hk1 hS => ?_)
    cases hw
    obtain ⟨hP1, hK9, hD1⟩ := hB
    rw [ht] at hP1
    obtain ⟨hP, hD⟩ := va_joinMid hPs hDs hk1 hF9 hP1 hD1
    have hP : va_P (dC, dI) vwCl ((wK cI Q I) ++ nwc (some q8) (some (mkc r6 (I 1) r6 (0 : Int32)))) H := hP
    have hD : va_D AA ((wK cI Q I) ++ nwc (some q8) (some (mkc r6 (I 1) r6 (0 : Int32)))) := hD
    refine W.widen (k := 1) (n := 4) (Nat.le_of_ble_eq_true rfl) (Nat.le_of_ble_eq_true rfl) ?_
    exact W.aret (v := .ref q8) hx hb hr (Or.inl ⟨_, rfl⟩) (Or.inr ⟨_, rfl⟩) (fun t ht hW => ⟨⟨(some q8), ((some q8), (some (mkc r6 (I 1) r6 (0 : Int32))), (I)), rfl, ⟨rfl, Option.some.inj hf, by rw [← Option.some.inj hf]; rfl⟩, by rw [ht]; exact hP, va_K.moved hW.alike hK, hD⟩, hS.F ht⟩) hS.2.2 dX1_movedBy_59
def fX5_read  (I : Nat → Int32) (A : Nat → Nat → Int32)  : Option (Option (Nat → Int32) × (Nat → Int32) × (Nat → Nat → Int32)) :=
  ((fX5_readNote (upd I 2 (0 : Int32)) A).bind fun (r4, I2, A3) => (if r4 = (-1 : Int32) then (some (none, (I2, A3))) else ((fX5_readKindAndSize I2 A3).bind fun (r10, I8, A9) => ((fX5_readChanges (upd I8 3 r10) A9).bind fun (r15, I13, A14) => (if r15 = 0 then (some (none, (I13, A14))) else (if (I13 2) = (I13 1) then (some ((some (mkc r4 (I13 3) r4 (0 : Int32))), (I13, A14))) else ((fX5_byteAt I13 A14 (I13 2)).bind fun r19 => (if r19 = (47 : Int32) then ((fX5_readNote (upd I13 2 ((I13 2) + (1 : Int32))) A14).bind fun (r25, I23, A24) => (if r25 = (-1 : Int32) then (some (none, (I23, A24))) else (if (I23 1) ≤ (I23 2) then (some ((some (mkc r4 (I23 3) r25 (1 : Int32))), (I23, A24))) else (some (none, (I23, A24)))))) else (some (none, (I13, A14)))))))))))
set_option maxRecDepth 100000 in
set_option maxHeartbeats 4000000 in
theorem mX5_read (l : Launch) (en : Nat → Nat) (dC : Nat → ClassId) (dI : Nat → Nat → Nat) (cI : ClassId) (Q : Nat → Nat)  (I : Nat → Int32) (A : Nat → Nat → Int32)  (sz : Nat) (z : Option (Nat → Int32) × (Nat → Int32) × (Nat → Nat → Int32)) (hf : fX5_read I A = some z) : Met l yX5_read wsX5_read ({ frames := 8, cells := 1, slots := 4, locals := 181 }) (va_Pc [.ref (Q 100)] (fun U => U.heap.size = sz ∧ va_P (dC, dI) vwCl (wT cI Q I A) U.heap ∧ va_K (dC, dI) vwCl [(cI, .int)] U ∧ va_D (fun _ => True) (wT cI Q I A) ∧ cE en (va_A (wT cI Q I A) sz) U U.heap)) (va_Qq (fun (r : Option Nat) (u : Option Nat × Option (Nat → Int32) × (Nat → Int32) × (Nat → Nat → Int32)) => u.1 = r ∧ u.2 = z ∧ r.isSome = z.1.isSome) (fun (u : Option Nat × Option (Nat → Int32) × (Nat → Int32) × (Nat → Nat → Int32)) (t : State) => va_P (dC, dI) vwCl (wT cI Q u.2.2.1 u.2.2.2 ++ nwc u.1 u.2.1) t.heap ∧ va_K (dC, dI) vwCl [(cI, .int)] t ∧ va_D (va_A (wT cI Q I A) sz) (wT cI Q u.2.2.1 u.2.2.2 ++ nwc u.1 u.2.1)) (va_A (wT cI Q I A) sz)) 1 4 (va_A (wT cI Q I A) sz) := by
  refine Met.ofW (cc := cX5_read) (maxL := 3) (ret := (some (.object "LeadSheets$Chord"))) (by decide) rfl ?_
  intro p e s m args below meth c s₁ BL hml hv
  obtain ⟨rfl, hsz, hP, hK, hD0, hE⟩ := hv
  have hx := BL.exec
  have hb := BL.bytes
  have hr := BL.returns
  have hts := atoms_spec (ws := wsX5_read) BL.pre
  have hown : s.vm.findClass RX5 = some m.cls := findClass_of_methodNamed BL.named
  have hlocks := BL.notSynchronized
  have hinX1 : ∀ w ∈ u_ws RX1 TX1 4, w ∈ wsX5_read := by decide +kernel
  have hinX5 : ∀ w ∈ u_ws RX5 TX5 4, w ∈ wsX5_read := by decide +kernel
  have hk17 := hts (.fieldLink RX5 17 "LeadSheets$Tape" "length" "I") (by decide +kernel)
  have hk21 := hts (.fieldLink RX5 21 "LeadSheets$Tape" "place" "I") (by decide +kernel)
  have hk31 := hts (.fieldLink RX5 31 "LeadSheets$Tape" "steps" "I") (by decide +kernel)
  subst hsz
  have hD := hD0.self (sz := s.heap.size)
  generalize hAe : va_A (wT cI Q I A) s.heap.size = AA at hD hE ⊢
  have hA : ∀ q : Nat, s.heap.size ≤ q → AA q := fun q h => by rw [← hAe]; exact Or.inr h
  have hS : va_S AA s.heap s.heap [] := va_S.rf
  have hl := lv_entry ([.ref (Q 100)]) (n := 3) (Nat.le_of_ble_eq_true rfl)
  rw [lg_entry_eq]
  generalize (lg_sl ([.ref (Q 100)]) ++ List.replicate (3 - (lg_sl ([.ref (Q 100)])).length) Slot.unset).toArray = ls at hl ⊢
  have hl : lv_has ls 3 [(0, .ref (Q 100))] := hl
  unfold fX5_read at hf
  refine lv_aload_n hx hb dX5_read_0 rfl (lv_at hl 0 rfl) ?_
  refine lv_iconst (v := (0 : Int32)) hx hb dX5_read_1 (by decide) ?_
  refine va_put (D := (dC, dI)) (ci := 2) (v := .int (0 : Int32)) (ty := .int) (C := RX5) (T := TX5) (N := 4) hx hb hts hinX5 tyX5 tyX5_ok nmX5 hown hK hP hD hS 0 (fs := (oT Q I)) rfl rfl 2 (by decide) hk21 (fun _ h9 => h9) rfl (by decide +kernel) rfl rfl (Nat.le_of_ble_eq_true rfl) dX5_read_2 (fun H locs hP hD hS => ?_)
  have hP : va_P (dC, dI) vwCl (wT cI Q (upd I 2 (0 : Int32)) A) H := Eq.mp (congrArg (fun w => va_P (dC, dI) vwCl w H) (wTI_2 cI Q I A (0 : Int32))) hP
  have hD : va_D AA (wT cI Q (upd I 2 (0 : Int32)) A) := Eq.mp (congrArg (fun w => va_D AA w) (wTI_2 cI Q I A (0 : Int32))) hD
  refine lv_aload_n hx hb dX5_read_5 rfl (lv_at hl 0 rfl) ?_
  obtain ⟨⟨r4, I2, A3⟩, hc1, hf⟩ := of_bind_some hf
  have hF5 := va_freeAll hD hS hA
  refine va_calli (va_runV (As := []) (rest := []) ⟨hx, hb, hml, hown, hts⟩ (mX5_readNote l en dC dI cI Q (upd I 2 (0 : Int32)) A H.size _ hc1) (cwV 0 hts gX5_read_X5_readNote rfl rfl rfl (by decide +kernel) ⟨Nat.le_of_ble_eq_true rfl, Nat.le_of_ble_eq_true rfl⟩) ⟨blindWE, va_recv hK hP (ci := 2) (q0 := 0) rfl rfl, fun U hU hW => ⟨rfl, by rw [hU], by rw [hU]; exact hP, va_K.moved hW.alike hK, hD.weaken (fun _ _ _ _ => trivial), cE_sub hE hS hW hU hF5⟩⟩ rfl rfl hl.1 rfl (lv_room (Nat.le_of_ble_eq_true rfl)) dX5_read_6 ⟨Nat.zero_le _, Nat.zero_le _⟩) hS (fun q _ h => hF5 q h) hF5 (fun r0 u t H locs ht hvm hw hB hz1 hk1 hS => ?_)
  cases hw
  obtain ⟨hP, hK9, hD⟩ := hB
  rw [ht] at hP
  have hP : va_P (dC, dI) vwCl (wT cI Q I2 A3) H := hP
  have hD : va_D AA (wT cI Q I2 A3) := hD.weaken (fun _ _ _ h => hF5 _ h)
  refine lv_istore_n (lv' := [(1, .int r4), (0, .ref (Q 100))]) hx hb dX5_read_9 rfl hl (by decide) rfl (fun ls hl => ?_)
  refine lv_iload_n hx hb dX5_read_10 rfl (lv_at hl 0 rfl) ?_
  refine lv_iconst (v := (-1 : Int32)) hx hb dX5_read_11 (by decide) ?_
  refine lv_icmp_ne (tgt := 17) hx hb dX5_read_12 (by decide) (fun c6 => ?_) (fun c6 => ?_)
  · have hf := (if_neg c6).symm.trans hf
    refine lv_aload_n hx hb dX5_read_17 rfl (lv_at hl 1 rfl) ?_
    refine lv_aload_n hx hb dX5_read_18 rfl (lv_at hl 1 rfl) ?_
    obtain ⟨⟨r10, I8, A9⟩, hc7, hf⟩ := of_bind_some hf
    have hF11 := va_freeAll hD hS hA
    refine va_calli (va_runV (As := []) (rest := [.ref (Q 100)]) ⟨hx, hb, hml, hown, hts⟩ (mX5_readKindAndSize l en dC dI cI Q I2 A3 H.size _ hc7) (cwV 0 hts gX5_read_X5_readKindAndSize rfl rfl rfl (by decide +kernel) ⟨Nat.le_of_ble_eq_true rfl, Nat.le_of_ble_eq_true rfl⟩) ⟨blindWE, va_recv hK hP (ci := 2) (q0 := 0) rfl rfl, fun U hU hW => ⟨rfl, by rw [hU], by rw [hU]; exact hP, va_K.moved hW.alike hK, hD.weaken (fun _ _ _ _ => trivial), cE_sub hE hS hW hU hF11⟩⟩ rfl rfl hl.1 rfl (lv_room (Nat.le_of_ble_eq_true rfl)) dX5_read_19 ⟨Nat.zero_le _, Nat.zero_le _⟩) hS (fun q _ h => hF11 q h) hF11 (fun r0 u t H locs ht hvm hw hB hz1 hk1 hS => ?_)
    cases hw
    obtain ⟨hP, hK9, hD⟩ := hB
    rw [ht] at hP
    have hP : va_P (dC, dI) vwCl (wT cI Q I8 A9) H := hP
    have hD : va_D AA (wT cI Q I8 A9) := hD.weaken (fun _ _ _ h => hF11 _ h)
    refine va_put (D := (dC, dI)) (ci := 2) (v := .int r10) (ty := .int) (C := RX5) (T := TX5) (N := 4) hx hb hts hinX5 tyX5 tyX5_ok nmX5 hown hK hP hD hS 0 (fs := (oT Q I8)) rfl rfl 3 (by decide) hk31 (fun _ h9 => h9) rfl (by decide +kernel) rfl rfl (Nat.le_of_ble_eq_true rfl) dX5_read_22 (fun H locs hP hD hS => ?_)
    have hP : va_P (dC, dI) vwCl (wT cI Q (upd I8 3 r10) A9) H := Eq.mp (congrArg (fun w => va_P (dC, dI) vwCl w H) (wTI_3 cI Q I8 A9 r10)) hP
    have hD : va_D AA (wT cI Q (upd I8 3 r10) A9) := Eq.mp (congrArg (fun w => va_D AA w) (wTI_3 cI Q I8 A9 r10)) hD
    refine lv_aload_n hx hb dX5_read_25 rfl (lv_at hl 1 rfl) ?_
    obtain ⟨⟨r15, I13, A14⟩, hc12, hf⟩ := of_bind_some hf
    have hF16 := va_freeAll hD hS hA
    refine va_calli (va_runV (As := []) (rest := []) ⟨hx, hb, hml, hown, hts⟩ (mX5_readChanges l en dC dI cI Q (upd I8 3 r10) A9 H.size _ hc12) (cwV 0 hts gX5_read_X5_readChanges rfl rfl rfl (by decide +kernel) ⟨Nat.le_of_ble_eq_true rfl, Nat.le_of_ble_eq_true rfl⟩) ⟨blindWE, va_recv hK hP (ci := 2) (q0 := 0) rfl rfl, fun U hU hW => ⟨rfl, by rw [hU], by rw [hU]; exact hP, va_K.moved hW.alike hK, hD.weaken (fun _ _ _ _ => trivial), cE_sub hE hS hW hU hF16⟩⟩ rfl rfl hl.1 rfl (lv_room (Nat.le_of_ble_eq_true rfl)) dX5_read_26 ⟨Nat.zero_le _, Nat.zero_le _⟩) hS (fun q _ h => hF16 q h) hF16 (fun r0 u t H locs ht hvm hw hB hz1 hk1 hS => ?_)
    cases hw
    obtain ⟨hP, hK9, hD⟩ := hB
    rw [ht] at hP
    have hP : va_P (dC, dI) vwCl (wT cI Q I13 A14) H := hP
    have hD : va_D AA (wT cI Q I13 A14) := hD.weaken (fun _ _ _ h => hF16 _ h)
    refine lv_if_ne (tgt := 34) hx hb dX5_read_29 (by decide) (fun c17 => ?_) (fun c17 => ?_)
    · have hf := (if_neg c17).symm.trans hf
      refine lv_aload_n hx hb dX5_read_34 rfl (lv_at hl 1 rfl) ?_
      refine va_get (D := (dC, dI)) (ci := 2) (v := .int (I13 2)) (C := RX5) (T := TX5) (N := 4) hx hb hts hinX5 hown hK hP 0 rfl rfl 2 (by decide) hk21 (fun _ h9 => h9) rfl dX5_read_35 ?_
      refine lv_aload_n hx hb dX5_read_38 rfl (lv_at hl 1 rfl) ?_
      refine va_get (D := (dC, dI)) (ci := 2) (v := .int (I13 1)) (C := RX5) (T := TX5) (N := 4) hx hb hts hinX5 hown hK hP 0 rfl rfl 1 (by decide) hk17 (fun _ h9 => h9) rfl dX5_read_39 ?_
      refine lv_icmp_ne (tgt := 60) hx hb dX5_read_42 (by decide) (fun c18 => ?_) (fun c18 => ?_)
      · have hf := (if_neg c18).symm.trans hf
        refine lv_aload_n hx hb dX5_read_60 rfl (lv_at hl 1 rfl) ?_
        refine lv_aload_n hx hb dX5_read_61 rfl (lv_at hl 1 rfl) ?_
        refine va_get (D := (dC, dI)) (ci := 2) (v := .int (I13 2)) (C := RX5) (T := TX5) (N := 4) hx hb hts hinX5 hown hK hP 0 rfl rfl 2 (by decide) hk21 (fun _ h9 => h9) rfl dX5_read_62 ?_
        obtain ⟨r19, hc20, hf⟩ := of_bind_some hf
        refine W.callR (r := r19) (W.runV (As := [.int (I13 2)]) (rest := []) ⟨hx, hb, hml, hown, hts⟩ (mX5_byteAt l dC dI cI Q I13 A14 (I13 2) r19 hc20) (cwV 1 hts gX5_read_X5_byteAt rfl rfl rfl (by decide +kernel) ⟨Nat.le_of_ble_eq_true rfl, Nat.le_of_ble_eq_true rfl⟩) ⟨blindR, va_recv hK hP (ci := 2) (q0 := 0) rfl rfl, fun U hU hW => ⟨rfl, by rw [hU]; exact hP, va_K.moved hW.alike hK⟩⟩ rfl rfl hl.1 rfl (lv_room (Nat.le_of_ble_eq_true rfl)) dX5_read_65 ⟨Nat.zero_le _, Nat.zero_le _⟩) ?_
        refine W.eq (g2 := F0 m 68 ls [.int r19]) rfl ?_
        refine lv_bipush (v := (47 : Int32)) hx hb dX5_read_68 (by decide) ?_
        refine lv_icmp_eq (tgt := 75) hx hb dX5_read_70 (by decide) (fun c21 => ?_) (fun c21 => ?_)
        · have hf := (if_pos c21).symm.trans hf
          refine lv_aload_n hx hb dX5_read_75 rfl (lv_at hl 1 rfl) ?_
          refine lv_dup hx hb dX5_read_76 rfl ?_
          refine va_get (D := (dC, dI)) (ci := 2) (v := .int (I13 2)) (C := RX5) (T := TX5) (N := 4) hx hb hts hinX5 hown hK hP 0 rfl rfl 2 (by decide) hk21 (fun _ h9 => h9) rfl dX5_read_77 ?_
          refine lv_iconst (v := (1 : Int32)) hx hb dX5_read_80 (by decide) ?_
          refine lv_iadd hx hb dX5_read_81 ?_
          refine va_put (D := (dC, dI)) (ci := 2) (v := .int ((I13 2) + (1 : Int32))) (ty := .int) (C := RX5) (T := TX5) (N := 4) hx hb hts hinX5 tyX5 tyX5_ok nmX5 hown hK hP hD hS 0 (fs := (oT Q I13)) rfl rfl 2 (by decide) hk21 (fun _ h9 => h9) rfl (by decide +kernel) rfl rfl (Nat.le_of_ble_eq_true rfl) dX5_read_82 (fun H locs hP hD hS => ?_)
          have hP : va_P (dC, dI) vwCl (wT cI Q (upd I13 2 ((I13 2) + (1 : Int32))) A14) H := Eq.mp (congrArg (fun w => va_P (dC, dI) vwCl w H) (wTI_2 cI Q I13 A14 ((I13 2) + (1 : Int32)))) hP
          have hD : va_D AA (wT cI Q (upd I13 2 ((I13 2) + (1 : Int32))) A14) := Eq.mp (congrArg (fun w => va_D AA w) (wTI_2 cI Q I13 A14 ((I13 2) + (1 : Int32)))) hD
          refine lv_aload_n hx hb dX5_read_85 rfl (lv_at hl 1 rfl) ?_
          obtain ⟨⟨r25, I23, A24⟩, hc22, hf⟩ := of_bind_some hf
          have hF26 := va_freeAll hD hS hA
          refine va_calli (va_runV (As := []) (rest := []) ⟨hx, hb, hml, hown, hts⟩ (mX5_readNote l en dC dI cI Q (upd I13 2 ((I13 2) + (1 : Int32))) A14 H.size _ hc22) (cwV 0 hts gX5_read_X5_readNote rfl rfl rfl (by decide +kernel) ⟨Nat.le_of_ble_eq_true rfl, Nat.le_of_ble_eq_true rfl⟩) ⟨blindWE, va_recv hK hP (ci := 2) (q0 := 0) rfl rfl, fun U hU hW => ⟨rfl, by rw [hU], by rw [hU]; exact hP, va_K.moved hW.alike hK, hD.weaken (fun _ _ _ _ => trivial), cE_sub hE hS hW hU hF26⟩⟩ rfl rfl hl.1 rfl (lv_room (Nat.le_of_ble_eq_true rfl)) dX5_read_86 ⟨Nat.zero_le _, Nat.zero_le _⟩) hS (fun q _ h => hF26 q h) hF26 (fun r0 u t H locs ht hvm hw hB hz1 hk1 hS => ?_)
          cases hw
          obtain ⟨hP, hK9, hD⟩ := hB
          rw [ht] at hP
          have hP : va_P (dC, dI) vwCl (wT cI Q I23 A24) H := hP
          have hD : va_D AA (wT cI Q I23 A24) := hD.weaken (fun _ _ _ h => hF26 _ h)
          refine lv_istore_n (lv' := [(2, .int r25), (1, .int r4), (0, .ref (Q 100))]) hx hb dX5_read_89 rfl hl (by decide) rfl (fun ls hl => ?_)
          refine lv_iload_n hx hb dX5_read_90 rfl (lv_at hl 0 rfl) ?_
          refine lv_iconst (v := (-1 : Int32)) hx hb dX5_read_91 (by decide) ?_
          refine lv_icmp_eq (tgt := 106) hx hb dX5_read_92 (by decide) (fun c27 => ?_) (fun c27 => ?_)
          · have hf := (if_pos c27).symm.trans hf
            refine lv_null hx hb dX5_read_106 ?_
            refine lv_goto (tgt := 124) hx hb dX5_read_107 (by decide) ?_
            refine W.widen (k := 1) (n := 4) (Nat.le_of_ble_eq_true rfl) (Nat.le_of_ble_eq_true rfl) ?_
            exact W.aret (v := .null) hx hb hr (Or.inl ⟨_, rfl⟩) (Or.inl rfl) (fun t ht hW => ⟨⟨none, (none, none, (I23, A24)), rfl, ⟨rfl, Option.some.inj hf, by rw [← Option.some.inj hf]; rfl⟩, by rw [ht]; exact hP, va_K.moved hW.alike hK, hD⟩, hS.F ht⟩) hS.2.2 dX5_read_124
          · have hf := (if_neg c27).symm.trans hf
            refine lv_aload_n hx hb dX5_read_95 rfl (lv_at hl 2 rfl) ?_
            refine va_get (D := (dC, dI)) (ci := 2) (v := .int (I23 2)) (C := RX5) (T := TX5) (N := 4) hx hb hts hinX5 hown hK hP 0 rfl rfl 2 (by decide) hk21 (fun _ h9 => h9) rfl dX5_read_96 ?_
            refine lv_aload_n hx hb dX5_read_99 rfl (lv_at hl 2 rfl) ?_
            refine va_get (D := (dC, dI)) (ci := 2) (v := .int (I23 1)) (C := RX5) (T := TX5) (N := 4) hx hb hts hinX5 hown hK hP 0 rfl rfl 1 (by decide) hk17 (fun _ h9 => h9) rfl dX5_read_100 ?_
            refine lv_icmp_ge (tgt := 110) hx hb dX5_read_103 (by decide) (fun c28 => ?_) (fun c28 => ?_)
            · have hf := (if_pos c28).symm.trans hf
              refine va_new (ci := 0) (fs := [.int 0, .int 0, .int 0, .int 0]) (C := RX1) (T := TX1) (N := 4) hx hb hts hinX1 tyX1 tyX1_ok hown (hts (.classLink RX5 38 RX1) (by decide +kernel)) (hts (.instantiable RX1 4) (by decide +kernel)) (hts (.initialized RX1) (by decide +kernel)) hK hP hD hS hA rfl (fun j hj => by rcases (show j = 0 ∨ j = 1 ∨ j = 2 ∨ j = 3 by omega) with rfl | rfl | rfl | rfl <;> rfl) (Nat.le_of_ble_eq_true rfl) (Nat.le_of_ble_eq_true rfl) dX5_read_110 (fun q29 H hP hD hS => ?_)
              have hP : va_P (dC, dI) vwCl ((wT cI Q I23 A24) ++ wK cI (fun _ => q29) (fun _ => 0)) H := hP
              have hD : va_D AA ((wT cI Q I23 A24) ++ wK cI (fun _ => q29) (fun _ => 0)) := hD
              refine lv_dup hx hb dX5_read_113 rfl ?_
              refine lv_iload_n hx hb dX5_read_114 rfl (lv_at hl 1 rfl) ?_
              refine lv_aload_n hx hb dX5_read_115 rfl (lv_at hl 2 rfl) ?_
              refine va_get (D := (dC, dI)) (ci := 2) (v := .int (I23 3)) (C := RX5) (T := TX5) (N := 4) hx hb hts hinX5 hown hK hP 0 rfl rfl 3 (by decide) hk31 (fun _ h9 => h9) rfl dX5_read_116 ?_
              refine lv_iload_n hx hb dX5_read_119 rfl (lv_at hl 0 rfl) ?_
              refine lv_iconst (v := (1 : Int32)) hx hb dX5_read_120 (by decide) ?_
              have hPs : va_P (dC, dI) vwCl ((wT cI Q I23 A24) ++ (wK cI (fun _ => q29) (fun _ => 0) ++ [])) H := hP
              have hDs : va_D AA ((wT cI Q I23 A24) ++ (wK cI (fun _ => q29) (fun _ => 0) ++ [])) := hD
              have hF30 := va_freeMid hDs hS hA
              refine va_callv (va_runI (As := [.int r4, .int (I23 3), .int r25, .int (1 : Int32)]) (rest := [.ref q29]) ⟨hx, hb, hml, hown, hts⟩ (mX1_init l dC dI cI (fun _ => q29) (fun _ => 0) r4 (I23 3) r25 (1 : Int32) (Or.inr rfl) H.size) (cwI 4 hts gX5_read_X1_init rfl rfl rfl (hts (.initialized RX1) (by decide +kernel)) (hts (.methodLink RX5 40 yX1_init) (by decide +kernel)) (hts (.instanceMethod yX1_init) (by decide +kernel)) rfl (by decide +kernel) ⟨Nat.le_of_ble_eq_true rfl, Nat.le_of_ble_eq_true rfl⟩) ⟨blindW, fun U hU hW => ⟨rfl, by rw [hU], by rw [hU]; exact hPs.mid, va_K.moved hW.alike hK, hDs.mid.weaken (fun _ _ _ _ => trivial)⟩⟩ rfl rfl hl.1 rfl (lv_room (Nat.le_of_ble_eq_true rfl)) dX5_read_121 ⟨Nat.le_of_ble_eq_true rfl, Nat.le_of_ble_eq_true rfl⟩) hS (fun q _ h => hF30 q h) hF30 (fun u t H locs ht hvm hw hB hz1 hk1 hS => ?_)
              cases hw
              obtain ⟨hP1, hK9, hD1⟩ := hB
              rw [ht] at hP1
              obtain ⟨hP, hD⟩ := va_joinMid hPs hDs hk1 hF30 hP1 hD1
              have hP : va_P (dC, dI) vwCl ((wT cI Q I23 A24) ++ nwc (some q29) (some (mkc r4 (I23 3) r25 (1 : Int32)))) H := hP
              have hD : va_D AA ((wT cI Q I23 A24) ++ nwc (some q29) (some (mkc r4 (I23 3) r25 (1 : Int32)))) := hD
              refine W.widen (k := 1) (n := 4) (Nat.le_of_ble_eq_true rfl) (Nat.le_of_ble_eq_true rfl) ?_
              exact W.aret (v := .ref q29) hx hb hr (Or.inl ⟨_, rfl⟩) (Or.inr ⟨_, rfl⟩) (fun t ht hW => ⟨⟨(some q29), ((some q29), (some (mkc r4 (I23 3) r25 (1 : Int32))), (I23, A24)), rfl, ⟨rfl, Option.some.inj hf, by rw [← Option.some.inj hf]; rfl⟩, by rw [ht]; exact hP, va_K.moved hW.alike hK, hD⟩, hS.F ht⟩) hS.2.2 dX5_read_124
            · have hf := (if_neg c28).symm.trans hf
              refine lv_null hx hb dX5_read_106 ?_
              refine lv_goto (tgt := 124) hx hb dX5_read_107 (by decide) ?_
              refine W.widen (k := 1) (n := 4) (Nat.le_of_ble_eq_true rfl) (Nat.le_of_ble_eq_true rfl) ?_
              exact W.aret (v := .null) hx hb hr (Or.inl ⟨_, rfl⟩) (Or.inl rfl) (fun t ht hW => ⟨⟨none, (none, none, (I23, A24)), rfl, ⟨rfl, Option.some.inj hf, by rw [← Option.some.inj hf]; rfl⟩, by rw [ht]; exact hP, va_K.moved hW.alike hK, hD⟩, hS.F ht⟩) hS.2.2 dX5_read_124
        · have hf := (if_neg c21).symm.trans hf
          refine lv_null hx hb dX5_read_73 ?_
          refine W.widen (k := 1) (n := 4) (Nat.le_of_ble_eq_true rfl) (Nat.le_of_ble_eq_true rfl) ?_
          exact W.aret (v := .null) hx hb hr (Or.inl ⟨_, rfl⟩) (Or.inl rfl) (fun t ht hW => ⟨⟨none, (none, none, (I13, A14)), rfl, ⟨rfl, Option.some.inj hf, by rw [← Option.some.inj hf]; rfl⟩, by rw [ht]; exact hP, va_K.moved hW.alike hK, hD⟩, hS.F ht⟩) hS.2.2 dX5_read_74
      · have hf := (if_pos c18).symm.trans hf
        refine va_new (ci := 0) (fs := [.int 0, .int 0, .int 0, .int 0]) (C := RX1) (T := TX1) (N := 4) hx hb hts hinX1 tyX1 tyX1_ok hown (hts (.classLink RX5 38 RX1) (by decide +kernel)) (hts (.instantiable RX1 4) (by decide +kernel)) (hts (.initialized RX1) (by decide +kernel)) hK hP hD hS hA rfl (fun j hj => by rcases (show j = 0 ∨ j = 1 ∨ j = 2 ∨ j = 3 by omega) with rfl | rfl | rfl | rfl <;> rfl) (Nat.le_of_ble_eq_true rfl) (Nat.le_of_ble_eq_true rfl) dX5_read_45 (fun q31 H hP hD hS => ?_)
        have hP : va_P (dC, dI) vwCl ((wT cI Q I13 A14) ++ wK cI (fun _ => q31) (fun _ => 0)) H := hP
        have hD : va_D AA ((wT cI Q I13 A14) ++ wK cI (fun _ => q31) (fun _ => 0)) := hD
        refine lv_dup hx hb dX5_read_48 rfl ?_
        refine lv_iload_n hx hb dX5_read_49 rfl (lv_at hl 0 rfl) ?_
        refine lv_aload_n hx hb dX5_read_50 rfl (lv_at hl 1 rfl) ?_
        refine va_get (D := (dC, dI)) (ci := 2) (v := .int (I13 3)) (C := RX5) (T := TX5) (N := 4) hx hb hts hinX5 hown hK hP 0 rfl rfl 3 (by decide) hk31 (fun _ h9 => h9) rfl dX5_read_51 ?_
        refine lv_iload_n hx hb dX5_read_54 rfl (lv_at hl 0 rfl) ?_
        refine lv_iconst (v := (0 : Int32)) hx hb dX5_read_55 (by decide) ?_
        have hPs : va_P (dC, dI) vwCl ((wT cI Q I13 A14) ++ (wK cI (fun _ => q31) (fun _ => 0) ++ [])) H := hP
        have hDs : va_D AA ((wT cI Q I13 A14) ++ (wK cI (fun _ => q31) (fun _ => 0) ++ [])) := hD
        have hF32 := va_freeMid hDs hS hA
        refine va_callv (va_runI (As := [.int r4, .int (I13 3), .int r4, .int (0 : Int32)]) (rest := [.ref q31]) ⟨hx, hb, hml, hown, hts⟩ (mX1_init l dC dI cI (fun _ => q31) (fun _ => 0) r4 (I13 3) r4 (0 : Int32) (Or.inl rfl) H.size) (cwI 4 hts gX5_read_X1_init rfl rfl rfl (hts (.initialized RX1) (by decide +kernel)) (hts (.methodLink RX5 40 yX1_init) (by decide +kernel)) (hts (.instanceMethod yX1_init) (by decide +kernel)) rfl (by decide +kernel) ⟨Nat.le_of_ble_eq_true rfl, Nat.le_of_ble_eq_true rfl⟩) ⟨blindW, fun U hU hW => ⟨rfl, by rw [hU], by rw [hU]; exact hPs.mid, va_K.moved hW.alike hK, hDs.mid.weaken (fun _ _ _ _ => trivial)⟩⟩ rfl rfl hl.1 rfl (lv_room (Nat.le_of_ble_eq_true rfl)) dX5_read_56 ⟨Nat.le_of_ble_eq_true rfl, Nat.le_of_ble_eq_true rfl⟩) hS (fun q _ h => hF32 q h) hF32 (fun u t H locs ht hvm hw hB hz1 hk1 hS => ?_)
        cases hw
        obtain ⟨hP1, hK9, hD1⟩ := hB
        rw [ht] at hP1
        obtain ⟨hP, hD⟩ := va_joinMid hPs hDs hk1 hF32 hP1 hD1
        have hP : va_P (dC, dI) vwCl ((wT cI Q I13 A14) ++ nwc (some q31) (some (mkc r4 (I13 3) r4 (0 : Int32)))) H := hP
        have hD : va_D AA ((wT cI Q I13 A14) ++ nwc (some q31) (some (mkc r4 (I13 3) r4 (0 : Int32)))) := hD
        refine W.widen (k := 1) (n := 4) (Nat.le_of_ble_eq_true rfl) (Nat.le_of_ble_eq_true rfl) ?_
        exact W.aret (v := .ref q31) hx hb hr (Or.inl ⟨_, rfl⟩) (Or.inr ⟨_, rfl⟩) (fun t ht hW => ⟨⟨(some q31), ((some q31), (some (mkc r4 (I13 3) r4 (0 : Int32))), (I13, A14)), rfl, ⟨rfl, Option.some.inj hf, by rw [← Option.some.inj hf]; rfl⟩, by rw [ht]; exact hP, va_K.moved hW.alike hK, hD⟩, hS.F ht⟩) hS.2.2 dX5_read_59
    · have hf := (if_pos c17).symm.trans hf
      refine lv_null hx hb dX5_read_32 ?_
      refine W.widen (k := 1) (n := 4) (Nat.le_of_ble_eq_true rfl) (Nat.le_of_ble_eq_true rfl) ?_
      exact W.aret (v := .null) hx hb hr (Or.inl ⟨_, rfl⟩) (Or.inl rfl) (fun t ht hW => ⟨⟨none, (none, none, (I13, A14)), rfl, ⟨rfl, Option.some.inj hf, by rw [← Option.some.inj hf]; rfl⟩, by rw [ht]; exact hP, va_K.moved hW.alike hK, hD⟩, hS.F ht⟩) hS.2.2 dX5_read_33
  · have hf := (if_pos c6).symm.trans hf
    refine lv_null hx hb dX5_read_15 ?_
    refine W.widen (k := 1) (n := 4) (Nat.le_of_ble_eq_true rfl) (Nat.le_of_ble_eq_true rfl) ?_
    exact W.aret (v := .null) hx hb hr (Or.inl ⟨_, rfl⟩) (Or.inl rfl) (fun t ht hW => ⟨⟨none, (none, none, (I2, A3)), rfl, ⟨rfl, Option.some.inj hf, by rw [← Option.some.inj hf]; rfl⟩, by rw [ht]; exact hP, va_K.moved hW.alike hK, hD⟩, hS.F ht⟩) hS.2.2 dX5_read_16
