def fX9_init_714B (B : Nat → Nat → Int64) (k636 : (Nat → Int32) → (Nat → Nat → Int32) → Int32 → Option ((Nat → Int32) × (Nat → Nat → Int32))) (k714 : (Nat → Int32) → (Nat → Nat → Int32) → Int32 → Int32 → Option ((Nat → Int32) × (Nat → Nat → Int32))) (I : Nat → Int32) (A : Nat → Nat → Int32) (v1 : Int32) (v3 : Int32) : Option ((Nat → Int32) × (Nat → Nat → Int32)) :=
  (if (I 26) ≤ v3 then (k636 I A (v1 + (1 : Int32))) else (if gd v3 16 then (if gd (((8 : Int32) * v1) + v3) 160 then (if gd v3 16 then (if gd (((8 : Int32) * v1) + v3) 160 then (k714 I (va_up (va_up A 13 (upd (A 13) (((8 : Int32) * v1) + v3).toNatClampNeg ((A 24) v3.toNatClampNeg))) 14 (upd (A 14) (((8 : Int32) * v1) + v3).toNatClampNeg ((A 25) v3.toNatClampNeg))) v1 (v3 + (1 : Int32))) else none) else none) else none) else none))
def fX9_init_714 (B : Nat → Nat → Int64) (k636 : (Nat → Int32) → (Nat → Nat → Int32) → Int32 → Option ((Nat → Int32) × (Nat → Nat → Int32))) : Nat → ((Nat → Int32) → (Nat → Nat → Int32) → Int32 → Int32 → Option ((Nat → Int32) × (Nat → Nat → Int32)))
  | 0 => fun _ _ _ _ => none
  | n + 1 => fX9_init_714B B k636 (fX9_init_714 B k636 n)
def fX9_init_657B (B : Nat → Nat → Int64) (k636 : (Nat → Int32) → (Nat → Nat → Int32) → Int32 → Option ((Nat → Int32) × (Nat → Nat → Int32))) (k657 : (Nat → Int32) → (Nat → Nat → Int32) → Int32 → Int32 → Option ((Nat → Int32) × (Nat → Nat → Int32))) (I : Nat → Int32) (A : Nat → Nat → Int32) (v1 : Int32) (v2 : Int32) : Option ((Nat → Int32) × (Nat → Nat → Int32)) :=
  (if (I 22) ≤ v2 then ((fX9_readBody B (upd I 23 (0 : Int32)) A).bind fun (r9, I7, A8) => ((fX9_sort B I7 A8).bind fun (I12, A13) => (if gd v1 20 then (fX9_init_714 B k636 FU I12 (va_up A13 15 (upd (A13 15) v1.toNatClampNeg (I12 26))) v1 (0 : Int32)) else none))) else (if gd v1 20 then ((fX9_byteOf ((B 19) v1.toNatClampNeg) v2).bind fun r17 => (if gd v2 64 then (k657 I (va_up A 21 (upd (A 21) v2.toNatClampNeg (vp_nar .byte (r17.toInt8.toInt32)))) v1 (v2 + (1 : Int32))) else none)) else none))
def fX9_init_657 (B : Nat → Nat → Int64) (k636 : (Nat → Int32) → (Nat → Nat → Int32) → Int32 → Option ((Nat → Int32) × (Nat → Nat → Int32))) : Nat → ((Nat → Int32) → (Nat → Nat → Int32) → Int32 → Int32 → Option ((Nat → Int32) × (Nat → Nat → Int32)))
  | 0 => fun _ _ _ _ => none
  | n + 1 => fX9_init_657B B k636 (fX9_init_657 B k636 n)
def fX9_init_636B (B : Nat → Nat → Int64)  (k636 : (Nat → Int32) → (Nat → Nat → Int32) → Int32 → Option ((Nat → Int32) × (Nat → Nat → Int32))) (I : Nat → Int32) (A : Nat → Nat → Int32) (v1 : Int32) : Option ((Nat → Int32) × (Nat → Nat → Int32)) :=
  (if (20 : Int32) ≤ v1 then (some (I, A)) else (if gd v1 20 then ((fX9_lengthOf ((B 19) v1.toNatClampNeg)).bind fun r3 => (fX9_init_657 B k636 FU (upd I 22 r3) A v1 (0 : Int32))) else none))
def fX9_init_636 (B : Nat → Nat → Int64)  : Nat → ((Nat → Int32) → (Nat → Nat → Int32) → Int32 → Option ((Nat → Int32) × (Nat → Nat → Int32)))
  | 0 => fun _ _ _ => none
  | n + 1 => fX9_init_636B B  (fX9_init_636 B  n)
def BM : Nat → Nat → Int64 := fun k => match k with
  | 16 => (vp_updL (vp_updL (vp_updL (vp_updL (vp_updL (vp_updL (vp_updL (fun _ => 0) 0 (109 : Int64)) 1 (45 : Int64)) 2 (6580589 : Int64)) 3 (111 : Int64)) 4 (6387047 : Int64)) 5 (43 : Int64)) 6 (53 : Int64))
  | 17 => (vp_updL (vp_updL (vp_updL (vp_updL (vp_updL (vp_updL (vp_updL (vp_updL (vp_updL (vp_updL (vp_updL (vp_updL (vp_updL (vp_updL (fun _ => 0) 0 (13881 : Int64)) 1 (54 : Int64)) 2 (55 : Int64)) 3 (1835100727 : Int64)) 4 (19767 : Int64)) 5 (57 : Int64)) 6 (1835100729 : Int64)) 7 (19769 : Int64)) 8 (12593 : Int64)) 9 (469785784625 : Int64)) 10 (5058865 : Int64)) 11 (12595 : Int64)) 12 (469785784627 : Int64)) 13 (5058867 : Int64))
  | 18 => (vp_updL (vp_updL (vp_updL (vp_updL (vp_updL (vp_updL (vp_updL (vp_updL (vp_updL (vp_updL (vp_updL (vp_updL (vp_updL (fun _ => 0) 0 (1937077042 : Int64)) 1 (1937077044 : Int64)) 2 (7566707 : Int64)) 3 (25141 : Int64)) 4 (9013 : Int64)) 5 (25145 : Int64)) 6 (9017 : Int64)) 7 (2306353 : Int64)) 8 (6435123 : Int64)) 9 (1633969209 : Int64)) 10 (418296115505 : Int64)) 11 (7237427 : Int64)) 12 (7237429 : Int64))
  | 19 => (vp_updL (vp_updL (vp_updL (vp_updL (vp_updL (vp_updL (vp_updL (vp_updL (vp_updL (vp_updL (vp_updL (vp_updL (vp_updL (vp_updL (vp_updL (vp_updL (vp_updL (vp_updL (vp_updL (vp_updL (fun _ => 0) 0 (0 : Int64)) 1 (109 : Int64)) 2 (55 : Int64)) 3 (1835100727 : Int64)) 4 (27959 : Int64)) 5 (6580589 : Int64)) 6 (1684630839 : Int64)) 7 (1832346165 : Int64)) 8 (6387047 : Int64)) 9 (1937077044 : Int64)) 10 (1937077042 : Int64)) 11 (54 : Int64)) 12 (27958 : Int64)) 13 (57 : Int64)) 14 (1835100729 : Int64)) 15 (27961 : Int64)) 16 (1633969209 : Int64)) 17 (53 : Int64)) 18 (238160278324 : Int64)) 19 (469986535991 : Int64))
  | 20 => (vp_updL (vp_updL (vp_updL (vp_updL (vp_updL (vp_updL (vp_updL (vp_updL (vp_updL (vp_updL (vp_updL (vp_updL (fun _ => 0) 0 (73 : Int64)) 1 (6441289 : Int64)) 2 (18761 : Int64)) 3 (1648970057 : Int64)) 4 (4802889 : Int64)) 5 (18774 : Int64)) 6 (25174 : Int64)) 7 (86 : Int64)) 8 (6444617 : Int64)) 9 (22089 : Int64)) 10 (1649822025 : Int64)) 11 (5654857 : Int64))
  | _ => fun _ => 0
def fX9_init : Option ((Nat → Int32) × (Nat → Nat → Int32)) :=
  (fX9_init_636 BM  FU (fun _ => 0) (fun _ _ => 0) (0 : Int32))
def oF0 : Nat → Value := fun k => match k with
  | 1 => .int 0
  | 6 => .int 0
  | 8 => .int 0
  | 10 => .int 0
  | 12 => .int 0
  | 22 => .int 0
  | 23 => .int 0
  | 26 => .int 0
  | 27 => .int 0
  | 28 => .int 0
  | 30 => .int 0
  | 35 => .int 0
  | _ => .null
def oG (F : Nat → Value) : List Value := [F 0, F 1, F 2, F 3, F 4, F 5, F 6, F 7, F 8, F 9, F 10, F 11, F 12, F 13, F 14, F 15, F 16, F 17, F 18, F 19, F 20, F 21, F 22, F 23, F 24, F 25, F 26, F 27, F 28, F 29, F 30, F 31, F 32, F 33, F 34, F 35]
theorem nz_int (n : Nat) (cA : ClassId) : vp_cell cA (n, .inl (fun _ => 0)) = arrV cA n (fun _ => defaultValue .int) := rfl
theorem nz_byte (n : Nat) (cA : ClassId) : vp_cell cA (n, .inl (fun _ => 0)) = arrV cA n (fun _ => defaultValue .byte) := rfl
theorem nz_long (n : Nat) (cA : ClassId) : vp_cell cA (n, .inr (.inl (fun _ => 0))) = arrV cA n (fun _ => defaultValue .long) := rfl
theorem oG_0 (F : Nat → Value) (v : Value) : (oG F).set 0 v = oG (va_up F 0 v) := rfl
theorem oG_2 (F : Nat → Value) (v : Value) : (oG F).set 2 v = oG (va_up F 2 v) := rfl
theorem oG_3 (F : Nat → Value) (v : Value) : (oG F).set 3 v = oG (va_up F 3 v) := rfl
theorem oG_4 (F : Nat → Value) (v : Value) : (oG F).set 4 v = oG (va_up F 4 v) := rfl
theorem oG_5 (F : Nat → Value) (v : Value) : (oG F).set 5 v = oG (va_up F 5 v) := rfl
theorem oG_7 (F : Nat → Value) (v : Value) : (oG F).set 7 v = oG (va_up F 7 v) := rfl
theorem oG_9 (F : Nat → Value) (v : Value) : (oG F).set 9 v = oG (va_up F 9 v) := rfl
theorem oG_11 (F : Nat → Value) (v : Value) : (oG F).set 11 v = oG (va_up F 11 v) := rfl
theorem oG_13 (F : Nat → Value) (v : Value) : (oG F).set 13 v = oG (va_up F 13 v) := rfl
theorem oG_14 (F : Nat → Value) (v : Value) : (oG F).set 14 v = oG (va_up F 14 v) := rfl
theorem oG_15 (F : Nat → Value) (v : Value) : (oG F).set 15 v = oG (va_up F 15 v) := rfl
theorem oG_16 (F : Nat → Value) (v : Value) : (oG F).set 16 v = oG (va_up F 16 v) := rfl
theorem oG_17 (F : Nat → Value) (v : Value) : (oG F).set 17 v = oG (va_up F 17 v) := rfl
theorem oG_18 (F : Nat → Value) (v : Value) : (oG F).set 18 v = oG (va_up F 18 v) := rfl
theorem oG_19 (F : Nat → Value) (v : Value) : (oG F).set 19 v = oG (va_up F 19 v) := rfl
theorem oG_20 (F : Nat → Value) (v : Value) : (oG F).set 20 v = oG (va_up F 20 v) := rfl
theorem oG_21 (F : Nat → Value) (v : Value) : (oG F).set 21 v = oG (va_up F 21 v) := rfl
theorem oG_24 (F : Nat → Value) (v : Value) : (oG F).set 24 v = oG (va_up F 24 v) := rfl
theorem oG_25 (F : Nat → Value) (v : Value) : (oG F).set 25 v = oG (va_up F 25 v) := rfl
theorem oG_29 (F : Nat → Value) (v : Value) : (oG F).set 29 v = oG (va_up F 29 v) := rfl
theorem oG_31 (F : Nat → Value) (v : Value) : (oG F).set 31 v = oG (va_up F 31 v) := rfl
theorem oG_32 (F : Nat → Value) (v : Value) : (oG F).set 32 v = oG (va_up F 32 v) := rfl
theorem oG_33 (F : Nat → Value) (v : Value) : (oG F).set 33 v = oG (va_up F 33 v) := rfl
theorem oG_34 (F : Nat → Value) (v : Value) : (oG F).set 34 v = oG (va_up F 34 v) := rfl
set_option maxRecDepth 100000 in
set_option maxHeartbeats 40000000 in
theorem mX9_init (l : Launch) (dC : Nat → ClassId) (dI : Nat → Nat → Nat) (h0 sz : Nat) (z : (Nat → Int32) × (Nat → Nat → Int32)) (hf : fX9_init = some z) : Met l yX9_init wsX9_init ({ frames := 5, cells := 24, slots := 9486, locals := 117 }) (va_Pc [.ref h0] (fun U => U.heap.size = sz ∧ va_P (dC, dI) vwCl [(h0, .inr (6, oG oF0))] U.heap ∧ va_K (dC, dI) vwCl [] U ∧ va_D (fun _ => True) [(h0, .inr (6, oG oF0))])) (va_Qv (fun (u : (Nat → Int32) × (Nat → Nat → Int32)) => u = z) (fun (u : (Nat → Int32) × (Nat → Nat → Int32)) (t : State) => ∃ (cI cB cJ : ClassId) (Q : Nat → Nat), Q 100 = h0 ∧ atM dC dI cI cB cJ Q BM (va_A [(h0, .inr (6, oG oF0))] sz) u t) (va_A [(h0, .inr (6, oG oF0))] sz)) 24 9486 (va_A [(h0, .inr (6, oG oF0))] sz) := by
  refine Met.ofW (cc := cX9_init) (maxL := 4) (ret := none) (by decide) rfl ?_
  intro p e s m args below meth c s₁ BL hml hv
  obtain ⟨rfl, hsz, hP, hK, hD0⟩ := hv
  have hx := BL.exec
  have hb := BL.bytes
  have hr := BL.returns
  have hts := atoms_spec (ws := wsX9_init) BL.pre
  have hown : s.vm.findClass RX9 = some m.cls := findClass_of_methodNamed BL.named
  have hlocks := BL.notSynchronized
  have hin : meth.name = "<init>" := (name_of_methodNamed BL.named BL.method).1
  have hinX9 : ∀ w ∈ u_ws RX9 TX9 36, w ∈ wsX9_init := by decide +kernel
  have hk7 := hts (.fieldLink RX9 7 "LeadSheetsModel" "tape" "[B") (by decide +kernel)
  have hk13 := hts (.fieldLink RX9 13 "LeadSheetsModel" "heads" "[I") (by decide +kernel)
  have hk17 := hts (.fieldLink RX9 17 "LeadSheetsModel" "halves" "[I") (by decide +kernel)
  have hk20 := hts (.fieldLink RX9 20 "LeadSheetsModel" "degrees" "[I") (by decide +kernel)
  have hk23 := hts (.fieldLink RX9 23 "LeadSheetsModel" "stepMany" "[I") (by decide +kernel)
  have hk26 := hts (.fieldLink RX9 26 "LeadSheetsModel" "shown" "[B") (by decide +kernel)
  have hk29 := hts (.fieldLink RX9 29 "LeadSheetsModel" "found" "[I") (by decide +kernel)
  have hk32 := hts (.fieldLink RX9 32 "LeadSheetsModel" "keys" "[I") (by decide +kernel)
  have hk35 := hts (.fieldLink RX9 35 "LeadSheetsModel" "bodyHalves" "[I") (by decide +kernel)
  have hk38 := hts (.fieldLink RX9 38 "LeadSheetsModel" "bodyDegrees" "[I") (by decide +kernel)
  have hk41 := hts (.fieldLink RX9 41 "LeadSheetsModel" "bodyMany" "[I") (by decide +kernel)
  have hk58 := hts (.fieldLink RX9 58 "LeadSheetsModel" "kinds" "[J") (by decide +kernel)
  have hk90 := hts (.fieldLink RX9 90 "LeadSheetsModel" "sizes" "[J") (by decide +kernel)
  have hk119 := hts (.fieldLink RX9 119 "LeadSheetsModel" "changes" "[J") (by decide +kernel)
  have hk136 := hts (.fieldLink RX9 136 "LeadSheetsModel" "bodies" "[J") (by decide +kernel)
  have hk163 := hts (.fieldLink RX9 163 "LeadSheetsModel" "numerals" "[J") (by decide +kernel)
  have hk166 := hts (.fieldLink RX9 166 "LeadSheetsModel" "text" "[B") (by decide +kernel)
  have hk169 := hts (.fieldLink RX9 169 "LeadSheetsModel" "half" "[I") (by decide +kernel)
  have hk172 := hts (.fieldLink RX9 172 "LeadSheetsModel" "degree" "[I") (by decide +kernel)
  have hk175 := hts (.fieldLink RX9 175 "LeadSheetsModel" "names" "[I") (by decide +kernel)
  have hk178 := hts (.fieldLink RX9 178 "LeadSheetsModel" "aside" "[B") (by decide +kernel)
  have hk181 := hts (.fieldLink RX9 181 "LeadSheetsModel" "other" "[B") (by decide +kernel)
  have hk184 := hts (.fieldLink RX9 184 "LeadSheetsModel" "near" "[I") (by decide +kernel)
  have hk187 := hts (.fieldLink RX9 187 "LeadSheetsModel" "made" "[I") (by decide +kernel)
  have hk194 := hts (.fieldLink RX9 194 "LeadSheetsModel" "textSize" "I") (by decide +kernel)
  have hk202 := hts (.fieldLink RX9 202 "LeadSheetsModel" "p" "I") (by decide +kernel)
  have hk212 := hts (.fieldLink RX9 212 "LeadSheetsModel" "many" "I") (by decide +kernel)
  subst hsz
  have hD := hD0.self (sz := s.heap.size)
  generalize hAe : va_A [(h0, .inr (6, oG oF0))] s.heap.size = AA at hD ⊢
  have hA : ∀ q : Nat, s.heap.size ≤ q → AA q := fun q h => by rw [← hAe]; exact Or.inr h
  have hS : va_S AA s.heap s.heap [] := va_S.rf
  have hl := lv_entry ([.ref h0]) (n := 4) (Nat.le_of_ble_eq_true rfl)
  rw [lg_entry_eq]
  generalize (lg_sl ([.ref h0]) ++ List.replicate (4 - (lg_sl ([.ref h0])).length) Slot.unset).toArray = ls at hl ⊢
  have hl : lv_has ls 4 [(0, .ref h0)] := hl
  obtain ⟨cI, cB, cJ, Q, H, locs, hQ, hP1, hD1, hK1, hS1⟩ : ∃ (cI cB cJ : ClassId) (Q : Nat → Nat) (H : Heap) (locs : List Loc), Q 100 = h0 ∧ va_P (dC, dI) vwCl (wM cI cB cJ Q BM (fun _ => 0) (fun _ _ => 0)) H ∧ va_D AA (wM cI cB cJ Q BM (fun _ => 0) (fun _ _ => 0)) ∧ va_K (dC, dI) vwCl (tM cI cB cJ) s ∧ va_S AA s.heap H locs := sorry
  clear hP hD hK hS
  have hP := hP1
  have hD := hD1
  have hK := hK1
  have hS := hS1
  clear hP1 hD1 hK1 hS1
  clear hAe hD0
  subst hQ
  have sg714 : ∀ (k636 : (Nat → Int32) → (Nat → Nat → Int32) → Int32 → Option ((Nat → Int32) × (Nat → Nat → Int32))), (∀ (I : Nat → Int32) (A : Nat → Nat → Int32) (v1 : Int32) (H : Heap) (locs : List Loc) (ls : Array Slot), k636 I A v1 = some z → va_P (dC, dI) vwCl (wM cI cB cJ Q BM I A) H → va_D AA (wM cI cB cJ Q BM I A) → va_S AA s.heap H locs → lv_has ls 4 [(0, .ref (Q 100)), (1, .int v1)] → W p l e (headSpec wsX9_init ({ frames := 5, cells := 24, slots := 9486, locals := 117 })).room s m (([.ref (Q 100)] : List Value).toArray) below meth c H locs 24 9486 (MQ below (va_Qv (fun (u : (Nat → Int32) × (Nat → Nat → Int32)) => u = z) (fun (u : (Nat → Int32) × (Nat → Nat → Int32)) (t : State) => ∃ (cI cB cJ : ClassId) (Q' : Nat → Nat), Q' 100 = Q 100 ∧ atM dC dI cI cB cJ Q' BM AA u t) AA) (([.ref (Q 100)] : List Value).toArray) s 24 9486 AA) (F0 m 636 ls [])) → ∀ n : Nat, ∀ (I : Nat → Int32) (A : Nat → Nat → Int32) (v1 : Int32) (v3 : Int32) (H : Heap) (locs : List Loc) (ls : Array Slot), fX9_init_714 BM k636 n I A v1 v3 = some z → va_P (dC, dI) vwCl (wM cI cB cJ Q BM I A) H → va_D AA (wM cI cB cJ Q BM I A) → va_S AA s.heap H locs → lv_has ls 4 [(0, .ref (Q 100)), (1, .int v1), (3, .int v3)] → W p l e (headSpec wsX9_init ({ frames := 5, cells := 24, slots := 9486, locals := 117 })).room s m (([.ref (Q 100)] : List Value).toArray) below meth c H locs 24 9486 (MQ below (va_Qv (fun (u : (Nat → Int32) × (Nat → Nat → Int32)) => u = z) (fun (u : (Nat → Int32) × (Nat → Nat → Int32)) (t : State) => ∃ (cI cB cJ : ClassId) (Q' : Nat → Nat), Q' 100 = Q 100 ∧ atM dC dI cI cB cJ Q' BM AA u t) AA) (([.ref (Q 100)] : List Value).toArray) s 24 9486 AA) (F0 m 714 ls []) := by
    intro k636 ih636
    intro n
    induction n with
    | zero => intro I A v1 v3 H locs ls hf hP hD hS hl; exact of_none hf
    | succ n ih714 =>
      intro I A v1 v3 H locs ls hf hP hD hS hl
      change fX9_init_714B BM k636 (fX9_init_714 BM k636 n) I A v1 v3 = _ at hf
      unfold fX9_init_714B at hf
      refine lv_iload_n hx hb dX9_init_714 rfl (lv_at hl 2 rfl) ?_
      refine lv_aload_n hx hb dX9_init_715 rfl (lv_at hl 0 rfl) ?_
      refine va_get (D := (dC, dI)) (ci := 6) (v := .int (I 26)) (C := RX9) (T := TX9) (N := 36) hx hb hts hinX9 hown hK hP 0 rfl rfl 26 (by decide) hk212 (fun _ h9 => h9) rfl dX9_init_716 ?_
      refine lv_icmp_ge (tgt := 762) hx hb dX9_init_719 (by decide) (fun c20 => ?_) (fun c20 => ?_)
      · have hf := (if_pos c20).symm.trans hf
        refine lv_iinc (v := (v1 + (1 : Int32))) (lv' := [(1, .int (v1 + (1 : Int32))), (0, .ref (Q 100)), (3, .int v3)]) hx hb dX9_init_762 hl (k := 1) rfl rfl (by decide) rfl (fun ls hl => ?_)
        refine lv_goto (tgt := 636) hx hb dX9_init_765 (by decide) ?_
        exact ih636 I A (v1 + (1 : Int32)) H locs ls hf hP hD hS (lv_sub hl [1, 0] rfl)
      · have hf := (if_neg c20).symm.trans hf
        refine lv_aload_n hx hb dX9_init_722 rfl (lv_at hl 0 rfl) ?_
        refine va_get (D := (dC, dI)) (ci := 6) (v := .ref (Q 13)) (C := RX9) (T := TX9) (N := 36) hx hb hts hinX9 hown hK hP 0 rfl rfl 13 (by decide) hk35 (fun _ h9 => h9) rfl dX9_init_723 ?_
        refine lv_bipush (v := (8 : Int32)) hx hb dX9_init_726 (by decide) ?_
        refine lv_iload_n hx hb dX9_init_728 rfl (lv_at hl 1 rfl) ?_
        refine lv_imul hx hb dX9_init_729 ?_
        refine lv_iload_n hx hb dX9_init_730 rfl (lv_at hl 2 rfl) ?_
        refine lv_iadd hx hb dX9_init_731 ?_
        refine lv_aload_n hx hb dX9_init_732 rfl (lv_at hl 0 rfl) ?_
        refine va_get (D := (dC, dI)) (ci := 6) (v := .ref (Q 24)) (C := RX9) (T := TX9) (N := 36) hx hb hts hinX9 hown hK hP 0 rfl rfl 24 (by decide) hk169 (fun _ h9 => h9) rfl dX9_init_733 ?_
        refine lv_iload_n hx hb dX9_init_736 rfl (lv_at hl 2 rfl) ?_
        obtain ⟨g21, hf⟩ := of_ite_some hf
        refine va_iald hx hb hK hP 18 0 (n := 16) (f := (A 24)) rfl rfl g21 dX9_init_737 ?_
        obtain ⟨g22, hf⟩ := of_ite_some hf
        refine va_iast hx hb hK hP hD hS 9 0 (n := 160) (f := (A 13)) rfl rfl g22 dX9_init_738 (fun H locs hP hD hS => ?_)
        have hP : va_P (dC, dI) vwCl (wM cI cB cJ Q BM I (va_up A 13 (upd (A 13) (((8 : Int32) * v1) + v3).toNatClampNeg ((A 24) v3.toNatClampNeg)))) H := Eq.mp (congrArg (fun w => va_P (dC, dI) vwCl w H) (wMA_13 cI cB cJ Q BM I A (upd (A 13) (((8 : Int32) * v1) + v3).toNatClampNeg ((A 24) v3.toNatClampNeg)))) hP
        have hD : va_D AA (wM cI cB cJ Q BM I (va_up A 13 (upd (A 13) (((8 : Int32) * v1) + v3).toNatClampNeg ((A 24) v3.toNatClampNeg)))) := Eq.mp (congrArg (fun w => va_D AA w) (wMA_13 cI cB cJ Q BM I A (upd (A 13) (((8 : Int32) * v1) + v3).toNatClampNeg ((A 24) v3.toNatClampNeg)))) hD
        refine lv_aload_n hx hb dX9_init_739 rfl (lv_at hl 0 rfl) ?_
        refine va_get (D := (dC, dI)) (ci := 6) (v := .ref (Q 14)) (C := RX9) (T := TX9) (N := 36) hx hb hts hinX9 hown hK hP 0 rfl rfl 14 (by decide) hk38 (fun _ h9 => h9) rfl dX9_init_740 ?_
        refine lv_bipush (v := (8 : Int32)) hx hb dX9_init_743 (by decide) ?_
        refine lv_iload_n hx hb dX9_init_745 rfl (lv_at hl 1 rfl) ?_
        refine lv_imul hx hb dX9_init_746 ?_
        refine lv_iload_n hx hb dX9_init_747 rfl (lv_at hl 2 rfl) ?_
        refine lv_iadd hx hb dX9_init_748 ?_
        refine lv_aload_n hx hb dX9_init_749 rfl (lv_at hl 0 rfl) ?_
        refine va_get (D := (dC, dI)) (ci := 6) (v := .ref (Q 25)) (C := RX9) (T := TX9) (N := 36) hx hb hts hinX9 hown hK hP 0 rfl rfl 25 (by decide) hk172 (fun _ h9 => h9) rfl dX9_init_750 ?_
        refine lv_iload_n hx hb dX9_init_753 rfl (lv_at hl 2 rfl) ?_
        obtain ⟨g23, hf⟩ := of_ite_some hf
        refine va_iald hx hb hK hP 19 0 (n := 16) (f := (A 25)) rfl rfl g23 dX9_init_754 ?_
        obtain ⟨g24, hf⟩ := of_ite_some hf
        refine va_iast hx hb hK hP hD hS 10 0 (n := 160) (f := (A 14)) rfl rfl g24 dX9_init_755 (fun H locs hP hD hS => ?_)
        have hP : va_P (dC, dI) vwCl (wM cI cB cJ Q BM I (va_up (va_up A 13 (upd (A 13) (((8 : Int32) * v1) + v3).toNatClampNeg ((A 24) v3.toNatClampNeg))) 14 (upd (A 14) (((8 : Int32) * v1) + v3).toNatClampNeg ((A 25) v3.toNatClampNeg)))) H := Eq.mp (congrArg (fun w => va_P (dC, dI) vwCl w H) (wMA_14 cI cB cJ Q BM I (va_up A 13 (upd (A 13) (((8 : Int32) * v1) + v3).toNatClampNeg ((A 24) v3.toNatClampNeg))) (upd (A 14) (((8 : Int32) * v1) + v3).toNatClampNeg ((A 25) v3.toNatClampNeg)))) hP
        have hD : va_D AA (wM cI cB cJ Q BM I (va_up (va_up A 13 (upd (A 13) (((8 : Int32) * v1) + v3).toNatClampNeg ((A 24) v3.toNatClampNeg))) 14 (upd (A 14) (((8 : Int32) * v1) + v3).toNatClampNeg ((A 25) v3.toNatClampNeg)))) := Eq.mp (congrArg (fun w => va_D AA w) (wMA_14 cI cB cJ Q BM I (va_up A 13 (upd (A 13) (((8 : Int32) * v1) + v3).toNatClampNeg ((A 24) v3.toNatClampNeg))) (upd (A 14) (((8 : Int32) * v1) + v3).toNatClampNeg ((A 25) v3.toNatClampNeg)))) hD
        refine lv_iinc (v := (v3 + (1 : Int32))) (lv' := [(3, .int (v3 + (1 : Int32))), (0, .ref (Q 100)), (1, .int v1)]) hx hb dX9_init_756 hl (k := 2) rfl rfl (by decide) rfl (fun ls hl => ?_)
        refine lv_goto (tgt := 714) hx hb dX9_init_759 (by decide) ?_
        exact ih714 I (va_up (va_up A 13 (upd (A 13) (((8 : Int32) * v1) + v3).toNatClampNeg ((A 24) v3.toNatClampNeg))) 14 (upd (A 14) (((8 : Int32) * v1) + v3).toNatClampNeg ((A 25) v3.toNatClampNeg))) v1 (v3 + (1 : Int32)) H locs ls hf hP hD hS (lv_sub hl [1, 2, 0] rfl)
  have sg657 : ∀ (k636 : (Nat → Int32) → (Nat → Nat → Int32) → Int32 → Option ((Nat → Int32) × (Nat → Nat → Int32))), (∀ (I : Nat → Int32) (A : Nat → Nat → Int32) (v1 : Int32) (H : Heap) (locs : List Loc) (ls : Array Slot), k636 I A v1 = some z → va_P (dC, dI) vwCl (wM cI cB cJ Q BM I A) H → va_D AA (wM cI cB cJ Q BM I A) → va_S AA s.heap H locs → lv_has ls 4 [(0, .ref (Q 100)), (1, .int v1)] → W p l e (headSpec wsX9_init ({ frames := 5, cells := 24, slots := 9486, locals := 117 })).room s m (([.ref (Q 100)] : List Value).toArray) below meth c H locs 24 9486 (MQ below (va_Qv (fun (u : (Nat → Int32) × (Nat → Nat → Int32)) => u = z) (fun (u : (Nat → Int32) × (Nat → Nat → Int32)) (t : State) => ∃ (cI cB cJ : ClassId) (Q' : Nat → Nat), Q' 100 = Q 100 ∧ atM dC dI cI cB cJ Q' BM AA u t) AA) (([.ref (Q 100)] : List Value).toArray) s 24 9486 AA) (F0 m 636 ls [])) → ∀ n : Nat, ∀ (I : Nat → Int32) (A : Nat → Nat → Int32) (v1 : Int32) (v2 : Int32) (H : Heap) (locs : List Loc) (ls : Array Slot), fX9_init_657 BM k636 n I A v1 v2 = some z → va_P (dC, dI) vwCl (wM cI cB cJ Q BM I A) H → va_D AA (wM cI cB cJ Q BM I A) → va_S AA s.heap H locs → lv_has ls 4 [(0, .ref (Q 100)), (1, .int v1), (2, .int v2)] → W p l e (headSpec wsX9_init ({ frames := 5, cells := 24, slots := 9486, locals := 117 })).room s m (([.ref (Q 100)] : List Value).toArray) below meth c H locs 24 9486 (MQ below (va_Qv (fun (u : (Nat → Int32) × (Nat → Nat → Int32)) => u = z) (fun (u : (Nat → Int32) × (Nat → Nat → Int32)) (t : State) => ∃ (cI cB cJ : ClassId) (Q' : Nat → Nat), Q' 100 = Q 100 ∧ atM dC dI cI cB cJ Q' BM AA u t) AA) (([.ref (Q 100)] : List Value).toArray) s 24 9486 AA) (F0 m 657 ls []) := by
    intro k636 ih636
    intro n
    induction n with
    | zero => intro I A v1 v2 H locs ls hf hP hD hS hl; exact of_none hf
    | succ n ih657 =>
      intro I A v1 v2 H locs ls hf hP hD hS hl
      change fX9_init_657B BM k636 (fX9_init_657 BM k636 n) I A v1 v2 = _ at hf
      unfold fX9_init_657B at hf
      refine lv_iload_n hx hb dX9_init_657 rfl (lv_at hl 2 rfl) ?_
      refine lv_aload_n hx hb dX9_init_658 rfl (lv_at hl 0 rfl) ?_
      refine va_get (D := (dC, dI)) (ci := 6) (v := .int (I 22)) (C := RX9) (T := TX9) (N := 36) hx hb hts hinX9 hown hK hP 0 rfl rfl 22 (by decide) hk194 (fun _ h9 => h9) rfl dX9_init_659 ?_
      refine lv_icmp_ge (tgt := 688) hx hb dX9_init_662 (by decide) (fun c5 => ?_) (fun c5 => ?_)
      · have hf := (if_pos c5).symm.trans hf
        refine lv_aload_n hx hb dX9_init_688 rfl (lv_at hl 0 rfl) ?_
        refine lv_iconst (v := (0 : Int32)) hx hb dX9_init_689 (by decide) ?_
        refine va_put (D := (dC, dI)) (ci := 6) (v := .int (0 : Int32)) (ty := .int) (C := RX9) (T := TX9) (N := 36) hx hb hts hinX9 tyX9 tyX9_ok nmX9 hown hK hP hD hS 0 (fs := (oM Q I)) rfl rfl 23 (by decide) hk202 (fun _ h9 => h9) rfl (by decide +kernel) rfl rfl (Nat.le_of_ble_eq_true rfl) dX9_init_690 (fun H locs hP hD hS => ?_)
        have hP : va_P (dC, dI) vwCl (wM cI cB cJ Q BM (upd I 23 (0 : Int32)) A) H := Eq.mp (congrArg (fun w => va_P (dC, dI) vwCl w H) (wMI_23 cI cB cJ Q BM I A (0 : Int32))) hP
        have hD : va_D AA (wM cI cB cJ Q BM (upd I 23 (0 : Int32)) A) := Eq.mp (congrArg (fun w => va_D AA w) (wMI_23 cI cB cJ Q BM I A (0 : Int32))) hD
        refine lv_aload_n hx hb dX9_init_693 rfl (lv_at hl 0 rfl) ?_
        obtain ⟨⟨r9, I7, A8⟩, hc6, hf⟩ := of_bind_some hf
        have hF10 := va_freeAll hD hS hA
        refine va_calli (va_runV (As := []) (rest := []) ⟨hx, hb, hml, hown, hts⟩ (mX9_readBody l dC dI cI cB cJ Q BM (upd I 23 (0 : Int32)) A H.size _ hc6) (cwV 0 hts gX9_init_X9_readBody rfl rfl rfl (by decide +kernel) ⟨Nat.le_of_ble_eq_true rfl, Nat.le_of_ble_eq_true rfl⟩) ⟨blindW, va_recv hK hP (ci := 6) (q0 := 0) rfl rfl, fun U hU hW => ⟨rfl, by rw [hU], by rw [hU]; exact hP, va_K.moved hW.alike hK, hD.weaken (fun _ _ _ _ => trivial)⟩⟩ rfl rfl hl.1 rfl (lv_room (Nat.le_of_ble_eq_true rfl)) dX9_init_694 ⟨Nat.le_refl 24, Nat.le_refl 9486⟩) hS (fun q _ h => hF10 q h) hF10 (fun r0 u t H locs ht hvm hw hB hz1 hk1 hS => ?_)
        cases hw
        obtain ⟨hP, hK9, hD⟩ := hB
        rw [ht] at hP
        have hP : va_P (dC, dI) vwCl (wM cI cB cJ Q BM I7 A8) H := hP
        have hD : va_D AA (wM cI cB cJ Q BM I7 A8) := hD.weaken (fun _ _ _ h => hF10 _ h)
        refine lv_istore_n (lv' := [(2, .int r9), (0, .ref (Q 100)), (1, .int v1)]) hx hb dX9_init_697 rfl hl (by decide) rfl (fun ls hl => ?_)
        refine lv_aload_n hx hb dX9_init_698 rfl (lv_at hl 1 rfl) ?_
        obtain ⟨⟨I12, A13⟩, hc11, hf⟩ := of_bind_some hf
        have hF14 := va_freeAll hD hS hA
        refine va_callv (va_runV (As := []) (rest := []) ⟨hx, hb, hml, hown, hts⟩ (mX9_sort l dC dI cI cB cJ Q BM I7 A8 H.size _ hc11) (cwV 0 hts gX9_init_X9_sort rfl rfl rfl (by decide +kernel) ⟨Nat.le_of_ble_eq_true rfl, Nat.le_of_ble_eq_true rfl⟩) ⟨blindW, va_recv hK hP (ci := 6) (q0 := 0) rfl rfl, fun U hU hW => ⟨rfl, by rw [hU], by rw [hU]; exact hP, va_K.moved hW.alike hK, hD.weaken (fun _ _ _ _ => trivial)⟩⟩ rfl rfl hl.1 rfl (lv_room (Nat.le_of_ble_eq_true rfl)) dX9_init_699 ⟨Nat.le_refl 24, Nat.le_refl 9486⟩) hS (fun q _ h => hF14 q h) hF14 (fun u t H locs ht hvm hw hB hz1 hk1 hS => ?_)
        cases hw
        obtain ⟨hP, hK9, hD⟩ := hB
        rw [ht] at hP
        have hP : va_P (dC, dI) vwCl (wM cI cB cJ Q BM I12 A13) H := hP
        have hD : va_D AA (wM cI cB cJ Q BM I12 A13) := hD.weaken (fun _ _ _ h => hF14 _ h)
        refine lv_aload_n hx hb dX9_init_702 rfl (lv_at hl 1 rfl) ?_
        refine va_get (D := (dC, dI)) (ci := 6) (v := .ref (Q 15)) (C := RX9) (T := TX9) (N := 36) hx hb hts hinX9 hown hK hP 0 rfl rfl 15 (by decide) hk41 (fun _ h9 => h9) rfl dX9_init_703 ?_
        refine lv_iload_n hx hb dX9_init_706 rfl (lv_at hl 2 rfl) ?_
        refine lv_aload_n hx hb dX9_init_707 rfl (lv_at hl 1 rfl) ?_
        refine va_get (D := (dC, dI)) (ci := 6) (v := .int (I12 26)) (C := RX9) (T := TX9) (N := 36) hx hb hts hinX9 hown hK hP 0 rfl rfl 26 (by decide) hk212 (fun _ h9 => h9) rfl dX9_init_708 ?_
        obtain ⟨g15, hf⟩ := of_ite_some hf
        refine va_iast hx hb hK hP hD hS 11 0 (n := 20) (f := (A13 15)) rfl rfl g15 dX9_init_711 (fun H locs hP hD hS => ?_)
        have hP : va_P (dC, dI) vwCl (wM cI cB cJ Q BM I12 (va_up A13 15 (upd (A13 15) v1.toNatClampNeg (I12 26)))) H := Eq.mp (congrArg (fun w => va_P (dC, dI) vwCl w H) (wMA_15 cI cB cJ Q BM I12 A13 (upd (A13 15) v1.toNatClampNeg (I12 26)))) hP
        have hD : va_D AA (wM cI cB cJ Q BM I12 (va_up A13 15 (upd (A13 15) v1.toNatClampNeg (I12 26)))) := Eq.mp (congrArg (fun w => va_D AA w) (wMA_15 cI cB cJ Q BM I12 A13 (upd (A13 15) v1.toNatClampNeg (I12 26)))) hD
        refine lv_iconst (v := (0 : Int32)) hx hb dX9_init_712 (by decide) ?_
        refine lv_istore_n (lv' := [(3, .int (0 : Int32)), (2, .int r9), (0, .ref (Q 100)), (1, .int v1)]) hx hb dX9_init_713 rfl hl (by decide) rfl (fun ls hl => ?_)
        exact sg714 _ ih636 FU I12 (va_up A13 15 (upd (A13 15) v1.toNatClampNeg (I12 26))) v1 (0 : Int32) H locs ls hf hP hD hS (lv_sub hl [2, 3, 0] rfl)
      · have hf := (if_neg c5).symm.trans hf
        refine lv_aload_n hx hb dX9_init_665 rfl (lv_at hl 0 rfl) ?_
        refine va_get (D := (dC, dI)) (ci := 6) (v := .ref (Q 21)) (C := RX9) (T := TX9) (N := 36) hx hb hts hinX9 hown hK hP 0 rfl rfl 21 (by decide) hk166 (fun _ h9 => h9) rfl dX9_init_666 ?_
        refine lv_iload_n hx hb dX9_init_669 rfl (lv_at hl 2 rfl) ?_
        refine lv_aload_n hx hb dX9_init_670 rfl (lv_at hl 0 rfl) ?_
        refine va_get (D := (dC, dI)) (ci := 6) (v := .ref (Q 19)) (C := RX9) (T := TX9) (N := 36) hx hb hts hinX9 hown hK hP 0 rfl rfl 19 (by decide) hk136 (fun _ h9 => h9) rfl dX9_init_671 ?_
        refine lv_iload_n hx hb dX9_init_674 rfl (lv_at hl 1 rfl) ?_
        obtain ⟨g16, hf⟩ := of_ite_some hf
        refine va_lald hx hb hK hP 15 2 (n := 20) (f := (BM 19)) rfl rfl g16 dX9_init_675 ?_
        refine lv_iload_n hx hb dX9_init_676 rfl (lv_at hl 2 rfl) ?_
        obtain ⟨r17, hc18, hf⟩ := of_bind_some hf
        refine W.callR (r := r17) (W.runS (As := [.long ((BM 19) v1.toNatClampNeg), .int v2]) (rest := [.int v2, .ref (Q 21)]) ⟨hx, hb, hml, hown, hts⟩ (mX9_byteOf l ((BM 19) v1.toNatClampNeg) v2 r17 hc18) (va_cwS 2 hts gX9_init_X9_byteOf rfl rfl rfl (by decide +kernel) ⟨Nat.le_of_ble_eq_true rfl, Nat.le_of_ble_eq_true rfl⟩) ⟨fun _ _ _ _ q => q, fun U hU hW => ⟨rfl, trivial⟩⟩ rfl rfl hl.1 rfl (lv_room (Nat.le_of_ble_eq_true rfl)) dX9_init_677 ⟨Nat.le_refl 24, Nat.le_refl 9486⟩) ?_
        refine W.eq (g2 := F0 m 680 ls [.int r17, .int v2, .ref (Q 21)]) rfl ?_
        refine lv_i2b (v := (r17.toInt8.toInt32)) hx hb dX9_init_680 rfl ?_
        obtain ⟨g19, hf⟩ := of_ite_some hf
        refine va_bast hx hb hK hP hD hS 17 1 (n := 64) (f := (A 21)) rfl rfl g19 dX9_init_681 (fun H locs hP hD hS => ?_)
        have hP : va_P (dC, dI) vwCl (wM cI cB cJ Q BM I (va_up A 21 (upd (A 21) v2.toNatClampNeg (vp_nar .byte (r17.toInt8.toInt32))))) H := Eq.mp (congrArg (fun w => va_P (dC, dI) vwCl w H) (wMA_21 cI cB cJ Q BM I A (upd (A 21) v2.toNatClampNeg (vp_nar .byte (r17.toInt8.toInt32))))) hP
        have hD : va_D AA (wM cI cB cJ Q BM I (va_up A 21 (upd (A 21) v2.toNatClampNeg (vp_nar .byte (r17.toInt8.toInt32))))) := Eq.mp (congrArg (fun w => va_D AA w) (wMA_21 cI cB cJ Q BM I A (upd (A 21) v2.toNatClampNeg (vp_nar .byte (r17.toInt8.toInt32))))) hD
        refine lv_iinc (v := (v2 + (1 : Int32))) (lv' := [(2, .int (v2 + (1 : Int32))), (0, .ref (Q 100)), (1, .int v1)]) hx hb dX9_init_682 hl (k := 2) rfl rfl (by decide) rfl (fun ls hl => ?_)
        refine lv_goto (tgt := 657) hx hb dX9_init_685 (by decide) ?_
        exact ih657 I (va_up A 21 (upd (A 21) v2.toNatClampNeg (vp_nar .byte (r17.toInt8.toInt32)))) v1 (v2 + (1 : Int32)) H locs ls hf hP hD hS (lv_sub hl [1, 2, 0] rfl)
  have sg636 : ∀ n : Nat, ∀ (I : Nat → Int32) (A : Nat → Nat → Int32) (v1 : Int32) (H : Heap) (locs : List Loc) (ls : Array Slot), fX9_init_636 BM  n I A v1 = some z → va_P (dC, dI) vwCl (wM cI cB cJ Q BM I A) H → va_D AA (wM cI cB cJ Q BM I A) → va_S AA s.heap H locs → lv_has ls 4 [(0, .ref (Q 100)), (1, .int v1)] → W p l e (headSpec wsX9_init ({ frames := 5, cells := 24, slots := 9486, locals := 117 })).room s m (([.ref (Q 100)] : List Value).toArray) below meth c H locs 24 9486 (MQ below (va_Qv (fun (u : (Nat → Int32) × (Nat → Nat → Int32)) => u = z) (fun (u : (Nat → Int32) × (Nat → Nat → Int32)) (t : State) => ∃ (cI cB cJ : ClassId) (Q' : Nat → Nat), Q' 100 = Q 100 ∧ atM dC dI cI cB cJ Q' BM AA u t) AA) (([.ref (Q 100)] : List Value).toArray) s 24 9486 AA) (F0 m 636 ls []) := by
    intro n
    induction n with
    | zero => intro I A v1 H locs ls hf hP hD hS hl; exact of_none hf
    | succ n ih636 =>
      intro I A v1 H locs ls hf hP hD hS hl
      change fX9_init_636B BM  (fX9_init_636 BM  n) I A v1 = _ at hf
      unfold fX9_init_636B at hf
      refine lv_iload_n hx hb dX9_init_636 rfl (lv_at hl 1 rfl) ?_
      refine lv_bipush (v := (20 : Int32)) hx hb dX9_init_637 (by decide) ?_
      refine lv_icmp_ge (tgt := 768) hx hb dX9_init_639 (by decide) (fun c1 => ?_) (fun c1 => ?_)
      · have hf := (if_pos c1).symm.trans hf
        exact W.vret hx hb hr (fun t ht hW => ⟨⟨(I, A), rfl, Option.some.inj hf, cI, cB, cJ, Q, rfl, by rw [ht]; exact hP, va_K.moved hW.alike hK, hD⟩, hS.F ht⟩) hS.2.2 dX9_init_768
      · have hf := (if_neg c1).symm.trans hf
        refine lv_aload_n hx hb dX9_init_642 rfl (lv_at hl 0 rfl) ?_
        refine lv_aload_n hx hb dX9_init_643 rfl (lv_at hl 0 rfl) ?_
        refine va_get (D := (dC, dI)) (ci := 6) (v := .ref (Q 19)) (C := RX9) (T := TX9) (N := 36) hx hb hts hinX9 hown hK hP 0 rfl rfl 19 (by decide) hk136 (fun _ h9 => h9) rfl dX9_init_644 ?_
        refine lv_iload_n hx hb dX9_init_647 rfl (lv_at hl 1 rfl) ?_
        obtain ⟨g2, hf⟩ := of_ite_some hf
        refine va_lald hx hb hK hP 15 2 (n := 20) (f := (BM 19)) rfl rfl g2 dX9_init_648 ?_
        obtain ⟨r3, hc4, hf⟩ := of_bind_some hf
        refine W.callR (r := r3) (W.runS (As := [.long ((BM 19) v1.toNatClampNeg)]) (rest := [.ref (Q 100)]) ⟨hx, hb, hml, hown, hts⟩ (mX9_lengthOf l ((BM 19) v1.toNatClampNeg) r3 hc4) (va_cwS 1 hts gX9_init_X9_lengthOf rfl rfl rfl (by decide +kernel) ⟨Nat.le_of_ble_eq_true rfl, Nat.le_of_ble_eq_true rfl⟩) ⟨fun _ _ _ _ q => q, fun U hU hW => ⟨rfl, trivial⟩⟩ rfl rfl hl.1 rfl (lv_room (Nat.le_of_ble_eq_true rfl)) dX9_init_649 ⟨Nat.le_refl 24, Nat.le_refl 9486⟩) ?_
        refine W.eq (g2 := F0 m 652 ls [.int r3, .ref (Q 100)]) rfl ?_
        refine va_put (D := (dC, dI)) (ci := 6) (v := .int r3) (ty := .int) (C := RX9) (T := TX9) (N := 36) hx hb hts hinX9 tyX9 tyX9_ok nmX9 hown hK hP hD hS 0 (fs := (oM Q I)) rfl rfl 22 (by decide) hk194 (fun _ h9 => h9) rfl (by decide +kernel) rfl rfl (Nat.le_of_ble_eq_true rfl) dX9_init_652 (fun H locs hP hD hS => ?_)
        have hP : va_P (dC, dI) vwCl (wM cI cB cJ Q BM (upd I 22 r3) A) H := Eq.mp (congrArg (fun w => va_P (dC, dI) vwCl w H) (wMI_22 cI cB cJ Q BM I A r3)) hP
        have hD : va_D AA (wM cI cB cJ Q BM (upd I 22 r3) A) := Eq.mp (congrArg (fun w => va_D AA w) (wMI_22 cI cB cJ Q BM I A r3)) hD
        refine lv_iconst (v := (0 : Int32)) hx hb dX9_init_655 (by decide) ?_
        refine lv_istore_n (lv' := [(2, .int (0 : Int32)), (0, .ref (Q 100)), (1, .int v1)]) hx hb dX9_init_656 rfl hl (by decide) rfl (fun ls hl => ?_)
        exact sg657 _ ih636 FU (upd I 22 r3) A v1 (0 : Int32) H locs ls hf hP hD hS (lv_sub hl [1, 2, 0] rfl)
  sorry
