/-! the class: what lies outside its own cells: static arrays, texts, links among nest mates -/
abbrev NA : Nat → Prop := fun _ => False
def sCl : Nat → String := fun k => match k with
  | 0 => "LeadSheets$Bodies"
  | 1 => "LeadSheets$Notes"
  | 2 => "LeadSheets$Steps"
  | 3 => "LeadSheets$Steps"
  | 4 => "LeadSheets$Tape"
  | 5 => "LeadSheets$Tape"
  | 6 => "LeadSheets$Tape"
  | 7 => "LeadSheets$Tape"
  | 8 => "LeadSheets$Tape"
  | _ => ""
def sFd : Nat → String := fun k => match k with
  | 0 => "STEPS"
  | 1 => "LETTER_PITCHES"
  | 2 => "DEGREES"
  | 3 => "HALF_TONES"
  | 4 => "BROUGHT"
  | 5 => "KIND_STEPS"
  | 6 => "NEEDED"
  | 7 => "SIZE_STEPS"
  | 8 => "TAKEN"
  | _ => ""
def sTb : Nat → List Int32 := fun k => match k with
  | 0 => [73, 69, 1097, 2121, 1093, 37, 549, 1061, 137, 81, 67, 329, 325, 9289, 10313, 9285, 8265, 65, 1105, 2117]
  | 1 => [0, 2, 4, 5, 7, 9, 11]
  | 2 => [1, 2, 3, 3, 4, 5, 5, 5, 6, 7, 7, 7, 9, 9, 9, 11, 11, 13, 13]
  | 3 => [0, 2, 3, 4, 5, 6, 7, 8, 9, 9, 10, 11, 13, 14, 15, 17, 18, 20, 21]
  | 4 => [2, 16, 16, 32, 128, 4096, 16384, 65536, 131072, 8192, 32768, 0, 0]
  | 5 => [69, 69, 37, 37, 137, 137, 65]
  | 6 => [12, 12, 12, 224, 224, 0, 0, 0, 0, 0, 0, 12, 224]
  | 7 => [256, 8448, 1024, 2048, 2048, 9216, 10240, 10240, 41984, 43008, 43008, 304128, 305152, 305152]
  | 8 => [12, 12, 12, 224, 224, 8192, 8192, 32768, 262144, 0, 0, 12, 224]
  | _ => []
def jCl : Nat → String := fun k => match k with
  | 0 => "LeadSheets"
  | 1 => "LeadSheets"
  | 2 => "LeadSheets"
  | 3 => "LeadSheets"
  | 4 => "LeadSheets$Tape"
  | 5 => "LeadSheets$Tape"
  | 6 => "LeadSheets$Tape"
  | 7 => "LeadSheets$Tape"
  | 8 => "LeadSheets$Text"
  | 9 => "LeadSheets$Text"
  | _ => ""
def jIx : Nat → Nat := fun k => match k with
  | 0 => 214
  | 1 => 220
  | 2 => 225
  | 3 => 227
  | 4 => 49
  | 5 => 76
  | 6 => 78
  | 7 => 80
  | 8 => 19
  | 9 => 31
  | _ => 0
def jTx : Nat → String := fun k => match k with
  | 0 => " m 7 maj7 m7 dim dim7 m7b5 aug sus4 sus2 6 m6 9 maj9 m9 add9 5 7sus4 mmaj7 ?"
  | 1 => "I bII II bIII III IV bV V bVI VI bVII VII"
  | 2 => "7 65 43 42"
  | 3 => " 6 64"
  | 4 => "bb b  # ##"
  | 5 => "6 69 7 maj7 M7 9 maj9 M9 11 maj11 M11 13 maj13 M13"
  | 6 => "m - dim o aug + 5"
  | 7 => "sus2 sus4 sus b5 #5 b9 #9 #11 b13 add9 add11 no3 no5"
  | 8 => "C D E F G A B"
  | 9 => "bb b  # ##"
  | _ => ""
def jTb : Nat → List Int32 := fun k => match k with
  | 0 => [32, 109, 32, 55, 32, 109, 97, 106, 55, 32, 109, 55, 32, 100, 105, 109, 32, 100, 105, 109, 55, 32, 109, 55, 98, 53, 32, 97, 117, 103, 32, 115, 117, 115, 52, 32, 115, 117, 115, 50, 32, 54, 32, 109, 54, 32, 57, 32, 109, 97, 106, 57, 32, 109, 57, 32, 97, 100, 100, 57, 32, 53, 32, 55, 115, 117, 115, 52, 32, 109, 109, 97, 106, 55, 32, 63]
  | 1 => [73, 32, 98, 73, 73, 32, 73, 73, 32, 98, 73, 73, 73, 32, 73, 73, 73, 32, 73, 86, 32, 98, 86, 32, 86, 32, 98, 86, 73, 32, 86, 73, 32, 98, 86, 73, 73, 32, 86, 73, 73]
  | 2 => [55, 32, 54, 53, 32, 52, 51, 32, 52, 50]
  | 3 => [32, 54, 32, 54, 52]
  | 4 => [98, 98, 32, 98, 32, 32, 35, 32, 35, 35]
  | 5 => [54, 32, 54, 57, 32, 55, 32, 109, 97, 106, 55, 32, 77, 55, 32, 57, 32, 109, 97, 106, 57, 32, 77, 57, 32, 49, 49, 32, 109, 97, 106, 49, 49, 32, 77, 49, 49, 32, 49, 51, 32, 109, 97, 106, 49, 51, 32, 77, 49, 51]
  | 6 => [109, 32, 45, 32, 100, 105, 109, 32, 111, 32, 97, 117, 103, 32, 43, 32, 53]
  | 7 => [115, 117, 115, 50, 32, 115, 117, 115, 52, 32, 115, 117, 115, 32, 98, 53, 32, 35, 53, 32, 98, 57, 32, 35, 57, 32, 35, 49, 49, 32, 98, 49, 51, 32, 97, 100, 100, 57, 32, 97, 100, 100, 49, 49, 32, 110, 111, 51, 32, 110, 111, 53]
  | 8 => [67, 32, 68, 32, 69, 32, 70, 32, 71, 32, 65, 32, 66]
  | 9 => [98, 98, 32, 98, 32, 32, 35, 32, 35, 35]
  | _ => []
def sN (k : Nat) : Nat := (sTb k).length
def sF (k j : Nat) : Int32 := (sTb k).getD j 0
def jN (i : Nat) : Nat := (jTb i).length
def jF (i j : Nat) : Int32 := (jTb i).getD j 0
def jC (i j : Nat) : Int32 := ((jF i j &&& 255).toUInt32 % 65536).toInt32
def jabs (x : Int32) : Int32 := if 0 ≤ x then x else 0 - x
def jmin (x y : Int32) : Int32 := if y < x then y else x
def nestM : List (String × Nat × MethodName × String) := [("LeadSheets", 9, ⟨"LeadSheets$Tape", "<init>", "()V"⟩, "LeadSheets"), ("LeadSheets$Bodies", 15, ⟨"LeadSheets", "entry", "([II)I"⟩, "LeadSheets"), ("LeadSheets$Steps", 19, ⟨"LeadSheets", "entry", "([II)I"⟩, "LeadSheets"), ("LeadSheets", 31, ⟨"LeadSheets$Voicing", "<init>", "()V"⟩, "LeadSheets"), ("LeadSheets", 38, ⟨"LeadSheets$Text", "<init>", "()V"⟩, "LeadSheets"), ("LeadSheets$Tape", 69, ⟨"LeadSheets", "entry", "([II)I"⟩, "LeadSheets"), ("LeadSheets$Notes", 31, ⟨"LeadSheets", "entry", "([II)I"⟩, "LeadSheets"), ("LeadSheets$Names", 49, ⟨"LeadSheets", "entry", "([II)I"⟩, "LeadSheets"), ("LeadSheets$Voicing", 41, ⟨"LeadSheets", "entry", "([II)I"⟩, "LeadSheets")]
def nestF : List (String × Nat × String × String × String × String) := [("LeadSheets", 189, "LeadSheets$Tape", "length", "I", "LeadSheets"), ("LeadSheets", 51, "LeadSheets$Tape", "place", "I", "LeadSheets"), ("LeadSheets", 188, "LeadSheets$Names", "size", "I", "LeadSheets"), ("LeadSheets", 131, "LeadSheets$Names", "foundBass", "I", "LeadSheets"), ("LeadSheets", 163, "LeadSheets$Voicing", "size", "I", "LeadSheets"), ("LeadSheets", 187, "LeadSheets$Text", "size", "I", "LeadSheets")]
def cE (en : Nat → Nat) (A : Nat → Prop) (U : State) (H : Heap) : Prop :=
  (∀ k, k < 9 → va_Z (sCl k) (sFd k) "[I" (.ref (en k)) A U H ∧ va_T .int (en k) (sN k) (fun j => .int (sF k j)) A U H) ∧
  (∀ i, i < 10 → (va_O "java/lang/String" (en (100 + i)) A U H ∧ va_OF "java/lang/String" "coder" "B" (.int 0) (en (100 + i)) A U H ∧ va_OF "java/lang/String" "value" "[B" (.ref (en (200 + i))) (en (100 + i)) A U H ∧ va_T .byte (en (200 + i)) (jN i) (fun j => .int (jF i j)) A U H) ∧ vk_R (jCl i) (jIx i) (jTx i) (en (100 + i)) U) ∧
  va_Z "java/lang/String" "COMPACT_STRINGS" "Z" (.int 1) A U H ∧
  (∃ v : Option Nat, va_Z "jdk/internal/util/Preconditions" "SIOOBE_FORMATTER" "Ljava/util/function/BiFunction;" (va_rf v) A U H) ∧
  (∀ q ∈ nestM, va_Nw (.methodLinkNest q.1 q.2.1 q.2.2.1 q.2.2.2) U) ∧
  ∀ q ∈ nestF, va_Nw (.fieldLinkNest q.1 q.2.1 q.2.2.1 q.2.2.2.1 q.2.2.2.2.1 q.2.2.2.2.2) U
theorem cE.warm {en : Nat → Nat} {A : Nat → Prop} {s U : State} {H : Heap} (hW : s.WarmedH U.vm) (h : cE en A s H) : cE en A U H := by
  obtain ⟨h1, h2, h3, ⟨v, h4⟩, h5, h6⟩ := h
  refine ⟨fun k hk => ⟨(h1 k hk).1.moved hW.alike, (h1 k hk).2.moved hW.alike⟩, fun i hi => ?_, h3.moved hW.alike, ⟨v, h4.moved hW.alike⟩, fun q hq => (h5 q hq).warmM hW, fun q hq => (h6 q hq).warmF hW⟩
  obtain ⟨⟨a1, a2, a3, a4⟩, a5⟩ := h2 i hi
  exact ⟨⟨a1.moved hW.alike, a2.moved hW.alike, a3.moved hW.alike, a4.moved hW.alike⟩, a5.warm hW⟩
theorem cE.kept {en : Nat → Nat} {A : Nat → Prop} {s : State} {H0 H : Heap} {locs : List Loc} (h : cE en A s H0) (hS : va_S A H0 H locs) : cE en A s H := by
  obtain ⟨h1, h2, h3, ⟨v, h4⟩, h5, h6⟩ := h
  refine ⟨fun k hk => ⟨(h1 k hk).1.kept hS.2.1, (h1 k hk).2.kept hS.2.1⟩, fun i hi => ?_, h3.kept hS.2.1, ⟨v, h4.kept hS.2.1⟩, h5, h6⟩
  obtain ⟨⟨a1, a2, a3, a4⟩, a5⟩ := h2 i hi
  exact ⟨⟨a1.kept hS.2.1, a2.kept hS.2.1, a3.kept hS.2.1, a4.kept hS.2.1⟩, a5⟩
theorem cE.narrow {en : Nat → Nat} {A B : Nat → Prop} {s : State} {H : Heap} (h : cE en A s H) (hAB : ∀ q, B q → A q) : cE en B s H := by
  obtain ⟨h1, h2, h3, ⟨v, h4⟩, h5, h6⟩ := h
  refine ⟨fun k hk => ⟨(h1 k hk).1.narrow hAB, (h1 k hk).2.narrow hAB⟩, fun i hi => ?_, h3.narrow hAB, ⟨v, h4.narrow hAB⟩, h5, h6⟩
  obtain ⟨⟨a1, a2, a3, a4⟩, a5⟩ := h2 i hi
  exact ⟨⟨a1.narrow hAB, a2.narrow hAB, a3.narrow hAB, a4.narrow hAB⟩, a5⟩
theorem cE.call {en : Nat → Nat} {A : Nat → Prop} {U : State} {H : Heap} {g : JFrame} {mk : MethodId} {a : Array Value} (h : cE en A U H) : cE en A (U.calling g mk a) H := by
  obtain ⟨h1, h2, h3, ⟨v, h4⟩, h5, h6⟩ := h
  have hv : U.vm.Alike (U.calling g mk a).vm := Vm.Alike.refl U.vm
  refine ⟨fun k hk => ⟨(h1 k hk).1.moved hv, (h1 k hk).2.moved hv⟩, fun i hi => ?_, h3.moved hv, ⟨v, h4.moved hv⟩, fun q hq => (h5 q hq).same rfl rfl, fun q hq => (h6 q hq).same rfl rfl⟩
  obtain ⟨⟨a1, a2, a3, a4⟩, a5⟩ := h2 i hi
  exact ⟨⟨a1.moved hv, a2.moved hv, a3.moved hv, a4.moved hv⟩, a5.same rfl⟩
theorem cE_read {en : Nat → Nat} {A : Nat → Prop} {s U : State} {H0 H : Heap} {locs : List Loc} (h : cE en A s H0) (hS : va_S A H0 H locs) (hW : s.WarmedH U.vm) (hU : U.heap = H) : cE en NA U U.heap := by
  rw [hU]; exact ((h.kept hS).warm hW).narrow (fun _ f => f.elim)
theorem cE_sub {en : Nat → Nat} {A B : Nat → Prop} {s U : State} {H0 H : Heap} {locs : List Loc} (h : cE en A s H0) (hS : va_S A H0 H locs) (hW : s.WarmedH U.vm) (hU : U.heap = H) (hF : ∀ q, B q → A q) : cE en B U U.heap := by
  rw [hU]; exact ((h.kept hS).warm hW).narrow hF
theorem cE_recv {en : Nat → Nat} {A : Nat → Prop} {s : State} {H0 H : Heap} {locs : List Loc} (h : cE en A s H0) (hS : va_S A H0 H locs) (i : Nat) (hi : i < 10) : ∃ cell : Cell, H[en (100 + i)]? = some cell ∧ cell.vm.isStatics = false ∧ s.vm.findClass "java/lang/String" = some cell.cls := by
  obtain ⟨cell, h1, h2, h3, -⟩ := ((h.kept hS).2.1 i hi).1.1
  exact ⟨cell, h1, h2, h3⟩
theorem blindS {av : List Value} {en : Nat → Nat} {A : Nat → Prop} : FrameBlind (va_Pc av (fun U => cE en A U U.heap)) := by
  intro a U g mk q
  exact ⟨q.1, q.2.call⟩
theorem blindRE {av : List Value} {D : va_G} {cl : List vw_C} {ws : va_W} {tys : List (ClassId × FieldType)} {en : Nat → Nat} {A : Nat → Prop} : FrameBlind (va_Pc av (fun U => va_P D cl ws U.heap ∧ va_K D cl tys U ∧ cE en A U U.heap)) := by
  intro a U g mk q
  obtain ⟨q0, qP, qK, qE⟩ := q
  exact ⟨q0, qP, va_K.moved (u := U) (U := U.calling g mk a) (Vm.Alike.refl U.vm) qK, qE.call⟩
theorem blindWE {av : List Value} {D : va_G} {cl : List vw_C} {ws : va_W} {tys : List (ClassId × FieldType)} {sz : Nat} {A B : Nat → Prop} {en : Nat → Nat} : FrameBlind (va_Pc av (fun U => U.heap.size = sz ∧ va_P D cl ws U.heap ∧ va_K D cl tys U ∧ va_D A ws ∧ cE en B U U.heap)) := by
  intro a U g mk q
  obtain ⟨q0, q1, qP, qK, qD, qE⟩ := q
  exact ⟨q0, q1, qP, va_K.moved (u := U) (U := U.calling g mk a) (Vm.Alike.refl U.vm) qK, qD, qE.call⟩
def fX8_entry (n : Nat) (f : Nat → Int32) (x1 : Int32) : Option Int32 :=
  (if x1 < 0 then (some (0 : Int32)) else (if (Int32.ofNat n) ≤ x1 then (some (0 : Int32)) else (if gd x1 n then (some (f x1.toNatClampNeg)) else none)))
set_option maxRecDepth 100000 in
theorem mX8_entry_s (l : Launch) (en : Nat → Nat) (k : Nat) (hk : k < 9) (x1 : Int32) (r : Int32) (hf : fX8_entry (sN k) (sF k) x1 = some r) : Met l yX8_entry wsX8_entry ({ frames := 0, cells := 0, slots := 0, locals := 0 }) (va_Pc [.ref (en k), .int x1] (fun U => cE en NA U U.heap)) (QcRead r) 0 0 (fun _ => False) := by
  refine Met.ofW (cc := cX8_entry) (maxL := 2) (ret := (some .int)) (by decide) rfl ?_
  intro p e s m args below meth c s₁ BL hml hv
  obtain ⟨rfl, hE⟩ := hv
  have hx := BL.exec
  have hb := BL.bytes
  have hr := BL.returns
  have hlocks := BL.notSynchronized
  have hS : va_S NA s.heap s.heap [] := va_S.rf
  have hl := lv_entry ([.ref (en k), .int x1]) (n := 2) (Nat.le_of_ble_eq_true rfl)
  rw [lg_entry_eq]
  generalize (lg_sl ([.ref (en k), .int x1]) ++ List.replicate (2 - (lg_sl ([.ref (en k), .int x1])).length) Slot.unset).toArray = ls at hl ⊢
  have hl : lv_has ls 2 [(0, .ref (en k)), (1, .int x1)] := hl
  unfold fX8_entry at hf
  refine lv_iload_n hx hb dX8_entry_0 rfl (lv_at hl 1 rfl) ?_
  refine lv_if_lt (tgt := 16) hx hb dX8_entry_1 (by decide) (fun c1 => ?_) (fun c1 => ?_)
  · have hf := (if_pos c1).symm.trans hf
    refine lv_iconst (v := (0 : Int32)) hx hb dX8_entry_16 (by decide) ?_
    exact W.iret (v := (0 : Int32)) hx hb hr (fun t ht hW => ⟨congrArg (fun z => Outcome.returned (some (Value.int z))) (Option.some.inj hf), ht⟩) (fun _ h => nomatch h) dX8_entry_17
  · have hf := (if_neg c1).symm.trans hf
    refine lv_iload_n hx hb dX8_entry_4 rfl (lv_at hl 1 rfl) ?_
    refine lv_aload_n hx hb dX8_entry_5 rfl (lv_at hl 0 rfl) ?_
    refine va_tlen hx hb (hE.1 k hk).2 hS (v := Int32.ofNat (sN k)) rfl dX8_entry_6 ?_
    refine lv_icmp_ge (tgt := 16) hx hb dX8_entry_7 (by decide) (fun c2 => ?_) (fun c2 => ?_)
    · have hf := (if_pos c2).symm.trans hf
      refine lv_iconst (v := (0 : Int32)) hx hb dX8_entry_16 (by decide) ?_
      exact W.iret (v := (0 : Int32)) hx hb hr (fun t ht hW => ⟨congrArg (fun z => Outcome.returned (some (Value.int z))) (Option.some.inj hf), ht⟩) (fun _ h => nomatch h) dX8_entry_17
    · have hf := (if_neg c2).symm.trans hf
      obtain ⟨g1, hf⟩ := of_ite_some hf
      refine lv_aload_n hx hb dX8_entry_10 rfl (lv_at hl 0 rfl) ?_
      refine lv_iload_n hx hb dX8_entry_11 rfl (lv_at hl 1 rfl) ?_
      refine va_ti hx hb (hE.1 k hk).2 hS g1 (v := .int (sF k x1.toNatClampNeg)) rfl dX8_entry_12 ?_
      refine lv_goto (tgt := 17) hx hb dX8_entry_13 (by decide) ?_
      exact W.iret (v := sF k x1.toNatClampNeg) hx hb hr (fun t ht hW => ⟨congrArg (fun z => Outcome.returned (some (Value.int z))) (Option.some.inj hf), ht⟩) (fun _ h => nomatch h) dX8_entry_17
set_option maxRecDepth 100000 in
theorem mX8_entry_w (l : Launch) (dC : Nat → ClassId) (dI : Nat → Nat → Nat) (q : Nat) (cI : ClassId) (n : Nat) (f : Nat → Int32) (x1 : Int32) (r : Int32) (hf : fX8_entry n f x1 = some r) : Met l yX8_entry wsX8_entry ({ frames := 0, cells := 0, slots := 0, locals := 0 }) (va_Pc [.ref q, .int x1] (fun U => va_P (dC, dI) vwCl [(q, .inl (cI, n, .inl f))] U.heap ∧ va_K (dC, dI) vwCl [(cI, .int)] U)) (QcRead r) 0 0 (fun _ => False) := by
  refine Met.ofW (cc := cX8_entry) (maxL := 2) (ret := (some .int)) (by decide) rfl ?_
  intro p e s m args below meth c s₁ BL hml hv
  obtain ⟨rfl, hP, hK⟩ := hv
  have hx := BL.exec
  have hb := BL.bytes
  have hr := BL.returns
  have hlocks := BL.notSynchronized
  have hS : va_S NA s.heap s.heap [] := va_S.rf
  have hl := lv_entry ([.ref q, .int x1]) (n := 2) (Nat.le_of_ble_eq_true rfl)
  rw [lg_entry_eq]
  generalize (lg_sl ([.ref q, .int x1]) ++ List.replicate (2 - (lg_sl ([.ref q, .int x1])).length) Slot.unset).toArray = ls at hl ⊢
  have hl : lv_has ls 2 [(0, .ref q), (1, .int x1)] := hl
  unfold fX8_entry at hf
  refine lv_iload_n hx hb dX8_entry_0 rfl (lv_at hl 1 rfl) ?_
  refine lv_if_lt (tgt := 16) hx hb dX8_entry_1 (by decide) (fun c1 => ?_) (fun c1 => ?_)
  · have hf := (if_pos c1).symm.trans hf
    refine lv_iconst (v := (0 : Int32)) hx hb dX8_entry_16 (by decide) ?_
    exact W.iret (v := (0 : Int32)) hx hb hr (fun t ht hW => ⟨congrArg (fun z => Outcome.returned (some (Value.int z))) (Option.some.inj hf), ht⟩) (fun _ h => nomatch h) dX8_entry_17
  · have hf := (if_neg c1).symm.trans hf
    refine lv_iload_n hx hb dX8_entry_4 rfl (lv_at hl 1 rfl) ?_
    refine lv_aload_n hx hb dX8_entry_5 rfl (lv_at hl 0 rfl) ?_
    refine va_alen (v := Int32.ofNat n) hx hb hK hP 0 0 rfl rfl rfl dX8_entry_6 ?_
    refine lv_icmp_ge (tgt := 16) hx hb dX8_entry_7 (by decide) (fun c2 => ?_) (fun c2 => ?_)
    · have hf := (if_pos c2).symm.trans hf
      refine lv_iconst (v := (0 : Int32)) hx hb dX8_entry_16 (by decide) ?_
      exact W.iret (v := (0 : Int32)) hx hb hr (fun t ht hW => ⟨congrArg (fun z => Outcome.returned (some (Value.int z))) (Option.some.inj hf), ht⟩) (fun _ h => nomatch h) dX8_entry_17
    · have hf := (if_neg c2).symm.trans hf
      obtain ⟨g1, hf⟩ := of_ite_some hf
      refine lv_aload_n hx hb dX8_entry_10 rfl (lv_at hl 0 rfl) ?_
      refine lv_iload_n hx hb dX8_entry_11 rfl (lv_at hl 1 rfl) ?_
      refine va_iald hx hb hK hP 0 0 (n := n) (f := f) rfl rfl g1 dX8_entry_12 ?_
      refine lv_goto (tgt := 17) hx hb dX8_entry_13 (by decide) ?_
      exact W.iret (v := f x1.toNatClampNeg) hx hb hr (fun t ht hW => ⟨congrArg (fun z => Outcome.returned (some (Value.int z))) (Option.some.inj hf), ht⟩) (fun _ h => nomatch h) dX8_entry_17
