def fX9_chord_197B (B : Nat → Nat → Int64)  (k197 : (Nat → Int32) → (Nat → Nat → Int32) → Int32 → Int32 → Int32 → Int32 → Option (Int32 × (Nat → Int32) × (Nat → Nat → Int32))) (I : Nat → Int32) (A : Nat → Nat → Int32) (v1 : Int32) (v2 : Int32) (v4 : Int32) (v5 : Int32) : Option (Int32 × (Nat → Int32) × (Nat → Nat → Int32)) :=
  (if (I 26) ≤ v5 then (if gd (I 6) 100 then ((fX9_laid B I (va_up A 5 (upd (A 5) (I 6).toNatClampNeg (I 26))) v1 v2 (I 27) (I 28) v4).bind fun (r37, I35, A36) => (some (r37, (I35, A36)))) else none) else (if gd v5 16 then (if gd (((16 : Int32) * (I 6)) + v5) 1600 then (if gd v5 16 then (if gd (((16 : Int32) * (I 6)) + v5) 1600 then (k197 I (va_up (va_up A 3 (upd (A 3) (((16 : Int32) * (I 6)) + v5).toNatClampNeg ((A 24) v5.toNatClampNeg))) 4 (upd (A 4) (((16 : Int32) * (I 6)) + v5).toNatClampNeg ((A 25) v5.toNatClampNeg))) v1 v2 v4 (v5 + (1 : Int32))) else none) else none) else none) else none))
def fX9_chord_197 (B : Nat → Nat → Int64)  : Nat → ((Nat → Int32) → (Nat → Nat → Int32) → Int32 → Int32 → Int32 → Int32 → Option (Int32 × (Nat → Int32) × (Nat → Nat → Int32)))
  | 0 => fun _ _ _ _ _ _ => none
  | n + 1 => fX9_chord_197B B  (fX9_chord_197 B  n)
def fX9_chord_159 (B : Nat → Nat → Int64)  (I : Nat → Int32) (A : Nat → Nat → Int32) (v1 : Int32) (v2 : Int32) (v4 : Int32) : Option (Int32 × (Nat → Int32) × (Nat → Nat → Int32)) :=
  (if (I 22) ≤ (I 23) then (if (I 6) = (100 : Int32) then (some ((-3 : Int32), (I, A))) else ((fX9_sort B I A).bind fun (I29, A30) => (fX9_chord_197 B  FU I29 A30 v1 v2 v4 (0 : Int32)))) else (some (((-10 : Int32) - (I 23)), (I, A))))
def fX9_chord_117 (B : Nat → Nat → Int64)  (I : Nat → Int32) (A : Nat → Nat → Int32) (v1 : Int32) (v2 : Int32) (t0 : Int32) : Option (Int32 × (Nat → Int32) × (Nat → Nat → Int32)) :=
  (if t0 = 0 then (fX9_chord_159 B  (upd (upd I 27 v1) 28 v2) A v1 v2 t0) else ((fX9_note B (upd I 23 ((I 23) + (1 : Int32))) A).bind fun (r23, I21, A22) => (if r23 = 0 then (some (((-10 : Int32) - (I21 23)), (I21, A22))) else (fX9_chord_159 B  I21 A22 v1 v2 t0))))
def fX9_chord_10B (B : Nat → Nat → Int64)  (k10 : (Nat → Int32) → (Nat → Nat → Int32) → Int32 → Option (Int32 × (Nat → Int32) × (Nat → Nat → Int32))) (I : Nat → Int32) (A : Nat → Nat → Int32) (v1 : Int32) : Option (Int32 × (Nat → Int32) × (Nat → Nat → Int32)) :=
  (if (I 1) ≤ v1 then ((fX9_note B (upd (upd I 1 (0 : Int32)) 23 (0 : Int32)) A).bind fun (r5, I3, A4) => (if r5 = 0 then (some (((-10 : Int32) - (I3 23)), (I3, A4))) else ((fX9_readBody B I3 A4).bind fun (r11, I9, A10) => (if r11 = (-2 : Int32) then (if (I9 22) ≤ (I9 23) then (fX9_chord_117 B  I9 A10 (I3 27) (I3 28) (0 : Int32)) else (if gd (I9 23) 64 then (if ((A10 21) (I9 23).toNatClampNeg) = (47 : Int32) then (fX9_chord_117 B  I9 A10 (I3 27) (I3 28) (1 : Int32)) else (fX9_chord_117 B  I9 A10 (I3 27) (I3 28) (0 : Int32))) else none)) else (some (((-10 : Int32) - r11), (I9, A10))))))) else (if gd v1 40 then (if gd v1 64 then (k10 I (va_up A 21 (upd (A 21) v1.toNatClampNeg (vp_nar .byte ((A 0) v1.toNatClampNeg)))) (v1 + (1 : Int32))) else none) else none))
def fX9_chord_10 (B : Nat → Nat → Int64)  : Nat → ((Nat → Int32) → (Nat → Nat → Int32) → Int32 → Option (Int32 × (Nat → Int32) × (Nat → Nat → Int32)))
  | 0 => fun _ _ _ => none
  | n + 1 => fX9_chord_10B B  (fX9_chord_10 B  n)
def fX9_chord (B : Nat → Nat → Int64) (I : Nat → Int32) (A : Nat → Nat → Int32)  : Option (Int32 × (Nat → Int32) × (Nat → Nat → Int32)) :=
  (fX9_chord_10 B  FU (upd I 22 (I 1)) A (0 : Int32))
set_option maxRecDepth 100000 in
set_option maxHeartbeats 4000000 in
theorem mX9_chord (l : Launch) (dC : Nat → ClassId) (dI : Nat → Nat → Nat) (cI cB cJ : ClassId) (Q : Nat → Nat) (B : Nat → Nat → Int64) (I : Nat → Int32) (A : Nat → Nat → Int32)  (sz : Nat) (z : Int32 × (Nat → Int32) × (Nat → Nat → Int32)) (hf : fX9_chord B I A = some z) : Met l yX9_chord wsX9_chord ({ frames := 5, cells := 0, slots := 0, locals := 117 }) (va_Pc [.ref (Q 100)] (fun U => U.heap.size = sz ∧ va_P (dC, dI) vwCl (wM cI cB cJ Q B I A) U.heap ∧ va_K (dC, dI) vwCl (tM cI cB cJ) U ∧ va_D (fun _ => True) (wM cI cB cJ Q B I A))) (va_Qi (fun (r : Int32) (u : (Nat → Int32) × (Nat → Nat → Int32)) => (r, u) = z) (atM dC dI cI cB cJ Q B (va_A (wM cI cB cJ Q B I A) sz)) (va_A (wM cI cB cJ Q B I A) sz)) 0 0 (va_A (wM cI cB cJ Q B I A) sz) := by
  refine Met.ofW (cc := cX9_chord) (maxL := 6) (ret := (some .int)) (by decide) rfl ?_
  intro p e s m args below meth c s₁ BL hml hv
  obtain ⟨rfl, hsz, hP, hK, hD0⟩ := hv
  have hx := BL.exec
  have hb := BL.bytes
  have hr := BL.returns
  have hts := atoms_spec (ws := wsX9_chord) BL.pre
  have hown : s.vm.findClass RX9 = some m.cls := findClass_of_methodNamed BL.named
  have hlocks := BL.notSynchronized
  have hinX9 : ∀ w ∈ u_ws RX9 TX9 36, w ∈ wsX9_chord := by decide +kernel
  have hk7 := hts (.fieldLink RX9 7 "LeadSheetsModel" "tape" "[B") (by decide +kernel)
  have hk17 := hts (.fieldLink RX9 17 "LeadSheetsModel" "halves" "[I") (by decide +kernel)
  have hk20 := hts (.fieldLink RX9 20 "LeadSheetsModel" "degrees" "[I") (by decide +kernel)
  have hk23 := hts (.fieldLink RX9 23 "LeadSheetsModel" "stepMany" "[I") (by decide +kernel)
  have hk166 := hts (.fieldLink RX9 166 "LeadSheetsModel" "text" "[B") (by decide +kernel)
  have hk169 := hts (.fieldLink RX9 169 "LeadSheetsModel" "half" "[I") (by decide +kernel)
  have hk172 := hts (.fieldLink RX9 172 "LeadSheetsModel" "degree" "[I") (by decide +kernel)
  have hk194 := hts (.fieldLink RX9 194 "LeadSheetsModel" "textSize" "I") (by decide +kernel)
  have hk202 := hts (.fieldLink RX9 202 "LeadSheetsModel" "p" "I") (by decide +kernel)
  have hk212 := hts (.fieldLink RX9 212 "LeadSheetsModel" "many" "I") (by decide +kernel)
  have hk219 := hts (.fieldLink RX9 219 "LeadSheetsModel" "taped" "I") (by decide +kernel)
  have hk255 := hts (.fieldLink RX9 255 "LeadSheetsModel" "letter" "I") (by decide +kernel)
  have hk258 := hts (.fieldLink RX9 258 "LeadSheetsModel" "signs" "I") (by decide +kernel)
  have hk265 := hts (.fieldLink RX9 265 "LeadSheetsModel" "chords" "I") (by decide +kernel)
  subst hsz
  have hD := hD0.self (sz := s.heap.size)
  generalize hAe : va_A (wM cI cB cJ Q B I A) s.heap.size = AA at hD ⊢
  have hA : ∀ q : Nat, s.heap.size ≤ q → AA q := fun q h => by rw [← hAe]; exact Or.inr h
  have hS : va_S AA s.heap s.heap [] := va_S.rf
  have sg197 : ∀ n : Nat, ∀ (I : Nat → Int32) (A : Nat → Nat → Int32) (v1 : Int32) (v2 : Int32) (v4 : Int32) (v5 : Int32) (H : Heap) (locs : List Loc) (ls : Array Slot), fX9_chord_197 B  n I A v1 v2 v4 v5 = some z → va_P (dC, dI) vwCl (wM cI cB cJ Q B I A) H → va_D AA (wM cI cB cJ Q B I A) → va_S AA s.heap H locs → lv_has ls 6 [(0, .ref (Q 100)), (1, .int v1), (2, .int v2), (4, .int v4), (5, .int v5)] → W p l e (headSpec wsX9_chord ({ frames := 5, cells := 0, slots := 0, locals := 117 })).room s m (([.ref (Q 100)] : List Value).toArray) below meth c H locs 0 0 (MQ below (va_Qi (fun (r : Int32) (u : (Nat → Int32) × (Nat → Nat → Int32)) => (r, u) = z) (atM dC dI cI cB cJ Q B AA) AA) (([.ref (Q 100)] : List Value).toArray) s 0 0 AA) (F0 m 197 ls []) := by
    intro n
    induction n with
    | zero => intro I A v1 v2 v4 v5 H locs ls hf hP hD hS hl; exact of_none hf
    | succ n ih197 =>
      intro I A v1 v2 v4 v5 H locs ls hf hP hD hS hl
      change fX9_chord_197B B  (fX9_chord_197 B  n) I A v1 v2 v4 v5 = _ at hf
      unfold fX9_chord_197B at hf
      refine lv_iload hx hb dX9_chord_197 (lv_at hl 4 rfl) ?_
      refine lv_aload_n hx hb dX9_chord_199 rfl (lv_at hl 0 rfl) ?_
      refine va_get (D := (dC, dI)) (ci := 6) (v := .int (I 26)) (C := RX9) (T := TX9) (N := 36) hx hb hts hinX9 hown hK hP 0 rfl rfl 26 (by decide) hk212 (fun _ h9 => h9) rfl dX9_chord_200 ?_
      refine lv_icmp_ge (tgt := 256) hx hb dX9_chord_203 (by decide) (fun c32 => ?_) (fun c32 => ?_)
      · have hf := (if_pos c32).symm.trans hf
        refine lv_aload_n hx hb dX9_chord_256 rfl (lv_at hl 0 rfl) ?_
        refine va_get (D := (dC, dI)) (ci := 6) (v := .ref (Q 5)) (C := RX9) (T := TX9) (N := 36) hx hb hts hinX9 hown hK hP 0 rfl rfl 5 (by decide) hk23 (fun _ h9 => h9) rfl dX9_chord_257 ?_
        refine lv_aload_n hx hb dX9_chord_260 rfl (lv_at hl 0 rfl) ?_
        refine va_get (D := (dC, dI)) (ci := 6) (v := .int (I 6)) (C := RX9) (T := TX9) (N := 36) hx hb hts hinX9 hown hK hP 0 rfl rfl 6 (by decide) hk265 (fun _ h9 => h9) rfl dX9_chord_261 ?_
        refine lv_aload_n hx hb dX9_chord_264 rfl (lv_at hl 0 rfl) ?_
        refine va_get (D := (dC, dI)) (ci := 6) (v := .int (I 26)) (C := RX9) (T := TX9) (N := 36) hx hb hts hinX9 hown hK hP 0 rfl rfl 26 (by decide) hk212 (fun _ h9 => h9) rfl dX9_chord_265 ?_
        obtain ⟨g33, hf⟩ := of_ite_some hf
        refine va_iast hx hb hK hP hD hS 5 0 (n := 100) (f := (A 5)) rfl rfl g33 dX9_chord_268 (fun H locs hP hD hS => ?_)
        have hP : va_P (dC, dI) vwCl (wM cI cB cJ Q B I (va_up A 5 (upd (A 5) (I 6).toNatClampNeg (I 26)))) H := Eq.mp (congrArg (fun w => va_P (dC, dI) vwCl w H) (wMA_5 cI cB cJ Q B I A (upd (A 5) (I 6).toNatClampNeg (I 26)))) hP
        have hD : va_D AA (wM cI cB cJ Q B I (va_up A 5 (upd (A 5) (I 6).toNatClampNeg (I 26)))) := Eq.mp (congrArg (fun w => va_D AA w) (wMA_5 cI cB cJ Q B I A (upd (A 5) (I 6).toNatClampNeg (I 26)))) hD
        refine lv_aload_n hx hb dX9_chord_269 rfl (lv_at hl 0 rfl) ?_
        refine lv_iload_n hx hb dX9_chord_270 rfl (lv_at hl 1 rfl) ?_
        refine lv_iload_n hx hb dX9_chord_271 rfl (lv_at hl 2 rfl) ?_
        refine lv_aload_n hx hb dX9_chord_272 rfl (lv_at hl 0 rfl) ?_
        refine va_get (D := (dC, dI)) (ci := 6) (v := .int (I 27)) (C := RX9) (T := TX9) (N := 36) hx hb hts hinX9 hown hK hP 0 rfl rfl 27 (by decide) hk255 (fun _ h9 => h9) rfl dX9_chord_273 ?_
        refine lv_aload_n hx hb dX9_chord_276 rfl (lv_at hl 0 rfl) ?_
        refine va_get (D := (dC, dI)) (ci := 6) (v := .int (I 28)) (C := RX9) (T := TX9) (N := 36) hx hb hts hinX9 hown hK hP 0 rfl rfl 28 (by decide) hk258 (fun _ h9 => h9) rfl dX9_chord_277 ?_
        refine lv_iload hx hb dX9_chord_280 (lv_at hl 3 rfl) ?_
        obtain ⟨⟨r37, I35, A36⟩, hc34, hf⟩ := of_bind_some hf
        have hF38 := va_freeAll hD hS hA
        refine va_calli (va_runV (As := [.int v1, .int v2, .int (I 27), .int (I 28), .int v4]) (rest := []) ⟨hx, hb, hml, hown, hts⟩ (mX9_laid l dC dI cI cB cJ Q B I (va_up A 5 (upd (A 5) (I 6).toNatClampNeg (I 26))) v1 v2 (I 27) (I 28) v4 H.size _ hc34) (cwV 5 hts gX9_chord_X9_laid rfl rfl rfl (by decide +kernel) ⟨Nat.le_of_ble_eq_true rfl, Nat.le_of_ble_eq_true rfl⟩) ⟨blindW, va_recv hK hP (ci := 6) (q0 := 0) rfl rfl, fun U hU hW => ⟨rfl, by rw [hU], by rw [hU]; exact hP, va_K.moved hW.alike hK, hD.weaken (fun _ _ _ _ => trivial)⟩⟩ rfl rfl hl.1 rfl (lv_room (Nat.le_of_ble_eq_true rfl)) dX9_chord_282 ⟨Nat.zero_le _, Nat.zero_le _⟩) hS (fun q _ h => hF38 q h) hF38 (fun r0 u t H locs ht hvm hw hB hz1 hk1 hS => ?_)
        cases hw
        obtain ⟨hP, hK9, hD⟩ := hB
        rw [ht] at hP
        have hP : va_P (dC, dI) vwCl (wM cI cB cJ Q B I35 A36) H := hP
        have hD : va_D AA (wM cI cB cJ Q B I35 A36) := hD.weaken (fun _ _ _ h => hF38 _ h)
        exact W.iret (v := r37) hx hb hr (fun t ht hW => ⟨⟨r37, (I35, A36), rfl, Option.some.inj hf, by rw [ht]; exact hP, va_K.moved hW.alike hK, hD⟩, hS.F ht⟩) hS.2.2 dX9_chord_285
      · have hf := (if_neg c32).symm.trans hf
        refine lv_aload_n hx hb dX9_chord_206 rfl (lv_at hl 0 rfl) ?_
        refine va_get (D := (dC, dI)) (ci := 6) (v := .ref (Q 3)) (C := RX9) (T := TX9) (N := 36) hx hb hts hinX9 hown hK hP 0 rfl rfl 3 (by decide) hk17 (fun _ h9 => h9) rfl dX9_chord_207 ?_
        refine lv_bipush (v := (16 : Int32)) hx hb dX9_chord_210 (by decide) ?_
        refine lv_aload_n hx hb dX9_chord_212 rfl (lv_at hl 0 rfl) ?_
        refine va_get (D := (dC, dI)) (ci := 6) (v := .int (I 6)) (C := RX9) (T := TX9) (N := 36) hx hb hts hinX9 hown hK hP 0 rfl rfl 6 (by decide) hk265 (fun _ h9 => h9) rfl dX9_chord_213 ?_
        refine lv_imul hx hb dX9_chord_216 ?_
        refine lv_iload hx hb dX9_chord_217 (lv_at hl 4 rfl) ?_
        refine lv_iadd hx hb dX9_chord_219 ?_
        refine lv_aload_n hx hb dX9_chord_220 rfl (lv_at hl 0 rfl) ?_
        refine va_get (D := (dC, dI)) (ci := 6) (v := .ref (Q 24)) (C := RX9) (T := TX9) (N := 36) hx hb hts hinX9 hown hK hP 0 rfl rfl 24 (by decide) hk169 (fun _ h9 => h9) rfl dX9_chord_221 ?_
        refine lv_iload hx hb dX9_chord_224 (lv_at hl 4 rfl) ?_
        obtain ⟨g39, hf⟩ := of_ite_some hf
        refine va_iald hx hb hK hP 18 0 (n := 16) (f := (A 24)) rfl rfl g39 dX9_chord_226 ?_
        obtain ⟨g40, hf⟩ := of_ite_some hf
        refine va_iast hx hb hK hP hD hS 3 0 (n := 1600) (f := (A 3)) rfl rfl g40 dX9_chord_227 (fun H locs hP hD hS => ?_)
        have hP : va_P (dC, dI) vwCl (wM cI cB cJ Q B I (va_up A 3 (upd (A 3) (((16 : Int32) * (I 6)) + v5).toNatClampNeg ((A 24) v5.toNatClampNeg)))) H := Eq.mp (congrArg (fun w => va_P (dC, dI) vwCl w H) (wMA_3 cI cB cJ Q B I A (upd (A 3) (((16 : Int32) * (I 6)) + v5).toNatClampNeg ((A 24) v5.toNatClampNeg)))) hP
        have hD : va_D AA (wM cI cB cJ Q B I (va_up A 3 (upd (A 3) (((16 : Int32) * (I 6)) + v5).toNatClampNeg ((A 24) v5.toNatClampNeg)))) := Eq.mp (congrArg (fun w => va_D AA w) (wMA_3 cI cB cJ Q B I A (upd (A 3) (((16 : Int32) * (I 6)) + v5).toNatClampNeg ((A 24) v5.toNatClampNeg)))) hD
        refine lv_aload_n hx hb dX9_chord_228 rfl (lv_at hl 0 rfl) ?_
        refine va_get (D := (dC, dI)) (ci := 6) (v := .ref (Q 4)) (C := RX9) (T := TX9) (N := 36) hx hb hts hinX9 hown hK hP 0 rfl rfl 4 (by decide) hk20 (fun _ h9 => h9) rfl dX9_chord_229 ?_
        refine lv_bipush (v := (16 : Int32)) hx hb dX9_chord_232 (by decide) ?_
        refine lv_aload_n hx hb dX9_chord_234 rfl (lv_at hl 0 rfl) ?_
        refine va_get (D := (dC, dI)) (ci := 6) (v := .int (I 6)) (C := RX9) (T := TX9) (N := 36) hx hb hts hinX9 hown hK hP 0 rfl rfl 6 (by decide) hk265 (fun _ h9 => h9) rfl dX9_chord_235 ?_
        refine lv_imul hx hb dX9_chord_238 ?_
        refine lv_iload hx hb dX9_chord_239 (lv_at hl 4 rfl) ?_
        refine lv_iadd hx hb dX9_chord_241 ?_
        refine lv_aload_n hx hb dX9_chord_242 rfl (lv_at hl 0 rfl) ?_
        refine va_get (D := (dC, dI)) (ci := 6) (v := .ref (Q 25)) (C := RX9) (T := TX9) (N := 36) hx hb hts hinX9 hown hK hP 0 rfl rfl 25 (by decide) hk172 (fun _ h9 => h9) rfl dX9_chord_243 ?_
        refine lv_iload hx hb dX9_chord_246 (lv_at hl 4 rfl) ?_
        obtain ⟨g41, hf⟩ := of_ite_some hf
        refine va_iald hx hb hK hP 19 0 (n := 16) (f := (A 25)) rfl rfl g41 dX9_chord_248 ?_
        obtain ⟨g42, hf⟩ := of_ite_some hf
        refine va_iast hx hb hK hP hD hS 4 0 (n := 1600) (f := (A 4)) rfl rfl g42 dX9_chord_249 (fun H locs hP hD hS => ?_)
        have hP : va_P (dC, dI) vwCl (wM cI cB cJ Q B I (va_up (va_up A 3 (upd (A 3) (((16 : Int32) * (I 6)) + v5).toNatClampNeg ((A 24) v5.toNatClampNeg))) 4 (upd (A 4) (((16 : Int32) * (I 6)) + v5).toNatClampNeg ((A 25) v5.toNatClampNeg)))) H := Eq.mp (congrArg (fun w => va_P (dC, dI) vwCl w H) (wMA_4 cI cB cJ Q B I (va_up A 3 (upd (A 3) (((16 : Int32) * (I 6)) + v5).toNatClampNeg ((A 24) v5.toNatClampNeg))) (upd (A 4) (((16 : Int32) * (I 6)) + v5).toNatClampNeg ((A 25) v5.toNatClampNeg)))) hP
        have hD : va_D AA (wM cI cB cJ Q B I (va_up (va_up A 3 (upd (A 3) (((16 : Int32) * (I 6)) + v5).toNatClampNeg ((A 24) v5.toNatClampNeg))) 4 (upd (A 4) (((16 : Int32) * (I 6)) + v5).toNatClampNeg ((A 25) v5.toNatClampNeg)))) := Eq.mp (congrArg (fun w => va_D AA w) (wMA_4 cI cB cJ Q B I (va_up A 3 (upd (A 3) (((16 : Int32) * (I 6)) + v5).toNatClampNeg ((A 24) v5.toNatClampNeg))) (upd (A 4) (((16 : Int32) * (I 6)) + v5).toNatClampNeg ((A 25) v5.toNatClampNeg)))) hD
        refine lv_iinc (v := (v5 + (1 : Int32))) (lv' := [(5, .int (v5 + (1 : Int32))), (0, .ref (Q 100)), (1, .int v1), (2, .int v2), (4, .int v4)]) hx hb dX9_chord_250 hl (k := 4) rfl rfl (by decide) rfl (fun ls hl => ?_)
        refine lv_goto (tgt := 197) hx hb dX9_chord_253 (by decide) ?_
        exact ih197 I (va_up (va_up A 3 (upd (A 3) (((16 : Int32) * (I 6)) + v5).toNatClampNeg ((A 24) v5.toNatClampNeg))) 4 (upd (A 4) (((16 : Int32) * (I 6)) + v5).toNatClampNeg ((A 25) v5.toNatClampNeg))) v1 v2 v4 (v5 + (1 : Int32)) H locs ls hf hP hD hS (lv_sub hl [1, 2, 3, 4, 0] rfl)
  have sg159 : ∀ (I : Nat → Int32) (A : Nat → Nat → Int32) (v1 : Int32) (v2 : Int32) (v4 : Int32) (H : Heap) (locs : List Loc) (ls : Array Slot), fX9_chord_159 B  I A v1 v2 v4 = some z → va_P (dC, dI) vwCl (wM cI cB cJ Q B I A) H → va_D AA (wM cI cB cJ Q B I A) → va_S AA s.heap H locs → lv_has ls 6 [(0, .ref (Q 100)), (1, .int v1), (2, .int v2), (4, .int v4)] → W p l e (headSpec wsX9_chord ({ frames := 5, cells := 0, slots := 0, locals := 117 })).room s m (([.ref (Q 100)] : List Value).toArray) below meth c H locs 0 0 (MQ below (va_Qi (fun (r : Int32) (u : (Nat → Int32) × (Nat → Nat → Int32)) => (r, u) = z) (atM dC dI cI cB cJ Q B AA) AA) (([.ref (Q 100)] : List Value).toArray) s 0 0 AA) (F0 m 159 ls []) := by
    intro I A v1 v2 v4 H locs ls hf hP hD hS hl
    unfold fX9_chord_159 at hf
    refine lv_aload_n hx hb dX9_chord_159 rfl (lv_at hl 0 rfl) ?_
    refine va_get (D := (dC, dI)) (ci := 6) (v := .int (I 23)) (C := RX9) (T := TX9) (N := 36) hx hb hts hinX9 hown hK hP 0 rfl rfl 23 (by decide) hk202 (fun _ h9 => h9) rfl dX9_chord_160 ?_
    refine lv_aload_n hx hb dX9_chord_163 rfl (lv_at hl 0 rfl) ?_
    refine va_get (D := (dC, dI)) (ci := 6) (v := .int (I 22)) (C := RX9) (T := TX9) (N := 36) hx hb hts hinX9 hown hK hP 0 rfl rfl 22 (by decide) hk194 (fun _ h9 => h9) rfl dX9_chord_164 ?_
    refine lv_icmp_ge (tgt := 178) hx hb dX9_chord_167 (by decide) (fun c26 => ?_) (fun c26 => ?_)
    · have hf := (if_pos c26).symm.trans hf
      refine lv_aload_n hx hb dX9_chord_178 rfl (lv_at hl 0 rfl) ?_
      refine va_get (D := (dC, dI)) (ci := 6) (v := .int (I 6)) (C := RX9) (T := TX9) (N := 36) hx hb hts hinX9 hown hK hP 0 rfl rfl 6 (by decide) hk265 (fun _ h9 => h9) rfl dX9_chord_179 ?_
      refine lv_bipush (v := (100 : Int32)) hx hb dX9_chord_182 (by decide) ?_
      refine lv_icmp_ne (tgt := 190) hx hb dX9_chord_184 (by decide) (fun c27 => ?_) (fun c27 => ?_)
      · have hf := (if_neg c27).symm.trans hf
        refine lv_aload_n hx hb dX9_chord_190 rfl (lv_at hl 0 rfl) ?_
        obtain ⟨⟨I29, A30⟩, hc28, hf⟩ := of_bind_some hf
        have hF31 := va_freeAll hD hS hA
        refine va_callv (va_runV (As := []) (rest := []) ⟨hx, hb, hml, hown, hts⟩ (mX9_sort l dC dI cI cB cJ Q B I A H.size _ hc28) (cwV 0 hts gX9_chord_X9_sort rfl rfl rfl (by decide +kernel) ⟨Nat.le_of_ble_eq_true rfl, Nat.le_of_ble_eq_true rfl⟩) ⟨blindW, va_recv hK hP (ci := 6) (q0 := 0) rfl rfl, fun U hU hW => ⟨rfl, by rw [hU], by rw [hU]; exact hP, va_K.moved hW.alike hK, hD.weaken (fun _ _ _ _ => trivial)⟩⟩ rfl rfl hl.1 rfl (lv_room (Nat.le_of_ble_eq_true rfl)) dX9_chord_191 ⟨Nat.zero_le _, Nat.zero_le _⟩) hS (fun q _ h => hF31 q h) hF31 (fun u t H locs ht hvm hw hB hz1 hk1 hS => ?_)
        cases hw
        obtain ⟨hP, hK9, hD⟩ := hB
        rw [ht] at hP
        have hP : va_P (dC, dI) vwCl (wM cI cB cJ Q B I29 A30) H := hP
        have hD : va_D AA (wM cI cB cJ Q B I29 A30) := hD.weaken (fun _ _ _ h => hF31 _ h)
        refine lv_iconst (v := (0 : Int32)) hx hb dX9_chord_194 (by decide) ?_
        refine lv_istore (lv' := [(5, .int (0 : Int32)), (0, .ref (Q 100)), (1, .int v1), (2, .int v2), (4, .int v4)]) hx hb dX9_chord_195 hl (by decide) rfl (fun ls hl => ?_)
        exact sg197  FU I29 A30 v1 v2 v4 (0 : Int32) H locs ls hf hP hD hS (lv_sub hl [1, 2, 3, 4, 0] rfl)
      · have hf := (if_pos c27).symm.trans hf
        refine lv_bipush (v := (-3 : Int32)) hx hb dX9_chord_187 (by decide) ?_
        exact W.iret (v := (-3 : Int32)) hx hb hr (fun t ht hW => ⟨⟨(-3 : Int32), (I, A), rfl, Option.some.inj hf, by rw [ht]; exact hP, va_K.moved hW.alike hK, hD⟩, hS.F ht⟩) hS.2.2 dX9_chord_189
    · have hf := (if_neg c26).symm.trans hf
      refine lv_bipush (v := (-10 : Int32)) hx hb dX9_chord_170 (by decide) ?_
      refine lv_aload_n hx hb dX9_chord_172 rfl (lv_at hl 0 rfl) ?_
      refine va_get (D := (dC, dI)) (ci := 6) (v := .int (I 23)) (C := RX9) (T := TX9) (N := 36) hx hb hts hinX9 hown hK hP 0 rfl rfl 23 (by decide) hk202 (fun _ h9 => h9) rfl dX9_chord_173 ?_
      refine lv_isub hx hb dX9_chord_176 ?_
      exact W.iret (v := ((-10 : Int32) - (I 23))) hx hb hr (fun t ht hW => ⟨⟨((-10 : Int32) - (I 23)), (I, A), rfl, Option.some.inj hf, by rw [ht]; exact hP, va_K.moved hW.alike hK, hD⟩, hS.F ht⟩) hS.2.2 dX9_chord_177
  have sg117 : ∀ (I : Nat → Int32) (A : Nat → Nat → Int32) (v1 : Int32) (v2 : Int32) (t0 : Int32) (H : Heap) (locs : List Loc) (ls : Array Slot), fX9_chord_117 B  I A v1 v2 t0 = some z → va_P (dC, dI) vwCl (wM cI cB cJ Q B I A) H → va_D AA (wM cI cB cJ Q B I A) → va_S AA s.heap H locs → lv_has ls 6 [(0, .ref (Q 100)), (1, .int v1), (2, .int v2)] → W p l e (headSpec wsX9_chord ({ frames := 5, cells := 0, slots := 0, locals := 117 })).room s m (([.ref (Q 100)] : List Value).toArray) below meth c H locs 0 0 (MQ below (va_Qi (fun (r : Int32) (u : (Nat → Int32) × (Nat → Nat → Int32)) => (r, u) = z) (atM dC dI cI cB cJ Q B AA) AA) (([.ref (Q 100)] : List Value).toArray) s 0 0 AA) (F0 m 117 ls [.int t0]) := by
    intro I A v1 v2 t0 H locs ls hf hP hD hS hl
    unfold fX9_chord_117 at hf
    refine lv_istore (lv' := [(4, .int t0), (0, .ref (Q 100)), (1, .int v1), (2, .int v2)]) hx hb dX9_chord_117 hl (by decide) rfl (fun ls hl => ?_)
    refine lv_iload hx hb dX9_chord_119 (lv_at hl 0 rfl) ?_
    refine lv_if_eq (tgt := 149) hx hb dX9_chord_121 (by decide) (fun c19 => ?_) (fun c19 => ?_)
    · have hf := (if_pos c19).symm.trans hf
      refine lv_aload_n hx hb dX9_chord_149 rfl (lv_at hl 1 rfl) ?_
      refine lv_iload_n hx hb dX9_chord_150 rfl (lv_at hl 2 rfl) ?_
      refine va_put (D := (dC, dI)) (ci := 6) (v := .int v1) (ty := .int) (C := RX9) (T := TX9) (N := 36) hx hb hts hinX9 tyX9 tyX9_ok nmX9 hown hK hP hD hS 0 (fs := (oM Q I)) rfl rfl 27 (by decide) hk255 (fun _ h9 => h9) rfl (by decide +kernel) rfl rfl (Nat.le_of_ble_eq_true rfl) dX9_chord_151 (fun H locs hP hD hS => ?_)
      have hP : va_P (dC, dI) vwCl (wM cI cB cJ Q B (upd I 27 v1) A) H := Eq.mp (congrArg (fun w => va_P (dC, dI) vwCl w H) (wMI_27 cI cB cJ Q B I A v1)) hP
      have hD : va_D AA (wM cI cB cJ Q B (upd I 27 v1) A) := Eq.mp (congrArg (fun w => va_D AA w) (wMI_27 cI cB cJ Q B I A v1)) hD
      refine lv_aload_n hx hb dX9_chord_154 rfl (lv_at hl 1 rfl) ?_
      refine lv_iload_n hx hb dX9_chord_155 rfl (lv_at hl 3 rfl) ?_
      refine va_put (D := (dC, dI)) (ci := 6) (v := .int v2) (ty := .int) (C := RX9) (T := TX9) (N := 36) hx hb hts hinX9 tyX9 tyX9_ok nmX9 hown hK hP hD hS 0 (fs := (oM Q (upd I 27 v1))) rfl rfl 28 (by decide) hk258 (fun _ h9 => h9) rfl (by decide +kernel) rfl rfl (Nat.le_of_ble_eq_true rfl) dX9_chord_156 (fun H locs hP hD hS => ?_)
      have hP : va_P (dC, dI) vwCl (wM cI cB cJ Q B (upd (upd I 27 v1) 28 v2) A) H := Eq.mp (congrArg (fun w => va_P (dC, dI) vwCl w H) (wMI_28 cI cB cJ Q B (upd I 27 v1) A v2)) hP
      have hD : va_D AA (wM cI cB cJ Q B (upd (upd I 27 v1) 28 v2) A) := Eq.mp (congrArg (fun w => va_D AA w) (wMI_28 cI cB cJ Q B (upd I 27 v1) A v2)) hD
      exact sg159  (upd (upd I 27 v1) 28 v2) A v1 v2 t0 H locs ls hf hP hD hS (lv_sub hl [1, 2, 3, 0] rfl)
    · have hf := (if_neg c19).symm.trans hf
      refine lv_aload_n hx hb dX9_chord_124 rfl (lv_at hl 1 rfl) ?_
      refine lv_dup hx hb dX9_chord_125 rfl ?_
      refine va_get (D := (dC, dI)) (ci := 6) (v := .int (I 23)) (C := RX9) (T := TX9) (N := 36) hx hb hts hinX9 hown hK hP 0 rfl rfl 23 (by decide) hk202 (fun _ h9 => h9) rfl dX9_chord_126 ?_
      refine lv_iconst (v := (1 : Int32)) hx hb dX9_chord_129 (by decide) ?_
      refine lv_iadd hx hb dX9_chord_130 ?_
      refine va_put (D := (dC, dI)) (ci := 6) (v := .int ((I 23) + (1 : Int32))) (ty := .int) (C := RX9) (T := TX9) (N := 36) hx hb hts hinX9 tyX9 tyX9_ok nmX9 hown hK hP hD hS 0 (fs := (oM Q I)) rfl rfl 23 (by decide) hk202 (fun _ h9 => h9) rfl (by decide +kernel) rfl rfl (Nat.le_of_ble_eq_true rfl) dX9_chord_131 (fun H locs hP hD hS => ?_)
      have hP : va_P (dC, dI) vwCl (wM cI cB cJ Q B (upd I 23 ((I 23) + (1 : Int32))) A) H := Eq.mp (congrArg (fun w => va_P (dC, dI) vwCl w H) (wMI_23 cI cB cJ Q B I A ((I 23) + (1 : Int32)))) hP
      have hD : va_D AA (wM cI cB cJ Q B (upd I 23 ((I 23) + (1 : Int32))) A) := Eq.mp (congrArg (fun w => va_D AA w) (wMI_23 cI cB cJ Q B I A ((I 23) + (1 : Int32)))) hD
      refine lv_aload_n hx hb dX9_chord_134 rfl (lv_at hl 1 rfl) ?_
      obtain ⟨⟨r23, I21, A22⟩, hc20, hf⟩ := of_bind_some hf
      have hF24 := va_freeAll hD hS hA
      refine va_calli (va_runV (As := []) (rest := []) ⟨hx, hb, hml, hown, hts⟩ (mX9_note l dC dI cI cB cJ Q B (upd I 23 ((I 23) + (1 : Int32))) A H.size _ hc20) (cwV 0 hts gX9_chord_X9_note rfl rfl rfl (by decide +kernel) ⟨Nat.le_of_ble_eq_true rfl, Nat.le_of_ble_eq_true rfl⟩) ⟨blindW, va_recv hK hP (ci := 6) (q0 := 0) rfl rfl, fun U hU hW => ⟨rfl, by rw [hU], by rw [hU]; exact hP, va_K.moved hW.alike hK, hD.weaken (fun _ _ _ _ => trivial)⟩⟩ rfl rfl hl.1 rfl (lv_room (Nat.le_of_ble_eq_true rfl)) dX9_chord_135 ⟨Nat.zero_le _, Nat.zero_le _⟩) hS (fun q _ h => hF24 q h) hF24 (fun r0 u t H locs ht hvm hw hB hz1 hk1 hS => ?_)
      cases hw
      obtain ⟨hP, hK9, hD⟩ := hB
      rw [ht] at hP
      have hP : va_P (dC, dI) vwCl (wM cI cB cJ Q B I21 A22) H := hP
      have hD : va_D AA (wM cI cB cJ Q B I21 A22) := hD.weaken (fun _ _ _ h => hF24 _ h)
      refine lv_if_ne (tgt := 159) hx hb dX9_chord_138 (by decide) (fun c25 => ?_) (fun c25 => ?_)
      · have hf := (if_neg c25).symm.trans hf
        exact sg159  I21 A22 v1 v2 t0 H locs ls hf hP hD hS (lv_sub hl [1, 2, 3, 0] rfl)
      · have hf := (if_pos c25).symm.trans hf
        refine lv_bipush (v := (-10 : Int32)) hx hb dX9_chord_141 (by decide) ?_
        refine lv_aload_n hx hb dX9_chord_143 rfl (lv_at hl 1 rfl) ?_
        refine va_get (D := (dC, dI)) (ci := 6) (v := .int (I21 23)) (C := RX9) (T := TX9) (N := 36) hx hb hts hinX9 hown hK hP 0 rfl rfl 23 (by decide) hk202 (fun _ h9 => h9) rfl dX9_chord_144 ?_
        refine lv_isub hx hb dX9_chord_147 ?_
        exact W.iret (v := ((-10 : Int32) - (I21 23))) hx hb hr (fun t ht hW => ⟨⟨((-10 : Int32) - (I21 23)), (I21, A22), rfl, Option.some.inj hf, by rw [ht]; exact hP, va_K.moved hW.alike hK, hD⟩, hS.F ht⟩) hS.2.2 dX9_chord_148
  have sg10 : ∀ n : Nat, ∀ (I : Nat → Int32) (A : Nat → Nat → Int32) (v1 : Int32) (H : Heap) (locs : List Loc) (ls : Array Slot), fX9_chord_10 B  n I A v1 = some z → va_P (dC, dI) vwCl (wM cI cB cJ Q B I A) H → va_D AA (wM cI cB cJ Q B I A) → va_S AA s.heap H locs → lv_has ls 6 [(0, .ref (Q 100)), (1, .int v1)] → W p l e (headSpec wsX9_chord ({ frames := 5, cells := 0, slots := 0, locals := 117 })).room s m (([.ref (Q 100)] : List Value).toArray) below meth c H locs 0 0 (MQ below (va_Qi (fun (r : Int32) (u : (Nat → Int32) × (Nat → Nat → Int32)) => (r, u) = z) (atM dC dI cI cB cJ Q B AA) AA) (([.ref (Q 100)] : List Value).toArray) s 0 0 AA) (F0 m 10 ls []) := by
    intro n
    induction n with
    | zero => intro I A v1 H locs ls hf hP hD hS hl; exact of_none hf
    | succ n ih10 =>
      intro I A v1 H locs ls hf hP hD hS hl
      change fX9_chord_10B B  (fX9_chord_10 B  n) I A v1 = _ at hf
      unfold fX9_chord_10B at hf
      refine lv_iload_n hx hb dX9_chord_10 rfl (lv_at hl 1 rfl) ?_
      refine lv_aload_n hx hb dX9_chord_11 rfl (lv_at hl 0 rfl) ?_
      refine va_get (D := (dC, dI)) (ci := 6) (v := .int (I 1)) (C := RX9) (T := TX9) (N := 36) hx hb hts hinX9 hown hK hP 0 rfl rfl 1 (by decide) hk219 (fun _ h9 => h9) rfl dX9_chord_12 ?_
      refine lv_icmp_ge (tgt := 36) hx hb dX9_chord_15 (by decide) (fun c1 => ?_) (fun c1 => ?_)
      · have hf := (if_pos c1).symm.trans hf
        refine lv_aload_n hx hb dX9_chord_36 rfl (lv_at hl 0 rfl) ?_
        refine lv_iconst (v := (0 : Int32)) hx hb dX9_chord_37 (by decide) ?_
        refine va_put (D := (dC, dI)) (ci := 6) (v := .int (0 : Int32)) (ty := .int) (C := RX9) (T := TX9) (N := 36) hx hb hts hinX9 tyX9 tyX9_ok nmX9 hown hK hP hD hS 0 (fs := (oM Q I)) rfl rfl 1 (by decide) hk219 (fun _ h9 => h9) rfl (by decide +kernel) rfl rfl (Nat.le_of_ble_eq_true rfl) dX9_chord_38 (fun H locs hP hD hS => ?_)
        have hP : va_P (dC, dI) vwCl (wM cI cB cJ Q B (upd I 1 (0 : Int32)) A) H := Eq.mp (congrArg (fun w => va_P (dC, dI) vwCl w H) (wMI_1 cI cB cJ Q B I A (0 : Int32))) hP
        have hD : va_D AA (wM cI cB cJ Q B (upd I 1 (0 : Int32)) A) := Eq.mp (congrArg (fun w => va_D AA w) (wMI_1 cI cB cJ Q B I A (0 : Int32))) hD
        refine lv_aload_n hx hb dX9_chord_41 rfl (lv_at hl 0 rfl) ?_
        refine lv_iconst (v := (0 : Int32)) hx hb dX9_chord_42 (by decide) ?_
        refine va_put (D := (dC, dI)) (ci := 6) (v := .int (0 : Int32)) (ty := .int) (C := RX9) (T := TX9) (N := 36) hx hb hts hinX9 tyX9 tyX9_ok nmX9 hown hK hP hD hS 0 (fs := (oM Q (upd I 1 (0 : Int32)))) rfl rfl 23 (by decide) hk202 (fun _ h9 => h9) rfl (by decide +kernel) rfl rfl (Nat.le_of_ble_eq_true rfl) dX9_chord_43 (fun H locs hP hD hS => ?_)
        have hP : va_P (dC, dI) vwCl (wM cI cB cJ Q B (upd (upd I 1 (0 : Int32)) 23 (0 : Int32)) A) H := Eq.mp (congrArg (fun w => va_P (dC, dI) vwCl w H) (wMI_23 cI cB cJ Q B (upd I 1 (0 : Int32)) A (0 : Int32))) hP
        have hD : va_D AA (wM cI cB cJ Q B (upd (upd I 1 (0 : Int32)) 23 (0 : Int32)) A) := Eq.mp (congrArg (fun w => va_D AA w) (wMI_23 cI cB cJ Q B (upd I 1 (0 : Int32)) A (0 : Int32))) hD
        refine lv_aload_n hx hb dX9_chord_46 rfl (lv_at hl 0 rfl) ?_
        obtain ⟨⟨r5, I3, A4⟩, hc2, hf⟩ := of_bind_some hf
        have hF6 := va_freeAll hD hS hA
        refine va_calli (va_runV (As := []) (rest := []) ⟨hx, hb, hml, hown, hts⟩ (mX9_note l dC dI cI cB cJ Q B (upd (upd I 1 (0 : Int32)) 23 (0 : Int32)) A H.size _ hc2) (cwV 0 hts gX9_chord_X9_note rfl rfl rfl (by decide +kernel) ⟨Nat.le_of_ble_eq_true rfl, Nat.le_of_ble_eq_true rfl⟩) ⟨blindW, va_recv hK hP (ci := 6) (q0 := 0) rfl rfl, fun U hU hW => ⟨rfl, by rw [hU], by rw [hU]; exact hP, va_K.moved hW.alike hK, hD.weaken (fun _ _ _ _ => trivial)⟩⟩ rfl rfl hl.1 rfl (lv_room (Nat.le_of_ble_eq_true rfl)) dX9_chord_47 ⟨Nat.zero_le _, Nat.zero_le _⟩) hS (fun q _ h => hF6 q h) hF6 (fun r0 u t H locs ht hvm hw hB hz1 hk1 hS => ?_)
        cases hw
        obtain ⟨hP, hK9, hD⟩ := hB
        rw [ht] at hP
        have hP : va_P (dC, dI) vwCl (wM cI cB cJ Q B I3 A4) H := hP
        have hD : va_D AA (wM cI cB cJ Q B I3 A4) := hD.weaken (fun _ _ _ h => hF6 _ h)
        refine lv_if_ne (tgt := 61) hx hb dX9_chord_50 (by decide) (fun c7 => ?_) (fun c7 => ?_)
        · have hf := (if_neg c7).symm.trans hf
          refine lv_aload_n hx hb dX9_chord_61 rfl (lv_at hl 0 rfl) ?_
          refine va_get (D := (dC, dI)) (ci := 6) (v := .int (I3 27)) (C := RX9) (T := TX9) (N := 36) hx hb hts hinX9 hown hK hP 0 rfl rfl 27 (by decide) hk255 (fun _ h9 => h9) rfl dX9_chord_62 ?_
          refine lv_istore_n (lv' := [(1, .int (I3 27)), (0, .ref (Q 100))]) hx hb dX9_chord_65 rfl hl (by decide) rfl (fun ls hl => ?_)
          refine lv_aload_n hx hb dX9_chord_66 rfl (lv_at hl 1 rfl) ?_
          refine va_get (D := (dC, dI)) (ci := 6) (v := .int (I3 28)) (C := RX9) (T := TX9) (N := 36) hx hb hts hinX9 hown hK hP 0 rfl rfl 28 (by decide) hk258 (fun _ h9 => h9) rfl dX9_chord_67 ?_
          refine lv_istore_n (lv' := [(2, .int (I3 28)), (1, .int (I3 27)), (0, .ref (Q 100))]) hx hb dX9_chord_70 rfl hl (by decide) rfl (fun ls hl => ?_)
          refine lv_aload_n hx hb dX9_chord_71 rfl (lv_at hl 2 rfl) ?_
          obtain ⟨⟨r11, I9, A10⟩, hc8, hf⟩ := of_bind_some hf
          have hF12 := va_freeAll hD hS hA
          refine va_calli (va_runV (As := []) (rest := []) ⟨hx, hb, hml, hown, hts⟩ (mX9_readBody l dC dI cI cB cJ Q B I3 A4 H.size _ hc8) (cwV 0 hts gX9_chord_X9_readBody rfl rfl rfl (by decide +kernel) ⟨Nat.le_of_ble_eq_true rfl, Nat.le_of_ble_eq_true rfl⟩) ⟨blindW, va_recv hK hP (ci := 6) (q0 := 0) rfl rfl, fun U hU hW => ⟨rfl, by rw [hU], by rw [hU]; exact hP, va_K.moved hW.alike hK, hD.weaken (fun _ _ _ _ => trivial)⟩⟩ rfl rfl hl.1 rfl (lv_room (Nat.le_of_ble_eq_true rfl)) dX9_chord_72 ⟨Nat.zero_le _, Nat.zero_le _⟩) hS (fun q _ h => hF12 q h) hF12 (fun r0 u t H locs ht hvm hw hB hz1 hk1 hS => ?_)
          cases hw
          obtain ⟨hP, hK9, hD⟩ := hB
          rw [ht] at hP
          have hP : va_P (dC, dI) vwCl (wM cI cB cJ Q B I9 A10) H := hP
          have hD : va_D AA (wM cI cB cJ Q B I9 A10) := hD.weaken (fun _ _ _ h => hF12 _ h)
          refine lv_istore_n (lv' := [(3, .int r11), (2, .int (I3 28)), (1, .int (I3 27)), (0, .ref (Q 100))]) hx hb dX9_chord_75 rfl hl (by decide) rfl (fun ls hl => ?_)
          refine lv_iload_n hx hb dX9_chord_76 rfl (lv_at hl 0 rfl) ?_
          refine lv_bipush (v := (-2 : Int32)) hx hb dX9_chord_77 (by decide) ?_
          refine lv_icmp_eq (tgt := 87) hx hb dX9_chord_79 (by decide) (fun c13 => ?_) (fun c13 => ?_)
          · have hf := (if_pos c13).symm.trans hf
            refine lv_aload_n hx hb dX9_chord_87 rfl (lv_at hl 3 rfl) ?_
            refine va_get (D := (dC, dI)) (ci := 6) (v := .int (I9 23)) (C := RX9) (T := TX9) (N := 36) hx hb hts hinX9 hown hK hP 0 rfl rfl 23 (by decide) hk202 (fun _ h9 => h9) rfl dX9_chord_88 ?_
            refine lv_aload_n hx hb dX9_chord_91 rfl (lv_at hl 3 rfl) ?_
            refine va_get (D := (dC, dI)) (ci := 6) (v := .int (I9 22)) (C := RX9) (T := TX9) (N := 36) hx hb hts hinX9 hown hK hP 0 rfl rfl 22 (by decide) hk194 (fun _ h9 => h9) rfl dX9_chord_92 ?_
            refine lv_icmp_ge (tgt := 116) hx hb dX9_chord_95 (by decide) (fun c14 => ?_) (fun c14 => ?_)
            · have hf := (if_pos c14).symm.trans hf
              refine lv_iconst (v := (0 : Int32)) hx hb dX9_chord_116 (by decide) ?_
              exact sg117  I9 A10 (I3 27) (I3 28) (0 : Int32) H locs ls hf hP hD hS (lv_sub hl [3, 2, 1] rfl)
            · have hf := (if_neg c14).symm.trans hf
              refine lv_aload_n hx hb dX9_chord_98 rfl (lv_at hl 3 rfl) ?_
              refine va_get (D := (dC, dI)) (ci := 6) (v := .ref (Q 21)) (C := RX9) (T := TX9) (N := 36) hx hb hts hinX9 hown hK hP 0 rfl rfl 21 (by decide) hk166 (fun _ h9 => h9) rfl dX9_chord_99 ?_
              refine lv_aload_n hx hb dX9_chord_102 rfl (lv_at hl 3 rfl) ?_
              refine va_get (D := (dC, dI)) (ci := 6) (v := .int (I9 23)) (C := RX9) (T := TX9) (N := 36) hx hb hts hinX9 hown hK hP 0 rfl rfl 23 (by decide) hk202 (fun _ h9 => h9) rfl dX9_chord_103 ?_
              obtain ⟨g15, hf⟩ := of_ite_some hf
              refine va_bald hx hb hK hP 17 1 (n := 64) (f := (A10 21)) rfl rfl g15 dX9_chord_106 ?_
              refine lv_bipush (v := (47 : Int32)) hx hb dX9_chord_107 (by decide) ?_
              refine lv_icmp_ne (tgt := 116) hx hb dX9_chord_109 (by decide) (fun c16 => ?_) (fun c16 => ?_)
              · have hf := (if_neg c16).symm.trans hf
                refine lv_iconst (v := (0 : Int32)) hx hb dX9_chord_116 (by decide) ?_
                exact sg117  I9 A10 (I3 27) (I3 28) (0 : Int32) H locs ls hf hP hD hS (lv_sub hl [3, 2, 1] rfl)
              · have hf := (if_pos c16).symm.trans hf
                refine lv_iconst (v := (1 : Int32)) hx hb dX9_chord_112 (by decide) ?_
                refine lv_goto (tgt := 117) hx hb dX9_chord_113 (by decide) ?_
                exact sg117  I9 A10 (I3 27) (I3 28) (1 : Int32) H locs ls hf hP hD hS (lv_sub hl [3, 2, 1] rfl)
          · have hf := (if_neg c13).symm.trans hf
            refine lv_bipush (v := (-10 : Int32)) hx hb dX9_chord_82 (by decide) ?_
            refine lv_iload_n hx hb dX9_chord_84 rfl (lv_at hl 0 rfl) ?_
            refine lv_isub hx hb dX9_chord_85 ?_
            exact W.iret (v := ((-10 : Int32) - r11)) hx hb hr (fun t ht hW => ⟨⟨((-10 : Int32) - r11), (I9, A10), rfl, Option.some.inj hf, by rw [ht]; exact hP, va_K.moved hW.alike hK, hD⟩, hS.F ht⟩) hS.2.2 dX9_chord_86
        · have hf := (if_pos c7).symm.trans hf
          refine lv_bipush (v := (-10 : Int32)) hx hb dX9_chord_53 (by decide) ?_
          refine lv_aload_n hx hb dX9_chord_55 rfl (lv_at hl 0 rfl) ?_
          refine va_get (D := (dC, dI)) (ci := 6) (v := .int (I3 23)) (C := RX9) (T := TX9) (N := 36) hx hb hts hinX9 hown hK hP 0 rfl rfl 23 (by decide) hk202 (fun _ h9 => h9) rfl dX9_chord_56 ?_
          refine lv_isub hx hb dX9_chord_59 ?_
          exact W.iret (v := ((-10 : Int32) - (I3 23))) hx hb hr (fun t ht hW => ⟨⟨((-10 : Int32) - (I3 23)), (I3, A4), rfl, Option.some.inj hf, by rw [ht]; exact hP, va_K.moved hW.alike hK, hD⟩, hS.F ht⟩) hS.2.2 dX9_chord_60
      · have hf := (if_neg c1).symm.trans hf
        refine lv_aload_n hx hb dX9_chord_18 rfl (lv_at hl 0 rfl) ?_
        refine va_get (D := (dC, dI)) (ci := 6) (v := .ref (Q 21)) (C := RX9) (T := TX9) (N := 36) hx hb hts hinX9 hown hK hP 0 rfl rfl 21 (by decide) hk166 (fun _ h9 => h9) rfl dX9_chord_19 ?_
        refine lv_iload_n hx hb dX9_chord_22 rfl (lv_at hl 1 rfl) ?_
        refine lv_aload_n hx hb dX9_chord_23 rfl (lv_at hl 0 rfl) ?_
        refine va_get (D := (dC, dI)) (ci := 6) (v := .ref (Q 0)) (C := RX9) (T := TX9) (N := 36) hx hb hts hinX9 hown hK hP 0 rfl rfl 0 (by decide) hk7 (fun _ h9 => h9) rfl dX9_chord_24 ?_
        refine lv_iload_n hx hb dX9_chord_27 rfl (lv_at hl 1 rfl) ?_
        obtain ⟨g17, hf⟩ := of_ite_some hf
        refine va_bald hx hb hK hP 1 1 (n := 40) (f := (A 0)) rfl rfl g17 dX9_chord_28 ?_
        obtain ⟨g18, hf⟩ := of_ite_some hf
        refine va_bast hx hb hK hP hD hS 17 1 (n := 64) (f := (A 21)) rfl rfl g18 dX9_chord_29 (fun H locs hP hD hS => ?_)
        have hP : va_P (dC, dI) vwCl (wM cI cB cJ Q B I (va_up A 21 (upd (A 21) v1.toNatClampNeg (vp_nar .byte ((A 0) v1.toNatClampNeg))))) H := Eq.mp (congrArg (fun w => va_P (dC, dI) vwCl w H) (wMA_21 cI cB cJ Q B I A (upd (A 21) v1.toNatClampNeg (vp_nar .byte ((A 0) v1.toNatClampNeg))))) hP
        have hD : va_D AA (wM cI cB cJ Q B I (va_up A 21 (upd (A 21) v1.toNatClampNeg (vp_nar .byte ((A 0) v1.toNatClampNeg))))) := Eq.mp (congrArg (fun w => va_D AA w) (wMA_21 cI cB cJ Q B I A (upd (A 21) v1.toNatClampNeg (vp_nar .byte ((A 0) v1.toNatClampNeg))))) hD
        refine lv_iinc (v := (v1 + (1 : Int32))) (lv' := [(1, .int (v1 + (1 : Int32))), (0, .ref (Q 100))]) hx hb dX9_chord_30 hl (k := 1) rfl rfl (by decide) rfl (fun ls hl => ?_)
        refine lv_goto (tgt := 10) hx hb dX9_chord_33 (by decide) ?_
        exact ih10 I (va_up A 21 (upd (A 21) v1.toNatClampNeg (vp_nar .byte ((A 0) v1.toNatClampNeg)))) (v1 + (1 : Int32)) H locs ls hf hP hD hS (lv_sub hl [1, 0] rfl)
  have hl := lv_entry ([.ref (Q 100)]) (n := 6) (Nat.le_of_ble_eq_true rfl)
  rw [lg_entry_eq]
  generalize (lg_sl ([.ref (Q 100)]) ++ List.replicate (6 - (lg_sl ([.ref (Q 100)])).length) Slot.unset).toArray = ls at hl ⊢
  have hl : lv_has ls 6 [(0, .ref (Q 100))] := hl
  unfold fX9_chord at hf
  refine lv_aload_n hx hb dX9_chord_0 rfl (lv_at hl 0 rfl) ?_
  refine lv_aload_n hx hb dX9_chord_1 rfl (lv_at hl 0 rfl) ?_
  refine va_get (D := (dC, dI)) (ci := 6) (v := .int (I 1)) (C := RX9) (T := TX9) (N := 36) hx hb hts hinX9 hown hK hP 0 rfl rfl 1 (by decide) hk219 (fun _ h9 => h9) rfl dX9_chord_2 ?_
  refine va_put (D := (dC, dI)) (ci := 6) (v := .int (I 1)) (ty := .int) (C := RX9) (T := TX9) (N := 36) hx hb hts hinX9 tyX9 tyX9_ok nmX9 hown hK hP hD hS 0 (fs := (oM Q I)) rfl rfl 22 (by decide) hk194 (fun _ h9 => h9) rfl (by decide +kernel) rfl rfl (Nat.le_of_ble_eq_true rfl) dX9_chord_5 (fun H locs hP hD hS => ?_)
  have hP : va_P (dC, dI) vwCl (wM cI cB cJ Q B (upd I 22 (I 1)) A) H := Eq.mp (congrArg (fun w => va_P (dC, dI) vwCl w H) (wMI_22 cI cB cJ Q B I A (I 1))) hP
  have hD : va_D AA (wM cI cB cJ Q B (upd I 22 (I 1)) A) := Eq.mp (congrArg (fun w => va_D AA w) (wMI_22 cI cB cJ Q B I A (I 1))) hD
  refine lv_iconst (v := (0 : Int32)) hx hb dX9_chord_8 (by decide) ?_
  refine lv_istore_n (lv' := [(1, .int (0 : Int32)), (0, .ref (Q 100))]) hx hb dX9_chord_9 rfl hl (by decide) rfl (fun ls hl => ?_)
  exact sg10  FU (upd I 22 (I 1)) A (0 : Int32) H locs ls hf hP hD hS (lv_sub hl [1, 0] rfl)
def fX9_normal_188B (B : Nat → Nat → Int64)  (k188 : (Nat → Int32) → (Nat → Nat → Int32) → Int32 → Int32 → Int32 → Option (Int32 × (Nat → Int32) × (Nat → Nat → Int32))) (I : Nat → Int32) (A : Nat → Nat → Int32) (v2 : Int32) (v4 : Int32) (v5 : Int32) : Option (Int32 × (Nat → Int32) × (Nat → Nat → Int32)) :=
  (if v2 ≤ v5 then (if v4 = 0 then (some ((0 : Int32), (I, A))) else (some ((1 : Int32), (I, A)))) else (if gd v5 64 then (if gd v5 64 then (k188 I (va_up A 7 (upd (A 7) v5.toNatClampNeg (vp_nar .byte ((A 31) v5.toNatClampNeg)))) v2 v4 (v5 + (1 : Int32))) else none) else none))
def fX9_normal_188 (B : Nat → Nat → Int64)  : Nat → ((Nat → Int32) → (Nat → Nat → Int32) → Int32 → Int32 → Int32 → Option (Int32 × (Nat → Int32) × (Nat → Nat → Int32)))
  | 0 => fun _ _ _ _ _ => none
  | n + 1 => fX9_normal_188B B  (fX9_normal_188 B  n)
def fX9_normal_139B (B : Nat → Nat → Int64)  (k139 : (Nat → Int32) → (Nat → Nat → Int32) → Int32 → Int32 → Int32 → Int32 → Option (Int32 × (Nat → Int32) × (Nat → Nat → Int32))) (I : Nat → Int32) (A : Nat → Nat → Int32) (v2 : Int32) (v3 : Int32) (v4 : Int32) (v5 : Int32) : Option (Int32 × (Nat → Int32) × (Nat → Nat → Int32)) :=
  (if v3 ≤ v5 then (fX9_normal_188 B  FU (upd I 8 v2) A v2 v4 (0 : Int32)) else (if v4 = 0 then (fX9_normal_188 B  FU (upd I 8 v2) A v2 v4 (0 : Int32)) else (if gd v5 64 then (if gd v5 64 then (if ((A 7) v5.toNatClampNeg) = ((A 32) v5.toNatClampNeg) then (k139 I A v2 v3 (1 : Int32) (v5 + (1 : Int32))) else (k139 I A v2 v3 (0 : Int32) (v5 + (1 : Int32)))) else none) else none)))
def fX9_normal_139 (B : Nat → Nat → Int64)  : Nat → ((Nat → Int32) → (Nat → Nat → Int32) → Int32 → Int32 → Int32 → Int32 → Option (Int32 × (Nat → Int32) × (Nat → Nat → Int32)))
  | 0 => fun _ _ _ _ _ _ => none
  | n + 1 => fX9_normal_139B B  (fX9_normal_139 B  n)
def fX9_normal_105 (B : Nat → Nat → Int64)  (I : Nat → Int32) (A : Nat → Nat → Int32) (v2 : Int32) (v3 : Int32) (t0 : Int32) : Option (Int32 × (Nat → Int32) × (Nat → Nat → Int32)) :=
  (if t0 = 0 then (fX9_normal_188 B  FU (upd I 8 v2) A v2 t0 (0 : Int32)) else ((fX9_showsName_vnames B I A (0 : Int32)).bind fun (I25, A26) => (if (I25 8) = v3 then (fX9_normal_139 B  FU I25 A26 v2 v3 (1 : Int32) (0 : Int32)) else (fX9_normal_139 B  FU I25 A26 v2 v3 (0 : Int32) (0 : Int32)))))
def fX9_normal_67B (B : Nat → Nat → Int64)  (k67 : (Nat → Int32) → (Nat → Nat → Int32) → Int32 → Int32 → Int32 → Option (Int32 × (Nat → Int32) × (Nat → Nat → Int32))) (I : Nat → Int32) (A : Nat → Nat → Int32) (v2 : Int32) (v3 : Int32) (v4 : Int32) : Option (Int32 × (Nat → Int32) × (Nat → Nat → Int32)) :=
  (if v3 ≤ v4 then (if (I 30) ≤ 0 then (fX9_normal_105 B  I A v2 v3 (0 : Int32)) else (fX9_normal_105 B  I A v2 v3 (1 : Int32))) else (if gd v4 64 then (if gd v4 64 then (k67 I (va_up A 32 (upd (A 32) v4.toNatClampNeg (vp_nar .byte ((A 7) v4.toNatClampNeg)))) v2 v3 (v4 + (1 : Int32))) else none) else none))
def fX9_normal_67 (B : Nat → Nat → Int64)  : Nat → ((Nat → Int32) → (Nat → Nat → Int32) → Int32 → Int32 → Int32 → Option (Int32 × (Nat → Int32) × (Nat → Nat → Int32)))
  | 0 => fun _ _ _ _ _ => none
  | n + 1 => fX9_normal_67B B  (fX9_normal_67 B  n)
def fX9_normal_17B (B : Nat → Nat → Int64)  (k17 : (Nat → Int32) → (Nat → Nat → Int32) → Int32 → Int32 → Int32 → Option (Int32 × (Nat → Int32) × (Nat → Nat → Int32))) (I : Nat → Int32) (A : Nat → Nat → Int32) (v1 : Int32) (v2 : Int32) (v3 : Int32) : Option (Int32 × (Nat → Int32) × (Nat → Nat → Int32)) :=
  (if v2 ≤ v3 then ((fX9_setOf B I A v1).bind fun r5 => ((fX9_bassOf B I A v1).bind fun r7 => ((fX9_finds B I A r5 r7).bind fun (I10, A11) => ((fX9_writes B I10 A11 v1).bind fun (I14, A15) => (fX9_normal_67 B  FU I14 A15 v2 (I14 8) (0 : Int32)))))) else (if gd v3 64 then (if gd v3 64 then (k17 I (va_up A 31 (upd (A 31) v3.toNatClampNeg (vp_nar .byte ((A 7) v3.toNatClampNeg)))) v1 v2 (v3 + (1 : Int32))) else none) else none))
def fX9_normal_17 (B : Nat → Nat → Int64)  : Nat → ((Nat → Int32) → (Nat → Nat → Int32) → Int32 → Int32 → Int32 → Option (Int32 × (Nat → Int32) × (Nat → Nat → Int32)))
  | 0 => fun _ _ _ _ _ => none
  | n + 1 => fX9_normal_17B B  (fX9_normal_17 B  n)
def fX9_normal (B : Nat → Nat → Int64) (I : Nat → Int32) (A : Nat → Nat → Int32) (x1 : Int32) : Option (Int32 × (Nat → Int32) × (Nat → Nat → Int32)) :=
  ((fX9_isChord B I A x1).bind fun r1 => (if r1 = 0 then (some ((-1 : Int32), (I, A))) else (fX9_normal_17 B  FU I A x1 (I 8) (0 : Int32))))
set_option maxRecDepth 100000 in
set_option maxHeartbeats 4000000 in
theorem mX9_normal (l : Launch) (dC : Nat → ClassId) (dI : Nat → Nat → Nat) (cI cB cJ : ClassId) (Q : Nat → Nat) (B : Nat → Nat → Int64) (I : Nat → Int32) (A : Nat → Nat → Int32) (x1 : Int32) (sz : Nat) (z : Int32 × (Nat → Int32) × (Nat → Nat → Int32)) (hf : fX9_normal B I A x1 = some z) : Met l yX9_normal wsX9_normal ({ frames := 4, cells := 0, slots := 0, locals := 101 }) (va_Pc [.ref (Q 100), .int x1] (fun U => U.heap.size = sz ∧ va_P (dC, dI) vwCl (wM cI cB cJ Q B I A) U.heap ∧ va_K (dC, dI) vwCl (tM cI cB cJ) U ∧ va_D (fun _ => True) (wM cI cB cJ Q B I A))) (va_Qi (fun (r : Int32) (u : (Nat → Int32) × (Nat → Nat → Int32)) => (r, u) = z) (atM dC dI cI cB cJ Q B (va_A (wM cI cB cJ Q B I A) sz)) (va_A (wM cI cB cJ Q B I A) sz)) 0 0 (va_A (wM cI cB cJ Q B I A) sz) := by
  refine Met.ofW (cc := cX9_normal) (maxL := 6) (ret := (some .int)) (by decide) rfl ?_
  intro p e s m args below meth c s₁ BL hml hv
  obtain ⟨rfl, hsz, hP, hK, hD0⟩ := hv
  have hx := BL.exec
  have hb := BL.bytes
  have hr := BL.returns
  have hts := atoms_spec (ws := wsX9_normal) BL.pre
  have hown : s.vm.findClass RX9 = some m.cls := findClass_of_methodNamed BL.named
  have hlocks := BL.notSynchronized
  have hinX9 : ∀ w ∈ u_ws RX9 TX9 36, w ∈ wsX9_normal := by decide +kernel
  have hk26 := hts (.fieldLink RX9 26 "LeadSheetsModel" "shown" "[B") (by decide +kernel)
  have hk175 := hts (.fieldLink RX9 175 "LeadSheetsModel" "names" "[I") (by decide +kernel)
  have hk178 := hts (.fieldLink RX9 178 "LeadSheetsModel" "aside" "[B") (by decide +kernel)
  have hk181 := hts (.fieldLink RX9 181 "LeadSheetsModel" "other" "[B") (by decide +kernel)
  have hk304 := hts (.fieldLink RX9 304 "LeadSheetsModel" "shownMany" "I") (by decide +kernel)
  have hk325 := hts (.fieldLink RX9 325 "LeadSheetsModel" "nameMany" "I") (by decide +kernel)
  subst hsz
  have hD := hD0.self (sz := s.heap.size)
  generalize hAe : va_A (wM cI cB cJ Q B I A) s.heap.size = AA at hD ⊢
  have hA : ∀ q : Nat, s.heap.size ≤ q → AA q := fun q h => by rw [← hAe]; exact Or.inr h
  have hS : va_S AA s.heap s.heap [] := va_S.rf
  have sg188 : ∀ n : Nat, ∀ (I : Nat → Int32) (A : Nat → Nat → Int32) (v2 : Int32) (v4 : Int32) (v5 : Int32) (H : Heap) (locs : List Loc) (ls : Array Slot), fX9_normal_188 B  n I A v2 v4 v5 = some z → va_P (dC, dI) vwCl (wM cI cB cJ Q B I A) H → va_D AA (wM cI cB cJ Q B I A) → va_S AA s.heap H locs → lv_has ls 6 [(0, .ref (Q 100)), (2, .int v2), (4, .int v4), (5, .int v5)] → W p l e (headSpec wsX9_normal ({ frames := 4, cells := 0, slots := 0, locals := 101 })).room s m (([.ref (Q 100), .int x1] : List Value).toArray) below meth c H locs 0 0 (MQ below (va_Qi (fun (r : Int32) (u : (Nat → Int32) × (Nat → Nat → Int32)) => (r, u) = z) (atM dC dI cI cB cJ Q B AA) AA) (([.ref (Q 100), .int x1] : List Value).toArray) s 0 0 AA) (F0 m 188 ls []) := by
    intro n
    induction n with
    | zero => intro I A v2 v4 v5 H locs ls hf hP hD hS hl; exact of_none hf
    | succ n ih188 =>
      intro I A v2 v4 v5 H locs ls hf hP hD hS hl
      change fX9_normal_188B B  (fX9_normal_188 B  n) I A v2 v4 v5 = _ at hf
      unfold fX9_normal_188B at hf
      refine lv_iload hx hb dX9_normal_188 (lv_at hl 3 rfl) ?_
      refine lv_iload_n hx hb dX9_normal_190 rfl (lv_at hl 1 rfl) ?_
      refine lv_icmp_ge (tgt := 214) hx hb dX9_normal_191 (by decide) (fun c29 => ?_) (fun c29 => ?_)
      · have hf := (if_pos c29).symm.trans hf
        refine lv_iload hx hb dX9_normal_214 (lv_at hl 2 rfl) ?_
        refine lv_if_eq (tgt := 223) hx hb dX9_normal_216 (by decide) (fun c30 => ?_) (fun c30 => ?_)
        · have hf := (if_pos c30).symm.trans hf
          refine lv_iconst (v := (0 : Int32)) hx hb dX9_normal_223 (by decide) ?_
          exact W.iret (v := (0 : Int32)) hx hb hr (fun t ht hW => ⟨⟨(0 : Int32), (I, A), rfl, Option.some.inj hf, by rw [ht]; exact hP, va_K.moved hW.alike hK, hD⟩, hS.F ht⟩) hS.2.2 dX9_normal_224
        · have hf := (if_neg c30).symm.trans hf
          refine lv_iconst (v := (1 : Int32)) hx hb dX9_normal_219 (by decide) ?_
          refine lv_goto (tgt := 224) hx hb dX9_normal_220 (by decide) ?_
          exact W.iret (v := (1 : Int32)) hx hb hr (fun t ht hW => ⟨⟨(1 : Int32), (I, A), rfl, Option.some.inj hf, by rw [ht]; exact hP, va_K.moved hW.alike hK, hD⟩, hS.F ht⟩) hS.2.2 dX9_normal_224
      · have hf := (if_neg c29).symm.trans hf
        refine lv_aload_n hx hb dX9_normal_194 rfl (lv_at hl 0 rfl) ?_
        refine va_get (D := (dC, dI)) (ci := 6) (v := .ref (Q 7)) (C := RX9) (T := TX9) (N := 36) hx hb hts hinX9 hown hK hP 0 rfl rfl 7 (by decide) hk26 (fun _ h9 => h9) rfl dX9_normal_195 ?_
        refine lv_iload hx hb dX9_normal_198 (lv_at hl 3 rfl) ?_
        refine lv_aload_n hx hb dX9_normal_200 rfl (lv_at hl 0 rfl) ?_
        refine va_get (D := (dC, dI)) (ci := 6) (v := .ref (Q 31)) (C := RX9) (T := TX9) (N := 36) hx hb hts hinX9 hown hK hP 0 rfl rfl 31 (by decide) hk178 (fun _ h9 => h9) rfl dX9_normal_201 ?_
        refine lv_iload hx hb dX9_normal_204 (lv_at hl 3 rfl) ?_
        obtain ⟨g31, hf⟩ := of_ite_some hf
        refine va_bald hx hb hK hP 21 1 (n := 64) (f := (A 31)) rfl rfl g31 dX9_normal_206 ?_
        obtain ⟨g32, hf⟩ := of_ite_some hf
        refine va_bast hx hb hK hP hD hS 6 1 (n := 64) (f := (A 7)) rfl rfl g32 dX9_normal_207 (fun H locs hP hD hS => ?_)
        have hP : va_P (dC, dI) vwCl (wM cI cB cJ Q B I (va_up A 7 (upd (A 7) v5.toNatClampNeg (vp_nar .byte ((A 31) v5.toNatClampNeg))))) H := Eq.mp (congrArg (fun w => va_P (dC, dI) vwCl w H) (wMA_7 cI cB cJ Q B I A (upd (A 7) v5.toNatClampNeg (vp_nar .byte ((A 31) v5.toNatClampNeg))))) hP
        have hD : va_D AA (wM cI cB cJ Q B I (va_up A 7 (upd (A 7) v5.toNatClampNeg (vp_nar .byte ((A 31) v5.toNatClampNeg))))) := Eq.mp (congrArg (fun w => va_D AA w) (wMA_7 cI cB cJ Q B I A (upd (A 7) v5.toNatClampNeg (vp_nar .byte ((A 31) v5.toNatClampNeg))))) hD
        refine lv_iinc (v := (v5 + (1 : Int32))) (lv' := [(5, .int (v5 + (1 : Int32))), (0, .ref (Q 100)), (2, .int v2), (4, .int v4)]) hx hb dX9_normal_208 hl (k := 3) rfl rfl (by decide) rfl (fun ls hl => ?_)
        refine lv_goto (tgt := 188) hx hb dX9_normal_211 (by decide) ?_
        exact ih188 I (va_up A 7 (upd (A 7) v5.toNatClampNeg (vp_nar .byte ((A 31) v5.toNatClampNeg)))) v2 v4 (v5 + (1 : Int32)) H locs ls hf hP hD hS (lv_sub hl [1, 2, 3, 0] rfl)
  have sg139 : ∀ n : Nat, ∀ (I : Nat → Int32) (A : Nat → Nat → Int32) (v2 : Int32) (v3 : Int32) (v4 : Int32) (v5 : Int32) (H : Heap) (locs : List Loc) (ls : Array Slot), fX9_normal_139 B  n I A v2 v3 v4 v5 = some z → va_P (dC, dI) vwCl (wM cI cB cJ Q B I A) H → va_D AA (wM cI cB cJ Q B I A) → va_S AA s.heap H locs → lv_has ls 6 [(0, .ref (Q 100)), (2, .int v2), (3, .int v3), (4, .int v4), (5, .int v5)] → W p l e (headSpec wsX9_normal ({ frames := 4, cells := 0, slots := 0, locals := 101 })).room s m (([.ref (Q 100), .int x1] : List Value).toArray) below meth c H locs 0 0 (MQ below (va_Qi (fun (r : Int32) (u : (Nat → Int32) × (Nat → Nat → Int32)) => (r, u) = z) (atM dC dI cI cB cJ Q B AA) AA) (([.ref (Q 100), .int x1] : List Value).toArray) s 0 0 AA) (F0 m 139 ls []) := by
    intro n
    induction n with
    | zero => intro I A v2 v3 v4 v5 H locs ls hf hP hD hS hl; exact of_none hf
    | succ n ih139 =>
      intro I A v2 v3 v4 v5 H locs ls hf hP hD hS hl
      change fX9_normal_139B B  (fX9_normal_139 B  n) I A v2 v3 v4 v5 = _ at hf
      unfold fX9_normal_139B at hf
      refine lv_iload hx hb dX9_normal_139 (lv_at hl 4 rfl) ?_
      refine lv_iload_n hx hb dX9_normal_141 rfl (lv_at hl 2 rfl) ?_
      refine lv_icmp_ge (tgt := 180) hx hb dX9_normal_142 (by decide) (fun c33 => ?_) (fun c33 => ?_)
      · have hf := (if_pos c33).symm.trans hf
        refine lv_aload_n hx hb dX9_normal_180 rfl (lv_at hl 0 rfl) ?_
        refine lv_iload_n hx hb dX9_normal_181 rfl (lv_at hl 1 rfl) ?_
        refine va_put (D := (dC, dI)) (ci := 6) (v := .int v2) (ty := .int) (C := RX9) (T := TX9) (N := 36) hx hb hts hinX9 tyX9 tyX9_ok nmX9 hown hK hP hD hS 0 (fs := (oM Q I)) rfl rfl 8 (by decide) hk304 (fun _ h9 => h9) rfl (by decide +kernel) rfl rfl (Nat.le_of_ble_eq_true rfl) dX9_normal_182 (fun H locs hP hD hS => ?_)
        have hP : va_P (dC, dI) vwCl (wM cI cB cJ Q B (upd I 8 v2) A) H := Eq.mp (congrArg (fun w => va_P (dC, dI) vwCl w H) (wMI_8 cI cB cJ Q B I A v2)) hP
        have hD : va_D AA (wM cI cB cJ Q B (upd I 8 v2) A) := Eq.mp (congrArg (fun w => va_D AA w) (wMI_8 cI cB cJ Q B I A v2)) hD
        refine lv_iconst (v := (0 : Int32)) hx hb dX9_normal_185 (by decide) ?_
        refine lv_istore (lv' := [(5, .int (0 : Int32)), (0, .ref (Q 100)), (2, .int v2), (3, .int v3), (4, .int v4)]) hx hb dX9_normal_186 hl (by decide) rfl (fun ls hl => ?_)
        exact sg188  FU (upd I 8 v2) A v2 v4 (0 : Int32) H locs ls hf hP hD hS (lv_sub hl [1, 2, 4, 0] rfl)
      · have hf := (if_neg c33).symm.trans hf
        refine lv_iload hx hb dX9_normal_145 (lv_at hl 3 rfl) ?_
        refine lv_if_eq (tgt := 180) hx hb dX9_normal_147 (by decide) (fun c34 => ?_) (fun c34 => ?_)
        · have hf := (if_pos c34).symm.trans hf
          refine lv_aload_n hx hb dX9_normal_180 rfl (lv_at hl 0 rfl) ?_
          refine lv_iload_n hx hb dX9_normal_181 rfl (lv_at hl 1 rfl) ?_
          refine va_put (D := (dC, dI)) (ci := 6) (v := .int v2) (ty := .int) (C := RX9) (T := TX9) (N := 36) hx hb hts hinX9 tyX9 tyX9_ok nmX9 hown hK hP hD hS 0 (fs := (oM Q I)) rfl rfl 8 (by decide) hk304 (fun _ h9 => h9) rfl (by decide +kernel) rfl rfl (Nat.le_of_ble_eq_true rfl) dX9_normal_182 (fun H locs hP hD hS => ?_)
          have hP : va_P (dC, dI) vwCl (wM cI cB cJ Q B (upd I 8 v2) A) H := Eq.mp (congrArg (fun w => va_P (dC, dI) vwCl w H) (wMI_8 cI cB cJ Q B I A v2)) hP
          have hD : va_D AA (wM cI cB cJ Q B (upd I 8 v2) A) := Eq.mp (congrArg (fun w => va_D AA w) (wMI_8 cI cB cJ Q B I A v2)) hD
          refine lv_iconst (v := (0 : Int32)) hx hb dX9_normal_185 (by decide) ?_
          refine lv_istore (lv' := [(5, .int (0 : Int32)), (0, .ref (Q 100)), (2, .int v2), (3, .int v3), (4, .int v4)]) hx hb dX9_normal_186 hl (by decide) rfl (fun ls hl => ?_)
          exact sg188  FU (upd I 8 v2) A v2 v4 (0 : Int32) H locs ls hf hP hD hS (lv_sub hl [1, 2, 4, 0] rfl)
        · have hf := (if_neg c34).symm.trans hf
          refine lv_aload_n hx hb dX9_normal_150 rfl (lv_at hl 0 rfl) ?_
          refine va_get (D := (dC, dI)) (ci := 6) (v := .ref (Q 7)) (C := RX9) (T := TX9) (N := 36) hx hb hts hinX9 hown hK hP 0 rfl rfl 7 (by decide) hk26 (fun _ h9 => h9) rfl dX9_normal_151 ?_
          refine lv_iload hx hb dX9_normal_154 (lv_at hl 4 rfl) ?_
          obtain ⟨g35, hf⟩ := of_ite_some hf
          refine va_bald hx hb hK hP 6 1 (n := 64) (f := (A 7)) rfl rfl g35 dX9_normal_156 ?_
          refine lv_aload_n hx hb dX9_normal_157 rfl (lv_at hl 0 rfl) ?_
          refine va_get (D := (dC, dI)) (ci := 6) (v := .ref (Q 32)) (C := RX9) (T := TX9) (N := 36) hx hb hts hinX9 hown hK hP 0 rfl rfl 32 (by decide) hk181 (fun _ h9 => h9) rfl dX9_normal_158 ?_
          refine lv_iload hx hb dX9_normal_161 (lv_at hl 4 rfl) ?_
          obtain ⟨g36, hf⟩ := of_ite_some hf
          refine va_bald hx hb hK hP 22 1 (n := 64) (f := (A 32)) rfl rfl g36 dX9_normal_163 ?_
          refine lv_icmp_ne (tgt := 171) hx hb dX9_normal_164 (by decide) (fun c37 => ?_) (fun c37 => ?_)
          · have hf := (if_neg c37).symm.trans hf
            refine lv_iconst (v := (0 : Int32)) hx hb dX9_normal_171 (by decide) ?_
            refine lv_istore (lv' := [(4, .int (0 : Int32)), (0, .ref (Q 100)), (2, .int v2), (3, .int v3), (5, .int v5)]) hx hb dX9_normal_172 hl (by decide) rfl (fun ls hl => ?_)
            refine lv_iinc (v := (v5 + (1 : Int32))) (lv' := [(5, .int (v5 + (1 : Int32))), (4, .int (0 : Int32)), (0, .ref (Q 100)), (2, .int v2), (3, .int v3)]) hx hb dX9_normal_174 hl (k := 4) rfl rfl (by decide) rfl (fun ls hl => ?_)
            refine lv_goto (tgt := 139) hx hb dX9_normal_177 (by decide) ?_
            exact ih139 I A v2 v3 (0 : Int32) (v5 + (1 : Int32)) H locs ls hf hP hD hS (lv_sub hl [2, 3, 4, 1, 0] rfl)
          · have hf := (if_pos c37).symm.trans hf
            refine lv_iconst (v := (1 : Int32)) hx hb dX9_normal_167 (by decide) ?_
            refine lv_goto (tgt := 172) hx hb dX9_normal_168 (by decide) ?_
            refine lv_istore (lv' := [(4, .int (1 : Int32)), (0, .ref (Q 100)), (2, .int v2), (3, .int v3), (5, .int v5)]) hx hb dX9_normal_172 hl (by decide) rfl (fun ls hl => ?_)
            refine lv_iinc (v := (v5 + (1 : Int32))) (lv' := [(5, .int (v5 + (1 : Int32))), (4, .int (1 : Int32)), (0, .ref (Q 100)), (2, .int v2), (3, .int v3)]) hx hb dX9_normal_174 hl (k := 4) rfl rfl (by decide) rfl (fun ls hl => ?_)
            refine lv_goto (tgt := 139) hx hb dX9_normal_177 (by decide) ?_
            exact ih139 I A v2 v3 (1 : Int32) (v5 + (1 : Int32)) H locs ls hf hP hD hS (lv_sub hl [2, 3, 4, 1, 0] rfl)
  have sg105 : ∀ (I : Nat → Int32) (A : Nat → Nat → Int32) (v2 : Int32) (v3 : Int32) (t0 : Int32) (H : Heap) (locs : List Loc) (ls : Array Slot), fX9_normal_105 B  I A v2 v3 t0 = some z → va_P (dC, dI) vwCl (wM cI cB cJ Q B I A) H → va_D AA (wM cI cB cJ Q B I A) → va_S AA s.heap H locs → lv_has ls 6 [(0, .ref (Q 100)), (2, .int v2), (3, .int v3)] → W p l e (headSpec wsX9_normal ({ frames := 4, cells := 0, slots := 0, locals := 101 })).room s m (([.ref (Q 100), .int x1] : List Value).toArray) below meth c H locs 0 0 (MQ below (va_Qi (fun (r : Int32) (u : (Nat → Int32) × (Nat → Nat → Int32)) => (r, u) = z) (atM dC dI cI cB cJ Q B AA) AA) (([.ref (Q 100), .int x1] : List Value).toArray) s 0 0 AA) (F0 m 105 ls [.int t0]) := by
    intro I A v2 v3 t0 H locs ls hf hP hD hS hl
    unfold fX9_normal_105 at hf
    refine lv_istore (lv' := [(4, .int t0), (0, .ref (Q 100)), (2, .int v2), (3, .int v3)]) hx hb dX9_normal_105 hl (by decide) rfl (fun ls hl => ?_)
    refine lv_iload hx hb dX9_normal_107 (lv_at hl 0 rfl) ?_
    refine lv_if_eq (tgt := 180) hx hb dX9_normal_109 (by decide) (fun c23 => ?_) (fun c23 => ?_)
    · have hf := (if_pos c23).symm.trans hf
      refine lv_aload_n hx hb dX9_normal_180 rfl (lv_at hl 1 rfl) ?_
      refine lv_iload_n hx hb dX9_normal_181 rfl (lv_at hl 2 rfl) ?_
      refine va_put (D := (dC, dI)) (ci := 6) (v := .int v2) (ty := .int) (C := RX9) (T := TX9) (N := 36) hx hb hts hinX9 tyX9 tyX9_ok nmX9 hown hK hP hD hS 0 (fs := (oM Q I)) rfl rfl 8 (by decide) hk304 (fun _ h9 => h9) rfl (by decide +kernel) rfl rfl (Nat.le_of_ble_eq_true rfl) dX9_normal_182 (fun H locs hP hD hS => ?_)
      have hP : va_P (dC, dI) vwCl (wM cI cB cJ Q B (upd I 8 v2) A) H := Eq.mp (congrArg (fun w => va_P (dC, dI) vwCl w H) (wMI_8 cI cB cJ Q B I A v2)) hP
      have hD : va_D AA (wM cI cB cJ Q B (upd I 8 v2) A) := Eq.mp (congrArg (fun w => va_D AA w) (wMI_8 cI cB cJ Q B I A v2)) hD
      refine lv_iconst (v := (0 : Int32)) hx hb dX9_normal_185 (by decide) ?_
      refine lv_istore (lv' := [(5, .int (0 : Int32)), (4, .int t0), (0, .ref (Q 100)), (2, .int v2), (3, .int v3)]) hx hb dX9_normal_186 hl (by decide) rfl (fun ls hl => ?_)
      exact sg188  FU (upd I 8 v2) A v2 t0 (0 : Int32) H locs ls hf hP hD hS (lv_sub hl [2, 3, 1, 0] rfl)
    · have hf := (if_neg c23).symm.trans hf
      refine lv_aload_n hx hb dX9_normal_112 rfl (lv_at hl 1 rfl) ?_
      refine lv_aload_n hx hb dX9_normal_113 rfl (lv_at hl 1 rfl) ?_
      refine va_get (D := (dC, dI)) (ci := 6) (v := .ref (Q 29)) (C := RX9) (T := TX9) (N := 36) hx hb hts hinX9 hown hK hP 0 rfl rfl 29 (by decide) hk175 (fun _ h9 => h9) rfl dX9_normal_114 ?_
      refine lv_iconst (v := (0 : Int32)) hx hb dX9_normal_117 (by decide) ?_
      obtain ⟨⟨I25, A26⟩, hc24, hf⟩ := of_bind_some hf
      have hF27 := va_freeAll hD hS hA
      refine va_callv (va_runV (As := [.ref (Q 29), .int (0 : Int32)]) (rest := []) ⟨hx, hb, hml, hown, hts⟩ (mX9_showsName_vnames l dC dI cI cB cJ Q B I A (0 : Int32) H.size _ hc24) (cwV 2 hts gX9_normal_X9_showsName rfl rfl rfl (by decide +kernel) ⟨Nat.le_of_ble_eq_true rfl, Nat.le_of_ble_eq_true rfl⟩) ⟨blindW, va_recv hK hP (ci := 6) (q0 := 0) rfl rfl, fun U hU hW => ⟨rfl, by rw [hU], by rw [hU]; exact hP, va_K.moved hW.alike hK, hD.weaken (fun _ _ _ _ => trivial)⟩⟩ rfl rfl hl.1 rfl (lv_room (Nat.le_of_ble_eq_true rfl)) dX9_normal_118 ⟨Nat.zero_le _, Nat.zero_le _⟩) hS (fun q _ h => hF27 q h) hF27 (fun u t H locs ht hvm hw hB hz1 hk1 hS => ?_)
      cases hw
      obtain ⟨hP, hK9, hD⟩ := hB
      rw [ht] at hP
      have hP : va_P (dC, dI) vwCl (wM cI cB cJ Q B I25 A26) H := hP
      have hD : va_D AA (wM cI cB cJ Q B I25 A26) := hD.weaken (fun _ _ _ h => hF27 _ h)
      refine lv_aload_n hx hb dX9_normal_121 rfl (lv_at hl 1 rfl) ?_
      refine va_get (D := (dC, dI)) (ci := 6) (v := .int (I25 8)) (C := RX9) (T := TX9) (N := 36) hx hb hts hinX9 hown hK hP 0 rfl rfl 8 (by decide) hk304 (fun _ h9 => h9) rfl dX9_normal_122 ?_
      refine lv_iload_n hx hb dX9_normal_125 rfl (lv_at hl 3 rfl) ?_
      refine lv_icmp_ne (tgt := 133) hx hb dX9_normal_126 (by decide) (fun c28 => ?_) (fun c28 => ?_)
      · have hf := (if_neg c28).symm.trans hf
        refine lv_iconst (v := (0 : Int32)) hx hb dX9_normal_133 (by decide) ?_
        refine lv_istore (lv' := [(4, .int (0 : Int32)), (0, .ref (Q 100)), (2, .int v2), (3, .int v3)]) hx hb dX9_normal_134 hl (by decide) rfl (fun ls hl => ?_)
        refine lv_iconst (v := (0 : Int32)) hx hb dX9_normal_136 (by decide) ?_
        refine lv_istore (lv' := [(5, .int (0 : Int32)), (4, .int (0 : Int32)), (0, .ref (Q 100)), (2, .int v2), (3, .int v3)]) hx hb dX9_normal_137 hl (by decide) rfl (fun ls hl => ?_)
        exact sg139  FU I25 A26 v2 v3 (0 : Int32) (0 : Int32) H locs ls hf hP hD hS (lv_sub hl [2, 3, 4, 1, 0] rfl)
      · have hf := (if_pos c28).symm.trans hf
        refine lv_iconst (v := (1 : Int32)) hx hb dX9_normal_129 (by decide) ?_
        refine lv_goto (tgt := 134) hx hb dX9_normal_130 (by decide) ?_
        refine lv_istore (lv' := [(4, .int (1 : Int32)), (0, .ref (Q 100)), (2, .int v2), (3, .int v3)]) hx hb dX9_normal_134 hl (by decide) rfl (fun ls hl => ?_)
        refine lv_iconst (v := (0 : Int32)) hx hb dX9_normal_136 (by decide) ?_
        refine lv_istore (lv' := [(5, .int (0 : Int32)), (4, .int (1 : Int32)), (0, .ref (Q 100)), (2, .int v2), (3, .int v3)]) hx hb dX9_normal_137 hl (by decide) rfl (fun ls hl => ?_)
        exact sg139  FU I25 A26 v2 v3 (1 : Int32) (0 : Int32) H locs ls hf hP hD hS (lv_sub hl [2, 3, 4, 1, 0] rfl)
  have sg67 : ∀ n : Nat, ∀ (I : Nat → Int32) (A : Nat → Nat → Int32) (v2 : Int32) (v3 : Int32) (v4 : Int32) (H : Heap) (locs : List Loc) (ls : Array Slot), fX9_normal_67 B  n I A v2 v3 v4 = some z → va_P (dC, dI) vwCl (wM cI cB cJ Q B I A) H → va_D AA (wM cI cB cJ Q B I A) → va_S AA s.heap H locs → lv_has ls 6 [(0, .ref (Q 100)), (2, .int v2), (3, .int v3), (4, .int v4)] → W p l e (headSpec wsX9_normal ({ frames := 4, cells := 0, slots := 0, locals := 101 })).room s m (([.ref (Q 100), .int x1] : List Value).toArray) below meth c H locs 0 0 (MQ below (va_Qi (fun (r : Int32) (u : (Nat → Int32) × (Nat → Nat → Int32)) => (r, u) = z) (atM dC dI cI cB cJ Q B AA) AA) (([.ref (Q 100), .int x1] : List Value).toArray) s 0 0 AA) (F0 m 67 ls []) := by
    intro n
    induction n with
    | zero => intro I A v2 v3 v4 H locs ls hf hP hD hS hl; exact of_none hf
    | succ n ih67 =>
      intro I A v2 v3 v4 H locs ls hf hP hD hS hl
      change fX9_normal_67B B  (fX9_normal_67 B  n) I A v2 v3 v4 = _ at hf
      unfold fX9_normal_67B at hf
      refine lv_iload hx hb dX9_normal_67 (lv_at hl 3 rfl) ?_
      refine lv_iload_n hx hb dX9_normal_69 rfl (lv_at hl 2 rfl) ?_
      refine lv_icmp_ge (tgt := 93) hx hb dX9_normal_70 (by decide) (fun c19 => ?_) (fun c19 => ?_)
      · have hf := (if_pos c19).symm.trans hf
        refine lv_aload_n hx hb dX9_normal_93 rfl (lv_at hl 0 rfl) ?_
        refine va_get (D := (dC, dI)) (ci := 6) (v := .int (I 30)) (C := RX9) (T := TX9) (N := 36) hx hb hts hinX9 hown hK hP 0 rfl rfl 30 (by decide) hk325 (fun _ h9 => h9) rfl dX9_normal_94 ?_
        refine lv_if_le (tgt := 104) hx hb dX9_normal_97 (by decide) (fun c20 => ?_) (fun c20 => ?_)
        · have hf := (if_pos c20).symm.trans hf
          refine lv_iconst (v := (0 : Int32)) hx hb dX9_normal_104 (by decide) ?_
          exact sg105  I A v2 v3 (0 : Int32) H locs ls hf hP hD hS (lv_sub hl [0, 1, 2] rfl)
        · have hf := (if_neg c20).symm.trans hf
          refine lv_iconst (v := (1 : Int32)) hx hb dX9_normal_100 (by decide) ?_
          refine lv_goto (tgt := 105) hx hb dX9_normal_101 (by decide) ?_
          exact sg105  I A v2 v3 (1 : Int32) H locs ls hf hP hD hS (lv_sub hl [0, 1, 2] rfl)
      · have hf := (if_neg c19).symm.trans hf
        refine lv_aload_n hx hb dX9_normal_73 rfl (lv_at hl 0 rfl) ?_
        refine va_get (D := (dC, dI)) (ci := 6) (v := .ref (Q 32)) (C := RX9) (T := TX9) (N := 36) hx hb hts hinX9 hown hK hP 0 rfl rfl 32 (by decide) hk181 (fun _ h9 => h9) rfl dX9_normal_74 ?_
        refine lv_iload hx hb dX9_normal_77 (lv_at hl 3 rfl) ?_
        refine lv_aload_n hx hb dX9_normal_79 rfl (lv_at hl 0 rfl) ?_
        refine va_get (D := (dC, dI)) (ci := 6) (v := .ref (Q 7)) (C := RX9) (T := TX9) (N := 36) hx hb hts hinX9 hown hK hP 0 rfl rfl 7 (by decide) hk26 (fun _ h9 => h9) rfl dX9_normal_80 ?_
        refine lv_iload hx hb dX9_normal_83 (lv_at hl 3 rfl) ?_
        obtain ⟨g21, hf⟩ := of_ite_some hf
        refine va_bald hx hb hK hP 6 1 (n := 64) (f := (A 7)) rfl rfl g21 dX9_normal_85 ?_
        obtain ⟨g22, hf⟩ := of_ite_some hf
        refine va_bast hx hb hK hP hD hS 22 1 (n := 64) (f := (A 32)) rfl rfl g22 dX9_normal_86 (fun H locs hP hD hS => ?_)
        have hP : va_P (dC, dI) vwCl (wM cI cB cJ Q B I (va_up A 32 (upd (A 32) v4.toNatClampNeg (vp_nar .byte ((A 7) v4.toNatClampNeg))))) H := Eq.mp (congrArg (fun w => va_P (dC, dI) vwCl w H) (wMA_32 cI cB cJ Q B I A (upd (A 32) v4.toNatClampNeg (vp_nar .byte ((A 7) v4.toNatClampNeg))))) hP
        have hD : va_D AA (wM cI cB cJ Q B I (va_up A 32 (upd (A 32) v4.toNatClampNeg (vp_nar .byte ((A 7) v4.toNatClampNeg))))) := Eq.mp (congrArg (fun w => va_D AA w) (wMA_32 cI cB cJ Q B I A (upd (A 32) v4.toNatClampNeg (vp_nar .byte ((A 7) v4.toNatClampNeg))))) hD
        refine lv_iinc (v := (v4 + (1 : Int32))) (lv' := [(4, .int (v4 + (1 : Int32))), (0, .ref (Q 100)), (2, .int v2), (3, .int v3)]) hx hb dX9_normal_87 hl (k := 3) rfl rfl (by decide) rfl (fun ls hl => ?_)
        refine lv_goto (tgt := 67) hx hb dX9_normal_90 (by decide) ?_
        exact ih67 I (va_up A 32 (upd (A 32) v4.toNatClampNeg (vp_nar .byte ((A 7) v4.toNatClampNeg)))) v2 v3 (v4 + (1 : Int32)) H locs ls hf hP hD hS (lv_sub hl [1, 2, 3, 0] rfl)
  have sg17 : ∀ n : Nat, ∀ (I : Nat → Int32) (A : Nat → Nat → Int32) (v1 : Int32) (v2 : Int32) (v3 : Int32) (H : Heap) (locs : List Loc) (ls : Array Slot), fX9_normal_17 B  n I A v1 v2 v3 = some z → va_P (dC, dI) vwCl (wM cI cB cJ Q B I A) H → va_D AA (wM cI cB cJ Q B I A) → va_S AA s.heap H locs → lv_has ls 6 [(0, .ref (Q 100)), (1, .int v1), (2, .int v2), (3, .int v3)] → W p l e (headSpec wsX9_normal ({ frames := 4, cells := 0, slots := 0, locals := 101 })).room s m (([.ref (Q 100), .int x1] : List Value).toArray) below meth c H locs 0 0 (MQ below (va_Qi (fun (r : Int32) (u : (Nat → Int32) × (Nat → Nat → Int32)) => (r, u) = z) (atM dC dI cI cB cJ Q B AA) AA) (([.ref (Q 100), .int x1] : List Value).toArray) s 0 0 AA) (F0 m 17 ls []) := by
    intro n
    induction n with
    | zero => intro I A v1 v2 v3 H locs ls hf hP hD hS hl; exact of_none hf
    | succ n ih17 =>
      intro I A v1 v2 v3 H locs ls hf hP hD hS hl
      change fX9_normal_17B B  (fX9_normal_17 B  n) I A v1 v2 v3 = _ at hf
      unfold fX9_normal_17B at hf
      refine lv_iload_n hx hb dX9_normal_17 rfl (lv_at hl 3 rfl) ?_
      refine lv_iload_n hx hb dX9_normal_18 rfl (lv_at hl 2 rfl) ?_
      refine lv_icmp_ge (tgt := 40) hx hb dX9_normal_19 (by decide) (fun c4 => ?_) (fun c4 => ?_)
      · have hf := (if_pos c4).symm.trans hf
        refine lv_aload_n hx hb dX9_normal_40 rfl (lv_at hl 0 rfl) ?_
        refine lv_aload_n hx hb dX9_normal_41 rfl (lv_at hl 0 rfl) ?_
        refine lv_iload_n hx hb dX9_normal_42 rfl (lv_at hl 1 rfl) ?_
        obtain ⟨r5, hc6, hf⟩ := of_bind_some hf
        refine W.callR (r := r5) (W.runV (As := [.int v1]) (rest := [.ref (Q 100)]) ⟨hx, hb, hml, hown, hts⟩ (mX9_setOf l dC dI cI cB cJ Q B I A v1 r5 hc6) (cwV 1 hts gX9_normal_X9_setOf rfl rfl rfl (by decide +kernel) ⟨Nat.le_of_ble_eq_true rfl, Nat.le_of_ble_eq_true rfl⟩) ⟨blindR, va_recv hK hP (ci := 6) (q0 := 0) rfl rfl, fun U hU hW => ⟨rfl, by rw [hU]; exact hP, va_K.moved hW.alike hK⟩⟩ rfl rfl hl.1 rfl (lv_room (Nat.le_of_ble_eq_true rfl)) dX9_normal_43 ⟨Nat.zero_le _, Nat.zero_le _⟩) ?_
        refine W.eq (g2 := F0 m 46 ls [.int r5, .ref (Q 100)]) rfl ?_
        refine lv_aload_n hx hb dX9_normal_46 rfl (lv_at hl 0 rfl) ?_
        refine lv_iload_n hx hb dX9_normal_47 rfl (lv_at hl 1 rfl) ?_
        obtain ⟨r7, hc8, hf⟩ := of_bind_some hf
        refine W.callR (r := r7) (W.runV (As := [.int v1]) (rest := [.int r5, .ref (Q 100)]) ⟨hx, hb, hml, hown, hts⟩ (mX9_bassOf l dC dI cI cB cJ Q B I A v1 r7 hc8) (cwV 1 hts gX9_normal_X9_bassOf rfl rfl rfl (by decide +kernel) ⟨Nat.le_of_ble_eq_true rfl, Nat.le_of_ble_eq_true rfl⟩) ⟨blindR, va_recv hK hP (ci := 6) (q0 := 0) rfl rfl, fun U hU hW => ⟨rfl, by rw [hU]; exact hP, va_K.moved hW.alike hK⟩⟩ rfl rfl hl.1 rfl (lv_room (Nat.le_of_ble_eq_true rfl)) dX9_normal_48 ⟨Nat.zero_le _, Nat.zero_le _⟩) ?_
        refine W.eq (g2 := F0 m 51 ls [.int r7, .int r5, .ref (Q 100)]) rfl ?_
        obtain ⟨⟨I10, A11⟩, hc9, hf⟩ := of_bind_some hf
        have hF12 := va_freeAll hD hS hA
        refine va_callv (va_runV (As := [.int r5, .int r7]) (rest := []) ⟨hx, hb, hml, hown, hts⟩ (mX9_finds l dC dI cI cB cJ Q B I A r5 r7 H.size _ hc9) (cwV 2 hts gX9_normal_X9_finds rfl rfl rfl (by decide +kernel) ⟨Nat.le_of_ble_eq_true rfl, Nat.le_of_ble_eq_true rfl⟩) ⟨blindW, va_recv hK hP (ci := 6) (q0 := 0) rfl rfl, fun U hU hW => ⟨rfl, by rw [hU], by rw [hU]; exact hP, va_K.moved hW.alike hK, hD.weaken (fun _ _ _ _ => trivial)⟩⟩ rfl rfl hl.1 rfl (lv_room (Nat.le_of_ble_eq_true rfl)) dX9_normal_51 ⟨Nat.zero_le _, Nat.zero_le _⟩) hS (fun q _ h => hF12 q h) hF12 (fun u t H locs ht hvm hw hB hz1 hk1 hS => ?_)
        cases hw
        obtain ⟨hP, hK9, hD⟩ := hB
        rw [ht] at hP
        have hP : va_P (dC, dI) vwCl (wM cI cB cJ Q B I10 A11) H := hP
        have hD : va_D AA (wM cI cB cJ Q B I10 A11) := hD.weaken (fun _ _ _ h => hF12 _ h)
        refine lv_aload_n hx hb dX9_normal_54 rfl (lv_at hl 0 rfl) ?_
        refine lv_iload_n hx hb dX9_normal_55 rfl (lv_at hl 1 rfl) ?_
        obtain ⟨⟨I14, A15⟩, hc13, hf⟩ := of_bind_some hf
        have hF16 := va_freeAll hD hS hA
        refine va_callv (va_runV (As := [.int v1]) (rest := []) ⟨hx, hb, hml, hown, hts⟩ (mX9_writes l dC dI cI cB cJ Q B I10 A11 v1 H.size _ hc13) (cwV 1 hts gX9_normal_X9_writes rfl rfl rfl (by decide +kernel) ⟨Nat.le_of_ble_eq_true rfl, Nat.le_of_ble_eq_true rfl⟩) ⟨blindW, va_recv hK hP (ci := 6) (q0 := 0) rfl rfl, fun U hU hW => ⟨rfl, by rw [hU], by rw [hU]; exact hP, va_K.moved hW.alike hK, hD.weaken (fun _ _ _ _ => trivial)⟩⟩ rfl rfl hl.1 rfl (lv_room (Nat.le_of_ble_eq_true rfl)) dX9_normal_56 ⟨Nat.zero_le _, Nat.zero_le _⟩) hS (fun q _ h => hF16 q h) hF16 (fun u t H locs ht hvm hw hB hz1 hk1 hS => ?_)
        cases hw
        obtain ⟨hP, hK9, hD⟩ := hB
        rw [ht] at hP
        have hP : va_P (dC, dI) vwCl (wM cI cB cJ Q B I14 A15) H := hP
        have hD : va_D AA (wM cI cB cJ Q B I14 A15) := hD.weaken (fun _ _ _ h => hF16 _ h)
        refine lv_aload_n hx hb dX9_normal_59 rfl (lv_at hl 0 rfl) ?_
        refine va_get (D := (dC, dI)) (ci := 6) (v := .int (I14 8)) (C := RX9) (T := TX9) (N := 36) hx hb hts hinX9 hown hK hP 0 rfl rfl 8 (by decide) hk304 (fun _ h9 => h9) rfl dX9_normal_60 ?_
        refine lv_istore_n (lv' := [(3, .int (I14 8)), (0, .ref (Q 100)), (1, .int v1), (2, .int v2)]) hx hb dX9_normal_63 rfl hl (by decide) rfl (fun ls hl => ?_)
        refine lv_iconst (v := (0 : Int32)) hx hb dX9_normal_64 (by decide) ?_
        refine lv_istore (lv' := [(4, .int (0 : Int32)), (3, .int (I14 8)), (0, .ref (Q 100)), (1, .int v1), (2, .int v2)]) hx hb dX9_normal_65 hl (by decide) rfl (fun ls hl => ?_)
        exact sg67  FU I14 A15 v2 (I14 8) (0 : Int32) H locs ls hf hP hD hS (lv_sub hl [2, 4, 1, 0] rfl)
      · have hf := (if_neg c4).symm.trans hf
        refine lv_aload_n hx hb dX9_normal_22 rfl (lv_at hl 0 rfl) ?_
        refine va_get (D := (dC, dI)) (ci := 6) (v := .ref (Q 31)) (C := RX9) (T := TX9) (N := 36) hx hb hts hinX9 hown hK hP 0 rfl rfl 31 (by decide) hk178 (fun _ h9 => h9) rfl dX9_normal_23 ?_
        refine lv_iload_n hx hb dX9_normal_26 rfl (lv_at hl 3 rfl) ?_
        refine lv_aload_n hx hb dX9_normal_27 rfl (lv_at hl 0 rfl) ?_
        refine va_get (D := (dC, dI)) (ci := 6) (v := .ref (Q 7)) (C := RX9) (T := TX9) (N := 36) hx hb hts hinX9 hown hK hP 0 rfl rfl 7 (by decide) hk26 (fun _ h9 => h9) rfl dX9_normal_28 ?_
        refine lv_iload_n hx hb dX9_normal_31 rfl (lv_at hl 3 rfl) ?_
        obtain ⟨g17, hf⟩ := of_ite_some hf
        refine va_bald hx hb hK hP 6 1 (n := 64) (f := (A 7)) rfl rfl g17 dX9_normal_32 ?_
        obtain ⟨g18, hf⟩ := of_ite_some hf
        refine va_bast hx hb hK hP hD hS 21 1 (n := 64) (f := (A 31)) rfl rfl g18 dX9_normal_33 (fun H locs hP hD hS => ?_)
        have hP : va_P (dC, dI) vwCl (wM cI cB cJ Q B I (va_up A 31 (upd (A 31) v3.toNatClampNeg (vp_nar .byte ((A 7) v3.toNatClampNeg))))) H := Eq.mp (congrArg (fun w => va_P (dC, dI) vwCl w H) (wMA_31 cI cB cJ Q B I A (upd (A 31) v3.toNatClampNeg (vp_nar .byte ((A 7) v3.toNatClampNeg))))) hP
        have hD : va_D AA (wM cI cB cJ Q B I (va_up A 31 (upd (A 31) v3.toNatClampNeg (vp_nar .byte ((A 7) v3.toNatClampNeg))))) := Eq.mp (congrArg (fun w => va_D AA w) (wMA_31 cI cB cJ Q B I A (upd (A 31) v3.toNatClampNeg (vp_nar .byte ((A 7) v3.toNatClampNeg))))) hD
        refine lv_iinc (v := (v3 + (1 : Int32))) (lv' := [(3, .int (v3 + (1 : Int32))), (0, .ref (Q 100)), (1, .int v1), (2, .int v2)]) hx hb dX9_normal_34 hl (k := 3) rfl rfl (by decide) rfl (fun ls hl => ?_)
        refine lv_goto (tgt := 17) hx hb dX9_normal_37 (by decide) ?_
        exact ih17 I (va_up A 31 (upd (A 31) v3.toNatClampNeg (vp_nar .byte ((A 7) v3.toNatClampNeg)))) v1 v2 (v3 + (1 : Int32)) H locs ls hf hP hD hS (lv_sub hl [1, 2, 3, 0] rfl)
  have hl := lv_entry ([.ref (Q 100), .int x1]) (n := 6) (Nat.le_of_ble_eq_true rfl)
  rw [lg_entry_eq]
  generalize (lg_sl ([.ref (Q 100), .int x1]) ++ List.replicate (6 - (lg_sl ([.ref (Q 100), .int x1])).length) Slot.unset).toArray = ls at hl ⊢
  have hl : lv_has ls 6 [(0, .ref (Q 100)), (1, .int x1)] := hl
  unfold fX9_normal at hf
  refine lv_aload_n hx hb dX9_normal_0 rfl (lv_at hl 0 rfl) ?_
  refine lv_iload_n hx hb dX9_normal_1 rfl (lv_at hl 1 rfl) ?_
  obtain ⟨r1, hc2, hf⟩ := of_bind_some hf
  refine W.callR (r := r1) (W.runV (As := [.int x1]) (rest := []) ⟨hx, hb, hml, hown, hts⟩ (mX9_isChord l dC dI cI cB cJ Q B I A x1 r1 hc2) (cwV 1 hts gX9_normal_X9_isChord rfl rfl rfl (by decide +kernel) ⟨Nat.le_of_ble_eq_true rfl, Nat.le_of_ble_eq_true rfl⟩) ⟨blindR, va_recv hK hP (ci := 6) (q0 := 0) rfl rfl, fun U hU hW => ⟨rfl, by rw [hU]; exact hP, va_K.moved hW.alike hK⟩⟩ rfl rfl hl.1 rfl (lv_room (Nat.le_of_ble_eq_true rfl)) dX9_normal_2 ⟨Nat.zero_le _, Nat.zero_le _⟩) ?_
  refine W.eq (g2 := F0 m 5 ls [.int r1]) rfl ?_
  refine lv_if_ne (tgt := 10) hx hb dX9_normal_5 (by decide) (fun c3 => ?_) (fun c3 => ?_)
  · have hf := (if_neg c3).symm.trans hf
    refine lv_aload_n hx hb dX9_normal_10 rfl (lv_at hl 0 rfl) ?_
    refine va_get (D := (dC, dI)) (ci := 6) (v := .int (I 8)) (C := RX9) (T := TX9) (N := 36) hx hb hts hinX9 hown hK hP 0 rfl rfl 8 (by decide) hk304 (fun _ h9 => h9) rfl dX9_normal_11 ?_
    refine lv_istore_n (lv' := [(2, .int (I 8)), (0, .ref (Q 100)), (1, .int x1)]) hx hb dX9_normal_14 rfl hl (by decide) rfl (fun ls hl => ?_)
    refine lv_iconst (v := (0 : Int32)) hx hb dX9_normal_15 (by decide) ?_
    refine lv_istore_n (lv' := [(3, .int (0 : Int32)), (2, .int (I 8)), (0, .ref (Q 100)), (1, .int x1)]) hx hb dX9_normal_16 rfl hl (by decide) rfl (fun ls hl => ?_)
    exact sg17  FU I A x1 (I 8) (0 : Int32) s.heap [] ls hf hP hD hS (lv_sub hl [2, 3, 1, 0] rfl)
  · have hf := (if_pos c3).symm.trans hf
    refine lv_iconst (v := (-1 : Int32)) hx hb dX9_normal_8 (by decide) ?_
    exact W.iret (v := (-1 : Int32)) hx hb hr (fun t ht hW => ⟨⟨(-1 : Int32), (I, A), rfl, Option.some.inj hf, by rw [ht]; exact hP, va_K.moved hW.alike hK, hD⟩, hS.F ht⟩) hS.2.2 dX9_normal_9
def fX9_move_222B (B : Nat → Nat → Int64)  (k222 : (Nat → Int32) → (Nat → Nat → Int32) → Int32 → Int32 → Int32 → Int32 → Int32 → Int32 → Int32 → Option (Int32 × (Nat → Int32) × (Nat → Nat → Int32))) (I : Nat → Int32) (A : Nat → Nat → Int32) (v1 : Int32) (v3 : Int32) (v4 : Int32) (v5 : Int32) (v6 : Int32) (v7 : Int32) (v9 : Int32) : Option (Int32 × (Nat → Int32) × (Nat → Nat → Int32)) :=
  (if gd v1 100 then (if ((A 5) v1.toNatClampNeg) ≤ v9 then (if gd v1 100 then (if gd (I 6) 100 then ((fX9_letterOf v3 v6).bind fun r16 => (if v5 = 0 then ((fX9_laid B I (va_up A 5 (upd (A 5) (I 6).toNatClampNeg ((A 5) v1.toNatClampNeg))) r16 v6 r16 v7 v5).bind fun (r22, I20, A21) => (some (r22, (I20, A21)))) else ((fX9_letterOf v4 v7).bind fun r24 => ((fX9_laid B I (va_up A 5 (upd (A 5) (I 6).toNatClampNeg ((A 5) v1.toNatClampNeg))) r16 v6 r24 v7 v5).bind fun (r29, I27, A28) => (some (r29, (I27, A28))))))) else none) else none) else (if gd (((16 : Int32) * v1) + v9) 1600 then (if gd (((16 : Int32) * (I 6)) + v9) 1600 then (if gd (((16 : Int32) * v1) + v9) 1600 then (if gd (((16 : Int32) * (I 6)) + v9) 1600 then (k222 I (va_up (va_up A 3 (upd (A 3) (((16 : Int32) * (I 6)) + v9).toNatClampNeg ((A 3) (((16 : Int32) * v1) + v9).toNatClampNeg))) 4 (upd (A 4) (((16 : Int32) * (I 6)) + v9).toNatClampNeg ((A 4) (((16 : Int32) * v1) + v9).toNatClampNeg))) v1 v3 v4 v5 v6 v7 (v9 + (1 : Int32))) else none) else none) else none) else none)) else none)
def fX9_move_222 (B : Nat → Nat → Int64)  : Nat → ((Nat → Int32) → (Nat → Nat → Int32) → Int32 → Int32 → Int32 → Int32 → Int32 → Int32 → Int32 → Option (Int32 × (Nat → Int32) × (Nat → Nat → Int32)))
  | 0 => fun _ _ _ _ _ _ _ _ _ => none
  | n + 1 => fX9_move_222B B  (fX9_move_222 B  n)
def fX9_move_195 (B : Nat → Nat → Int64) (k86 : (Nat → Int32) → (Nat → Nat → Int32) → Int32 → Int32 → Int32 → Int32 → Int32 → Int32 → Int32 → Int32 → Option (Int32 × (Nat → Int32) × (Nat → Nat → Int32))) (k95 : (Nat → Int32) → (Nat → Nat → Int32) → Int32 → Int32 → Int32 → Int32 → Int32 → Int32 → Int32 → Int32 → Int32 → Option (Int32 × (Nat → Int32) × (Nat → Nat → Int32))) (I : Nat → Int32) (A : Nat → Nat → Int32) (v1 : Int32) (v3 : Int32) (v4 : Int32) (v5 : Int32) (v9 : Int32) (v10 : Int32) (v13 : Int32) : Option (Int32 × (Nat → Int32) × (Nat → Nat → Int32)) :=
  (k95 I A v1 v3 v4 v5 v9 v10 v13 v9 (v10 + (1 : Int32)))
def fX9_move_174 (B : Nat → Nat → Int64) (k86 : (Nat → Int32) → (Nat → Nat → Int32) → Int32 → Int32 → Int32 → Int32 → Int32 → Int32 → Int32 → Int32 → Option (Int32 × (Nat → Int32) × (Nat → Nat → Int32))) (k95 : (Nat → Int32) → (Nat → Nat → Int32) → Int32 → Int32 → Int32 → Int32 → Int32 → Int32 → Int32 → Int32 → Int32 → Option (Int32 × (Nat → Int32) × (Nat → Nat → Int32))) (I : Nat → Int32) (A : Nat → Nat → Int32) (v1 : Int32) (v3 : Int32) (v4 : Int32) (v5 : Int32) (v6 : Int32) (v7 : Int32) (v8 : Int32) (v9 : Int32) (v10 : Int32) (v12 : Int32) (t0 : Int32) : Option (Int32 × (Nat → Int32) × (Nat → Nat → Int32)) :=
  (if v12 = 0 then (k95 I A v1 v3 v4 v5 v6 v7 v8 v9 (v10 + (1 : Int32))) else (if v6 = (-2 : Int32) then (fX9_move_195 B k86 k95 I A v1 v3 v4 v5 v9 v10 t0) else (if v8 ≤ t0 then (k95 I A v1 v3 v4 v5 v6 v7 v8 v9 (v10 + (1 : Int32))) else (fX9_move_195 B k86 k95 I A v1 v3 v4 v5 v9 v10 t0))))
def fX9_move_148 (B : Nat → Nat → Int64) (k86 : (Nat → Int32) → (Nat → Nat → Int32) → Int32 → Int32 → Int32 → Int32 → Int32 → Int32 → Int32 → Int32 → Option (Int32 × (Nat → Int32) × (Nat → Nat → Int32))) (k95 : (Nat → Int32) → (Nat → Nat → Int32) → Int32 → Int32 → Int32 → Int32 → Int32 → Int32 → Int32 → Int32 → Int32 → Option (Int32 × (Nat → Int32) × (Nat → Nat → Int32))) (I : Nat → Int32) (A : Nat → Nat → Int32) (v1 : Int32) (v3 : Int32) (v4 : Int32) (v5 : Int32) (v6 : Int32) (v7 : Int32) (v8 : Int32) (v9 : Int32) (v10 : Int32) (v11 : Int32) (t0 : Int32) : Option (Int32 × (Nat → Int32) × (Nat → Nat → Int32)) :=
  (if t0 = 0 then (fX9_move_174 B k86 k95 I A v1 v3 v4 v5 v6 v7 v8 v9 v10 t0 (0 : Int32)) else ((fX9_stepsWeight B I A v1 v11 v9).bind fun r45 => (fX9_move_174 B k86 k95 I A v1 v3 v4 v5 v6 v7 v8 v9 v10 t0 (r45 + (fX9_size v10)))))
def fX9_move_95B (B : Nat → Nat → Int64) (k86 : (Nat → Int32) → (Nat → Nat → Int32) → Int32 → Int32 → Int32 → Int32 → Int32 → Int32 → Int32 → Int32 → Option (Int32 × (Nat → Int32) × (Nat → Nat → Int32))) (k95 : (Nat → Int32) → (Nat → Nat → Int32) → Int32 → Int32 → Int32 → Int32 → Int32 → Int32 → Int32 → Int32 → Int32 → Option (Int32 × (Nat → Int32) × (Nat → Nat → Int32))) (I : Nat → Int32) (A : Nat → Nat → Int32) (v1 : Int32) (v3 : Int32) (v4 : Int32) (v5 : Int32) (v6 : Int32) (v7 : Int32) (v8 : Int32) (v9 : Int32) (v10 : Int32) : Option (Int32 × (Nat → Int32) × (Nat → Nat → Int32)) :=
  (if (1 : Int32) < v10 then (k86 I A v1 v3 v4 v5 v6 v7 v8 (v9 + (1 : Int32))) else ((fX9_letterOf v3 v9).bind fun r36 => (if r36 = (-2 : Int32) then (fX9_move_148 B k86 k95 I A v1 v3 v4 v5 v6 v7 v8 v9 v10 r36 (0 : Int32)) else (if v5 = 0 then (if v10 = v9 then (fX9_move_148 B k86 k95 I A v1 v3 v4 v5 v6 v7 v8 v9 v10 r36 (1 : Int32)) else (fX9_move_148 B k86 k95 I A v1 v3 v4 v5 v6 v7 v8 v9 v10 r36 (0 : Int32))) else ((fX9_letterOf v4 v10).bind fun r41 => (if r41 = (-2 : Int32) then (fX9_move_148 B k86 k95 I A v1 v3 v4 v5 v6 v7 v8 v9 v10 r36 (0 : Int32)) else (fX9_move_148 B k86 k95 I A v1 v3 v4 v5 v6 v7 v8 v9 v10 r36 (1 : Int32))))))))
def fX9_move_95 (B : Nat → Nat → Int64) (k86 : (Nat → Int32) → (Nat → Nat → Int32) → Int32 → Int32 → Int32 → Int32 → Int32 → Int32 → Int32 → Int32 → Option (Int32 × (Nat → Int32) × (Nat → Nat → Int32))) : Nat → ((Nat → Int32) → (Nat → Nat → Int32) → Int32 → Int32 → Int32 → Int32 → Int32 → Int32 → Int32 → Int32 → Int32 → Option (Int32 × (Nat → Int32) × (Nat → Nat → Int32)))
  | 0 => fun _ _ _ _ _ _ _ _ _ _ _ => none
  | n + 1 => fX9_move_95B B k86 (fX9_move_95 B k86 n)
def fX9_move_86B (B : Nat → Nat → Int64)  (k86 : (Nat → Int32) → (Nat → Nat → Int32) → Int32 → Int32 → Int32 → Int32 → Int32 → Int32 → Int32 → Int32 → Option (Int32 × (Nat → Int32) × (Nat → Nat → Int32))) (I : Nat → Int32) (A : Nat → Nat → Int32) (v1 : Int32) (v3 : Int32) (v4 : Int32) (v5 : Int32) (v6 : Int32) (v7 : Int32) (v8 : Int32) (v9 : Int32) : Option (Int32 × (Nat → Int32) × (Nat → Nat → Int32)) :=
  (if (1 : Int32) < v9 then (fX9_move_222 B  FU I A v1 v3 v4 v5 v6 v7 (0 : Int32)) else (fX9_move_95 B k86 FU I A v1 v3 v4 v5 v6 v7 v8 v9 (-1 : Int32)))
def fX9_move_86 (B : Nat → Nat → Int64)  : Nat → ((Nat → Int32) → (Nat → Nat → Int32) → Int32 → Int32 → Int32 → Int32 → Int32 → Int32 → Int32 → Int32 → Option (Int32 × (Nat → Int32) × (Nat → Nat → Int32)))
  | 0 => fun _ _ _ _ _ _ _ _ _ _ => none
  | n + 1 => fX9_move_86B B  (fX9_move_86 B  n)
def fX9_move_70 (B : Nat → Nat → Int64)  (I : Nat → Int32) (A : Nat → Nat → Int32) (v1 : Int32) (v3 : Int32) (v4 : Int32) (t0 : Int32) : Option (Int32 × (Nat → Int32) × (Nat → Nat → Int32)) :=
  (fX9_move_86 B  FU I A v1 v3 v4 t0 (-2 : Int32) (-2 : Int32) (0 : Int32) (-1 : Int32))
def fX9_move (B : Nat → Nat → Int64) (I : Nat → Int32) (A : Nat → Nat → Int32) (x1 : Int32) (x2 : Int32) : Option (Int32 × (Nat → Int32) × (Nat → Nat → Int32)) :=
  ((fX9_isChord B I A x1).bind fun r1 => (if r1 = 0 then (some ((-1 : Int32), (I, A))) else (if (I 6) = (100 : Int32) then (some ((-3 : Int32), (I, A))) else ((fX9_rootOf B I A x1).bind fun r5 => ((fX9_bassOf B I A x1).bind fun r7 => (if gd (((5 : Int32) * x1) + (4 : Int32)) 500 then (if ((A 2) (((5 : Int32) * x1) + (4 : Int32)).toNatClampNeg) = (1 : Int32) then (fX9_move_70 B  I A x1 (jrem (r5 + (fX9_mod12 x2)) (12 : Int32)) (jrem (r7 + (fX9_mod12 x2)) (12 : Int32)) (1 : Int32)) else (fX9_move_70 B  I A x1 (jrem (r5 + (fX9_mod12 x2)) (12 : Int32)) (jrem (r7 + (fX9_mod12 x2)) (12 : Int32)) (0 : Int32))) else none))))))
set_option maxRecDepth 100000 in
set_option maxHeartbeats 4000000 in
theorem mX9_move (l : Launch) (dC : Nat → ClassId) (dI : Nat → Nat → Nat) (cI cB cJ : ClassId) (Q : Nat → Nat) (B : Nat → Nat → Int64) (I : Nat → Int32) (A : Nat → Nat → Int32) (x1 : Int32) (x2 : Int32) (sz : Nat) (z : Int32 × (Nat → Int32) × (Nat → Nat → Int32)) (hf : fX9_move B I A x1 x2 = some z) : Met l yX9_move wsX9_move ({ frames := 3, cells := 0, slots := 0, locals := 69 }) (va_Pc [.ref (Q 100), .int x1, .int x2] (fun U => U.heap.size = sz ∧ va_P (dC, dI) vwCl (wM cI cB cJ Q B I A) U.heap ∧ va_K (dC, dI) vwCl (tM cI cB cJ) U ∧ va_D (fun _ => True) (wM cI cB cJ Q B I A))) (va_Qi (fun (r : Int32) (u : (Nat → Int32) × (Nat → Nat → Int32)) => (r, u) = z) (atM dC dI cI cB cJ Q B (va_A (wM cI cB cJ Q B I A) sz)) (va_A (wM cI cB cJ Q B I A) sz)) 0 0 (va_A (wM cI cB cJ Q B I A) sz) := by
  refine Met.ofW (cc := cX9_move) (maxL := 14) (ret := (some .int)) (by decide) rfl ?_
  intro p e s m args below meth c s₁ BL hml hv
  obtain ⟨rfl, hsz, hP, hK, hD0⟩ := hv
  have hx := BL.exec
  have hb := BL.bytes
  have hr := BL.returns
  have hts := atoms_spec (ws := wsX9_move) BL.pre
  have hown : s.vm.findClass RX9 = some m.cls := findClass_of_methodNamed BL.named
  have hlocks := BL.notSynchronized
  have hinX9 : ∀ w ∈ u_ws RX9 TX9 36, w ∈ wsX9_move := by decide +kernel
  have hk13 := hts (.fieldLink RX9 13 "LeadSheetsModel" "heads" "[I") (by decide +kernel)
  have hk17 := hts (.fieldLink RX9 17 "LeadSheetsModel" "halves" "[I") (by decide +kernel)
  have hk20 := hts (.fieldLink RX9 20 "LeadSheetsModel" "degrees" "[I") (by decide +kernel)
  have hk23 := hts (.fieldLink RX9 23 "LeadSheetsModel" "stepMany" "[I") (by decide +kernel)
  have hk265 := hts (.fieldLink RX9 265 "LeadSheetsModel" "chords" "I") (by decide +kernel)
  subst hsz
  have hD := hD0.self (sz := s.heap.size)
  generalize hAe : va_A (wM cI cB cJ Q B I A) s.heap.size = AA at hD ⊢
  have hA : ∀ q : Nat, s.heap.size ≤ q → AA q := fun q h => by rw [← hAe]; exact Or.inr h
  have hS : va_S AA s.heap s.heap [] := va_S.rf
  have sg222 : ∀ n : Nat, ∀ (I : Nat → Int32) (A : Nat → Nat → Int32) (v1 : Int32) (v3 : Int32) (v4 : Int32) (v5 : Int32) (v6 : Int32) (v7 : Int32) (v9 : Int32) (H : Heap) (locs : List Loc) (ls : Array Slot), fX9_move_222 B  n I A v1 v3 v4 v5 v6 v7 v9 = some z → va_P (dC, dI) vwCl (wM cI cB cJ Q B I A) H → va_D AA (wM cI cB cJ Q B I A) → va_S AA s.heap H locs → lv_has ls 14 [(0, .ref (Q 100)), (1, .int v1), (3, .int v3), (4, .int v4), (5, .int v5), (6, .int v6), (7, .int v7), (9, .int v9)] → W p l e (headSpec wsX9_move ({ frames := 3, cells := 0, slots := 0, locals := 69 })).room s m (([.ref (Q 100), .int x1, .int x2] : List Value).toArray) below meth c H locs 0 0 (MQ below (va_Qi (fun (r : Int32) (u : (Nat → Int32) × (Nat → Nat → Int32)) => (r, u) = z) (atM dC dI cI cB cJ Q B AA) AA) (([.ref (Q 100), .int x1, .int x2] : List Value).toArray) s 0 0 AA) (F0 m 222 ls []) := by
    intro n
    induction n with
    | zero => intro I A v1 v3 v4 v5 v6 v7 v9 H locs ls hf hP hD hS hl; exact of_none hf
    | succ n ih222 =>
      intro I A v1 v3 v4 v5 v6 v7 v9 H locs ls hf hP hD hS hl
      change fX9_move_222B B  (fX9_move_222 B  n) I A v1 v3 v4 v5 v6 v7 v9 = _ at hf
      unfold fX9_move_222B at hf
      refine lv_iload hx hb dX9_move_222 (lv_at hl 7 rfl) ?_
      refine lv_aload_n hx hb dX9_move_224 rfl (lv_at hl 0 rfl) ?_
      refine va_get (D := (dC, dI)) (ci := 6) (v := .ref (Q 5)) (C := RX9) (T := TX9) (N := 36) hx hb hts hinX9 hown hK hP 0 rfl rfl 5 (by decide) hk23 (fun _ h9 => h9) rfl dX9_move_225 ?_
      refine lv_iload_n hx hb dX9_move_228 rfl (lv_at hl 1 rfl) ?_
      obtain ⟨g12, hf⟩ := of_ite_some hf
      refine va_iald hx hb hK hP 5 0 (n := 100) (f := (A 5)) rfl rfl g12 dX9_move_229 ?_
      refine lv_icmp_ge (tgt := 293) hx hb dX9_move_230 (by decide) (fun c13 => ?_) (fun c13 => ?_)
      · have hf := (if_pos c13).symm.trans hf
        refine lv_aload_n hx hb dX9_move_293 rfl (lv_at hl 0 rfl) ?_
        refine va_get (D := (dC, dI)) (ci := 6) (v := .ref (Q 5)) (C := RX9) (T := TX9) (N := 36) hx hb hts hinX9 hown hK hP 0 rfl rfl 5 (by decide) hk23 (fun _ h9 => h9) rfl dX9_move_294 ?_
        refine lv_aload_n hx hb dX9_move_297 rfl (lv_at hl 0 rfl) ?_
        refine va_get (D := (dC, dI)) (ci := 6) (v := .int (I 6)) (C := RX9) (T := TX9) (N := 36) hx hb hts hinX9 hown hK hP 0 rfl rfl 6 (by decide) hk265 (fun _ h9 => h9) rfl dX9_move_298 ?_
        refine lv_aload_n hx hb dX9_move_301 rfl (lv_at hl 0 rfl) ?_
        refine va_get (D := (dC, dI)) (ci := 6) (v := .ref (Q 5)) (C := RX9) (T := TX9) (N := 36) hx hb hts hinX9 hown hK hP 0 rfl rfl 5 (by decide) hk23 (fun _ h9 => h9) rfl dX9_move_302 ?_
        refine lv_iload_n hx hb dX9_move_305 rfl (lv_at hl 1 rfl) ?_
        obtain ⟨g14, hf⟩ := of_ite_some hf
        refine va_iald hx hb hK hP 5 0 (n := 100) (f := (A 5)) rfl rfl g14 dX9_move_306 ?_
        obtain ⟨g15, hf⟩ := of_ite_some hf
        refine va_iast hx hb hK hP hD hS 5 0 (n := 100) (f := (A 5)) rfl rfl g15 dX9_move_307 (fun H locs hP hD hS => ?_)
        have hP : va_P (dC, dI) vwCl (wM cI cB cJ Q B I (va_up A 5 (upd (A 5) (I 6).toNatClampNeg ((A 5) v1.toNatClampNeg)))) H := Eq.mp (congrArg (fun w => va_P (dC, dI) vwCl w H) (wMA_5 cI cB cJ Q B I A (upd (A 5) (I 6).toNatClampNeg ((A 5) v1.toNatClampNeg)))) hP
        have hD : va_D AA (wM cI cB cJ Q B I (va_up A 5 (upd (A 5) (I 6).toNatClampNeg ((A 5) v1.toNatClampNeg)))) := Eq.mp (congrArg (fun w => va_D AA w) (wMA_5 cI cB cJ Q B I A (upd (A 5) (I 6).toNatClampNeg ((A 5) v1.toNatClampNeg)))) hD
        refine lv_iload_n hx hb dX9_move_308 rfl (lv_at hl 2 rfl) ?_
        refine lv_iload hx hb dX9_move_309 (lv_at hl 5 rfl) ?_
        obtain ⟨r16, hc17, hf⟩ := of_bind_some hf
        refine W.callR (r := r16) (W.runS (As := [.int v3, .int v6]) (rest := []) ⟨hx, hb, hml, hown, hts⟩ (mX9_letterOf l v3 v6 r16 hc17) (va_cwS 2 hts gX9_move_X9_letterOf rfl rfl rfl (by decide +kernel) ⟨Nat.le_of_ble_eq_true rfl, Nat.le_of_ble_eq_true rfl⟩) ⟨fun _ _ _ _ q => q, fun U hU hW => ⟨rfl, trivial⟩⟩ rfl rfl hl.1 rfl (lv_room (Nat.le_of_ble_eq_true rfl)) dX9_move_311 ⟨Nat.zero_le _, Nat.zero_le _⟩) ?_
        refine W.eq (g2 := F0 m 314 ls [.int r16]) rfl ?_
        refine lv_istore (lv' := [(9, .int r16), (0, .ref (Q 100)), (1, .int v1), (3, .int v3), (4, .int v4), (5, .int v5), (6, .int v6), (7, .int v7)]) hx hb dX9_move_314 hl (by decide) rfl (fun ls hl => ?_)
        refine lv_aload_n hx hb dX9_move_316 rfl (lv_at hl 1 rfl) ?_
        refine lv_iload hx hb dX9_move_317 (lv_at hl 0 rfl) ?_
        refine lv_iload hx hb dX9_move_319 (lv_at hl 6 rfl) ?_
        refine lv_iload hx hb dX9_move_321 (lv_at hl 5 rfl) ?_
        refine lv_if_eq (tgt := 336) hx hb dX9_move_323 (by decide) (fun c18 => ?_) (fun c18 => ?_)
        · have hf := (if_pos c18).symm.trans hf
          refine lv_iload hx hb dX9_move_336 (lv_at hl 0 rfl) ?_
          refine lv_iload hx hb dX9_move_338 (lv_at hl 7 rfl) ?_
          refine lv_iload hx hb dX9_move_340 (lv_at hl 5 rfl) ?_
          obtain ⟨⟨r22, I20, A21⟩, hc19, hf⟩ := of_bind_some hf
          have hF23 := va_freeAll hD hS hA
          refine va_calli (va_runV (As := [.int r16, .int v6, .int r16, .int v7, .int v5]) (rest := []) ⟨hx, hb, hml, hown, hts⟩ (mX9_laid l dC dI cI cB cJ Q B I (va_up A 5 (upd (A 5) (I 6).toNatClampNeg ((A 5) v1.toNatClampNeg))) r16 v6 r16 v7 v5 H.size _ hc19) (cwV 5 hts gX9_move_X9_laid rfl rfl rfl (by decide +kernel) ⟨Nat.le_of_ble_eq_true rfl, Nat.le_of_ble_eq_true rfl⟩) ⟨blindW, va_recv hK hP (ci := 6) (q0 := 0) rfl rfl, fun U hU hW => ⟨rfl, by rw [hU], by rw [hU]; exact hP, va_K.moved hW.alike hK, hD.weaken (fun _ _ _ _ => trivial)⟩⟩ rfl rfl hl.1 rfl (lv_room (Nat.le_of_ble_eq_true rfl)) dX9_move_342 ⟨Nat.zero_le _, Nat.zero_le _⟩) hS (fun q _ h => hF23 q h) hF23 (fun r0 u t H locs ht hvm hw hB hz1 hk1 hS => ?_)
          cases hw
          obtain ⟨hP, hK9, hD⟩ := hB
          rw [ht] at hP
          have hP : va_P (dC, dI) vwCl (wM cI cB cJ Q B I20 A21) H := hP
          have hD : va_D AA (wM cI cB cJ Q B I20 A21) := hD.weaken (fun _ _ _ h => hF23 _ h)
          exact W.iret (v := r22) hx hb hr (fun t ht hW => ⟨⟨r22, (I20, A21), rfl, Option.some.inj hf, by rw [ht]; exact hP, va_K.moved hW.alike hK, hD⟩, hS.F ht⟩) hS.2.2 dX9_move_345
        · have hf := (if_neg c18).symm.trans hf
          refine lv_iload hx hb dX9_move_326 (lv_at hl 4 rfl) ?_
          refine lv_iload hx hb dX9_move_328 (lv_at hl 7 rfl) ?_
          obtain ⟨r24, hc25, hf⟩ := of_bind_some hf
          refine W.callR (r := r24) (W.runS (As := [.int v4, .int v7]) (rest := [.int v6, .int r16, .ref (Q 100)]) ⟨hx, hb, hml, hown, hts⟩ (mX9_letterOf l v4 v7 r24 hc25) (va_cwS 2 hts gX9_move_X9_letterOf rfl rfl rfl (by decide +kernel) ⟨Nat.le_of_ble_eq_true rfl, Nat.le_of_ble_eq_true rfl⟩) ⟨fun _ _ _ _ q => q, fun U hU hW => ⟨rfl, trivial⟩⟩ rfl rfl hl.1 rfl (lv_room (Nat.le_of_ble_eq_true rfl)) dX9_move_330 ⟨Nat.zero_le _, Nat.zero_le _⟩) ?_
          refine W.eq (g2 := F0 m 333 ls [.int r24, .int v6, .int r16, .ref (Q 100)]) rfl ?_
          refine lv_goto (tgt := 338) hx hb dX9_move_333 (by decide) ?_
          refine lv_iload hx hb dX9_move_338 (lv_at hl 7 rfl) ?_
          refine lv_iload hx hb dX9_move_340 (lv_at hl 5 rfl) ?_
          obtain ⟨⟨r29, I27, A28⟩, hc26, hf⟩ := of_bind_some hf
          have hF30 := va_freeAll hD hS hA
          refine va_calli (va_runV (As := [.int r16, .int v6, .int r24, .int v7, .int v5]) (rest := []) ⟨hx, hb, hml, hown, hts⟩ (mX9_laid l dC dI cI cB cJ Q B I (va_up A 5 (upd (A 5) (I 6).toNatClampNeg ((A 5) v1.toNatClampNeg))) r16 v6 r24 v7 v5 H.size _ hc26) (cwV 5 hts gX9_move_X9_laid rfl rfl rfl (by decide +kernel) ⟨Nat.le_of_ble_eq_true rfl, Nat.le_of_ble_eq_true rfl⟩) ⟨blindW, va_recv hK hP (ci := 6) (q0 := 0) rfl rfl, fun U hU hW => ⟨rfl, by rw [hU], by rw [hU]; exact hP, va_K.moved hW.alike hK, hD.weaken (fun _ _ _ _ => trivial)⟩⟩ rfl rfl hl.1 rfl (lv_room (Nat.le_of_ble_eq_true rfl)) dX9_move_342 ⟨Nat.zero_le _, Nat.zero_le _⟩) hS (fun q _ h => hF30 q h) hF30 (fun r0 u t H locs ht hvm hw hB hz1 hk1 hS => ?_)
          cases hw
          obtain ⟨hP, hK9, hD⟩ := hB
          rw [ht] at hP
          have hP : va_P (dC, dI) vwCl (wM cI cB cJ Q B I27 A28) H := hP
          have hD : va_D AA (wM cI cB cJ Q B I27 A28) := hD.weaken (fun _ _ _ h => hF30 _ h)
          exact W.iret (v := r29) hx hb hr (fun t ht hW => ⟨⟨r29, (I27, A28), rfl, Option.some.inj hf, by rw [ht]; exact hP, va_K.moved hW.alike hK, hD⟩, hS.F ht⟩) hS.2.2 dX9_move_345
      · have hf := (if_neg c13).symm.trans hf
        refine lv_aload_n hx hb dX9_move_233 rfl (lv_at hl 0 rfl) ?_
        refine va_get (D := (dC, dI)) (ci := 6) (v := .ref (Q 3)) (C := RX9) (T := TX9) (N := 36) hx hb hts hinX9 hown hK hP 0 rfl rfl 3 (by decide) hk17 (fun _ h9 => h9) rfl dX9_move_234 ?_
        refine lv_bipush (v := (16 : Int32)) hx hb dX9_move_237 (by decide) ?_
        refine lv_aload_n hx hb dX9_move_239 rfl (lv_at hl 0 rfl) ?_
        refine va_get (D := (dC, dI)) (ci := 6) (v := .int (I 6)) (C := RX9) (T := TX9) (N := 36) hx hb hts hinX9 hown hK hP 0 rfl rfl 6 (by decide) hk265 (fun _ h9 => h9) rfl dX9_move_240 ?_
        refine lv_imul hx hb dX9_move_243 ?_
        refine lv_iload hx hb dX9_move_244 (lv_at hl 7 rfl) ?_
        refine lv_iadd hx hb dX9_move_246 ?_
        refine lv_aload_n hx hb dX9_move_247 rfl (lv_at hl 0 rfl) ?_
        refine va_get (D := (dC, dI)) (ci := 6) (v := .ref (Q 3)) (C := RX9) (T := TX9) (N := 36) hx hb hts hinX9 hown hK hP 0 rfl rfl 3 (by decide) hk17 (fun _ h9 => h9) rfl dX9_move_248 ?_
        refine lv_bipush (v := (16 : Int32)) hx hb dX9_move_251 (by decide) ?_
        refine lv_iload_n hx hb dX9_move_253 rfl (lv_at hl 1 rfl) ?_
        refine lv_imul hx hb dX9_move_254 ?_
        refine lv_iload hx hb dX9_move_255 (lv_at hl 7 rfl) ?_
        refine lv_iadd hx hb dX9_move_257 ?_
        obtain ⟨g31, hf⟩ := of_ite_some hf
        refine va_iald hx hb hK hP 3 0 (n := 1600) (f := (A 3)) rfl rfl g31 dX9_move_258 ?_
        obtain ⟨g32, hf⟩ := of_ite_some hf
        refine va_iast hx hb hK hP hD hS 3 0 (n := 1600) (f := (A 3)) rfl rfl g32 dX9_move_259 (fun H locs hP hD hS => ?_)
        have hP : va_P (dC, dI) vwCl (wM cI cB cJ Q B I (va_up A 3 (upd (A 3) (((16 : Int32) * (I 6)) + v9).toNatClampNeg ((A 3) (((16 : Int32) * v1) + v9).toNatClampNeg)))) H := Eq.mp (congrArg (fun w => va_P (dC, dI) vwCl w H) (wMA_3 cI cB cJ Q B I A (upd (A 3) (((16 : Int32) * (I 6)) + v9).toNatClampNeg ((A 3) (((16 : Int32) * v1) + v9).toNatClampNeg)))) hP
        have hD : va_D AA (wM cI cB cJ Q B I (va_up A 3 (upd (A 3) (((16 : Int32) * (I 6)) + v9).toNatClampNeg ((A 3) (((16 : Int32) * v1) + v9).toNatClampNeg)))) := Eq.mp (congrArg (fun w => va_D AA w) (wMA_3 cI cB cJ Q B I A (upd (A 3) (((16 : Int32) * (I 6)) + v9).toNatClampNeg ((A 3) (((16 : Int32) * v1) + v9).toNatClampNeg)))) hD
        refine lv_aload_n hx hb dX9_move_260 rfl (lv_at hl 0 rfl) ?_
        refine va_get (D := (dC, dI)) (ci := 6) (v := .ref (Q 4)) (C := RX9) (T := TX9) (N := 36) hx hb hts hinX9 hown hK hP 0 rfl rfl 4 (by decide) hk20 (fun _ h9 => h9) rfl dX9_move_261 ?_
        refine lv_bipush (v := (16 : Int32)) hx hb dX9_move_264 (by decide) ?_
        refine lv_aload_n hx hb dX9_move_266 rfl (lv_at hl 0 rfl) ?_
        refine va_get (D := (dC, dI)) (ci := 6) (v := .int (I 6)) (C := RX9) (T := TX9) (N := 36) hx hb hts hinX9 hown hK hP 0 rfl rfl 6 (by decide) hk265 (fun _ h9 => h9) rfl dX9_move_267 ?_
        refine lv_imul hx hb dX9_move_270 ?_
        refine lv_iload hx hb dX9_move_271 (lv_at hl 7 rfl) ?_
        refine lv_iadd hx hb dX9_move_273 ?_
        refine lv_aload_n hx hb dX9_move_274 rfl (lv_at hl 0 rfl) ?_
        refine va_get (D := (dC, dI)) (ci := 6) (v := .ref (Q 4)) (C := RX9) (T := TX9) (N := 36) hx hb hts hinX9 hown hK hP 0 rfl rfl 4 (by decide) hk20 (fun _ h9 => h9) rfl dX9_move_275 ?_
        refine lv_bipush (v := (16 : Int32)) hx hb dX9_move_278 (by decide) ?_
        refine lv_iload_n hx hb dX9_move_280 rfl (lv_at hl 1 rfl) ?_
        refine lv_imul hx hb dX9_move_281 ?_
        refine lv_iload hx hb dX9_move_282 (lv_at hl 7 rfl) ?_
        refine lv_iadd hx hb dX9_move_284 ?_
        obtain ⟨g33, hf⟩ := of_ite_some hf
        refine va_iald hx hb hK hP 4 0 (n := 1600) (f := (A 4)) rfl rfl g33 dX9_move_285 ?_
        obtain ⟨g34, hf⟩ := of_ite_some hf
        refine va_iast hx hb hK hP hD hS 4 0 (n := 1600) (f := (A 4)) rfl rfl g34 dX9_move_286 (fun H locs hP hD hS => ?_)
        have hP : va_P (dC, dI) vwCl (wM cI cB cJ Q B I (va_up (va_up A 3 (upd (A 3) (((16 : Int32) * (I 6)) + v9).toNatClampNeg ((A 3) (((16 : Int32) * v1) + v9).toNatClampNeg))) 4 (upd (A 4) (((16 : Int32) * (I 6)) + v9).toNatClampNeg ((A 4) (((16 : Int32) * v1) + v9).toNatClampNeg)))) H := Eq.mp (congrArg (fun w => va_P (dC, dI) vwCl w H) (wMA_4 cI cB cJ Q B I (va_up A 3 (upd (A 3) (((16 : Int32) * (I 6)) + v9).toNatClampNeg ((A 3) (((16 : Int32) * v1) + v9).toNatClampNeg))) (upd (A 4) (((16 : Int32) * (I 6)) + v9).toNatClampNeg ((A 4) (((16 : Int32) * v1) + v9).toNatClampNeg)))) hP
        have hD : va_D AA (wM cI cB cJ Q B I (va_up (va_up A 3 (upd (A 3) (((16 : Int32) * (I 6)) + v9).toNatClampNeg ((A 3) (((16 : Int32) * v1) + v9).toNatClampNeg))) 4 (upd (A 4) (((16 : Int32) * (I 6)) + v9).toNatClampNeg ((A 4) (((16 : Int32) * v1) + v9).toNatClampNeg)))) := Eq.mp (congrArg (fun w => va_D AA w) (wMA_4 cI cB cJ Q B I (va_up A 3 (upd (A 3) (((16 : Int32) * (I 6)) + v9).toNatClampNeg ((A 3) (((16 : Int32) * v1) + v9).toNatClampNeg))) (upd (A 4) (((16 : Int32) * (I 6)) + v9).toNatClampNeg ((A 4) (((16 : Int32) * v1) + v9).toNatClampNeg)))) hD
        refine lv_iinc (v := (v9 + (1 : Int32))) (lv' := [(9, .int (v9 + (1 : Int32))), (0, .ref (Q 100)), (1, .int v1), (3, .int v3), (4, .int v4), (5, .int v5), (6, .int v6), (7, .int v7)]) hx hb dX9_move_287 hl (k := 7) rfl rfl (by decide) rfl (fun ls hl => ?_)
        refine lv_goto (tgt := 222) hx hb dX9_move_290 (by decide) ?_
        exact ih222 I (va_up (va_up A 3 (upd (A 3) (((16 : Int32) * (I 6)) + v9).toNatClampNeg ((A 3) (((16 : Int32) * v1) + v9).toNatClampNeg))) 4 (upd (A 4) (((16 : Int32) * (I 6)) + v9).toNatClampNeg ((A 4) (((16 : Int32) * v1) + v9).toNatClampNeg))) v1 v3 v4 v5 v6 v7 (v9 + (1 : Int32)) H locs ls hf hP hD hS (lv_sub hl [1, 2, 3, 4, 5, 6, 7, 0] rfl)
  have sg195 : ∀ (k86 : (Nat → Int32) → (Nat → Nat → Int32) → Int32 → Int32 → Int32 → Int32 → Int32 → Int32 → Int32 → Int32 → Option (Int32 × (Nat → Int32) × (Nat → Nat → Int32))), (∀ (I : Nat → Int32) (A : Nat → Nat → Int32) (v1 : Int32) (v3 : Int32) (v4 : Int32) (v5 : Int32) (v6 : Int32) (v7 : Int32) (v8 : Int32) (v9 : Int32) (H : Heap) (locs : List Loc) (ls : Array Slot), k86 I A v1 v3 v4 v5 v6 v7 v8 v9 = some z → va_P (dC, dI) vwCl (wM cI cB cJ Q B I A) H → va_D AA (wM cI cB cJ Q B I A) → va_S AA s.heap H locs → lv_has ls 14 [(0, .ref (Q 100)), (1, .int v1), (3, .int v3), (4, .int v4), (5, .int v5), (6, .int v6), (7, .int v7), (8, .int v8), (9, .int v9)] → W p l e (headSpec wsX9_move ({ frames := 3, cells := 0, slots := 0, locals := 69 })).room s m (([.ref (Q 100), .int x1, .int x2] : List Value).toArray) below meth c H locs 0 0 (MQ below (va_Qi (fun (r : Int32) (u : (Nat → Int32) × (Nat → Nat → Int32)) => (r, u) = z) (atM dC dI cI cB cJ Q B AA) AA) (([.ref (Q 100), .int x1, .int x2] : List Value).toArray) s 0 0 AA) (F0 m 86 ls [])) → ∀ (k95 : (Nat → Int32) → (Nat → Nat → Int32) → Int32 → Int32 → Int32 → Int32 → Int32 → Int32 → Int32 → Int32 → Int32 → Option (Int32 × (Nat → Int32) × (Nat → Nat → Int32))), (∀ (I : Nat → Int32) (A : Nat → Nat → Int32) (v1 : Int32) (v3 : Int32) (v4 : Int32) (v5 : Int32) (v6 : Int32) (v7 : Int32) (v8 : Int32) (v9 : Int32) (v10 : Int32) (H : Heap) (locs : List Loc) (ls : Array Slot), k95 I A v1 v3 v4 v5 v6 v7 v8 v9 v10 = some z → va_P (dC, dI) vwCl (wM cI cB cJ Q B I A) H → va_D AA (wM cI cB cJ Q B I A) → va_S AA s.heap H locs → lv_has ls 14 [(0, .ref (Q 100)), (1, .int v1), (3, .int v3), (4, .int v4), (5, .int v5), (6, .int v6), (7, .int v7), (8, .int v8), (9, .int v9), (10, .int v10)] → W p l e (headSpec wsX9_move ({ frames := 3, cells := 0, slots := 0, locals := 69 })).room s m (([.ref (Q 100), .int x1, .int x2] : List Value).toArray) below meth c H locs 0 0 (MQ below (va_Qi (fun (r : Int32) (u : (Nat → Int32) × (Nat → Nat → Int32)) => (r, u) = z) (atM dC dI cI cB cJ Q B AA) AA) (([.ref (Q 100), .int x1, .int x2] : List Value).toArray) s 0 0 AA) (F0 m 95 ls [])) → ∀ (I : Nat → Int32) (A : Nat → Nat → Int32) (v1 : Int32) (v3 : Int32) (v4 : Int32) (v5 : Int32) (v9 : Int32) (v10 : Int32) (v13 : Int32) (H : Heap) (locs : List Loc) (ls : Array Slot), fX9_move_195 B k86 k95 I A v1 v3 v4 v5 v9 v10 v13 = some z → va_P (dC, dI) vwCl (wM cI cB cJ Q B I A) H → va_D AA (wM cI cB cJ Q B I A) → va_S AA s.heap H locs → lv_has ls 14 [(0, .ref (Q 100)), (1, .int v1), (3, .int v3), (4, .int v4), (5, .int v5), (9, .int v9), (10, .int v10), (13, .int v13)] → W p l e (headSpec wsX9_move ({ frames := 3, cells := 0, slots := 0, locals := 69 })).room s m (([.ref (Q 100), .int x1, .int x2] : List Value).toArray) below meth c H locs 0 0 (MQ below (va_Qi (fun (r : Int32) (u : (Nat → Int32) × (Nat → Nat → Int32)) => (r, u) = z) (atM dC dI cI cB cJ Q B AA) AA) (([.ref (Q 100), .int x1, .int x2] : List Value).toArray) s 0 0 AA) (F0 m 195 ls []) := by
    intro k86 ih86 k95 ih95
    intro I A v1 v3 v4 v5 v9 v10 v13 H locs ls hf hP hD hS hl
    unfold fX9_move_195 at hf
    refine lv_iload hx hb dX9_move_195 (lv_at hl 5 rfl) ?_
    refine lv_istore (lv' := [(6, .int v9), (0, .ref (Q 100)), (1, .int v1), (3, .int v3), (4, .int v4), (5, .int v5), (9, .int v9), (10, .int v10), (13, .int v13)]) hx hb dX9_move_197 hl (by decide) rfl (fun ls hl => ?_)
    refine lv_iload hx hb dX9_move_199 (lv_at hl 7 rfl) ?_
    refine lv_istore (lv' := [(7, .int v10), (6, .int v9), (0, .ref (Q 100)), (1, .int v1), (3, .int v3), (4, .int v4), (5, .int v5), (9, .int v9), (10, .int v10), (13, .int v13)]) hx hb dX9_move_201 hl (by decide) rfl (fun ls hl => ?_)
    refine lv_iload hx hb dX9_move_203 (lv_at hl 9 rfl) ?_
    refine lv_istore (lv' := [(8, .int v13), (7, .int v10), (6, .int v9), (0, .ref (Q 100)), (1, .int v1), (3, .int v3), (4, .int v4), (5, .int v5), (9, .int v9), (10, .int v10), (13, .int v13)]) hx hb dX9_move_205 hl (by decide) rfl (fun ls hl => ?_)
    refine lv_iinc (v := (v10 + (1 : Int32))) (lv' := [(10, .int (v10 + (1 : Int32))), (8, .int v13), (7, .int v10), (6, .int v9), (0, .ref (Q 100)), (1, .int v1), (3, .int v3), (4, .int v4), (5, .int v5), (9, .int v9), (13, .int v13)]) hx hb dX9_move_207 hl (k := 9) rfl rfl (by decide) rfl (fun ls hl => ?_)
    refine lv_goto (tgt := 95) hx hb dX9_move_210 (by decide) ?_
    exact ih95 I A v1 v3 v4 v5 v9 v10 v13 v9 (v10 + (1 : Int32)) H locs ls hf hP hD hS (lv_sub hl [4, 5, 6, 7, 8, 3, 2, 1, 9, 0] rfl)
  have sg174 : ∀ (k86 : (Nat → Int32) → (Nat → Nat → Int32) → Int32 → Int32 → Int32 → Int32 → Int32 → Int32 → Int32 → Int32 → Option (Int32 × (Nat → Int32) × (Nat → Nat → Int32))), (∀ (I : Nat → Int32) (A : Nat → Nat → Int32) (v1 : Int32) (v3 : Int32) (v4 : Int32) (v5 : Int32) (v6 : Int32) (v7 : Int32) (v8 : Int32) (v9 : Int32) (H : Heap) (locs : List Loc) (ls : Array Slot), k86 I A v1 v3 v4 v5 v6 v7 v8 v9 = some z → va_P (dC, dI) vwCl (wM cI cB cJ Q B I A) H → va_D AA (wM cI cB cJ Q B I A) → va_S AA s.heap H locs → lv_has ls 14 [(0, .ref (Q 100)), (1, .int v1), (3, .int v3), (4, .int v4), (5, .int v5), (6, .int v6), (7, .int v7), (8, .int v8), (9, .int v9)] → W p l e (headSpec wsX9_move ({ frames := 3, cells := 0, slots := 0, locals := 69 })).room s m (([.ref (Q 100), .int x1, .int x2] : List Value).toArray) below meth c H locs 0 0 (MQ below (va_Qi (fun (r : Int32) (u : (Nat → Int32) × (Nat → Nat → Int32)) => (r, u) = z) (atM dC dI cI cB cJ Q B AA) AA) (([.ref (Q 100), .int x1, .int x2] : List Value).toArray) s 0 0 AA) (F0 m 86 ls [])) → ∀ (k95 : (Nat → Int32) → (Nat → Nat → Int32) → Int32 → Int32 → Int32 → Int32 → Int32 → Int32 → Int32 → Int32 → Int32 → Option (Int32 × (Nat → Int32) × (Nat → Nat → Int32))), (∀ (I : Nat → Int32) (A : Nat → Nat → Int32) (v1 : Int32) (v3 : Int32) (v4 : Int32) (v5 : Int32) (v6 : Int32) (v7 : Int32) (v8 : Int32) (v9 : Int32) (v10 : Int32) (H : Heap) (locs : List Loc) (ls : Array Slot), k95 I A v1 v3 v4 v5 v6 v7 v8 v9 v10 = some z → va_P (dC, dI) vwCl (wM cI cB cJ Q B I A) H → va_D AA (wM cI cB cJ Q B I A) → va_S AA s.heap H locs → lv_has ls 14 [(0, .ref (Q 100)), (1, .int v1), (3, .int v3), (4, .int v4), (5, .int v5), (6, .int v6), (7, .int v7), (8, .int v8), (9, .int v9), (10, .int v10)] → W p l e (headSpec wsX9_move ({ frames := 3, cells := 0, slots := 0, locals := 69 })).room s m (([.ref (Q 100), .int x1, .int x2] : List Value).toArray) below meth c H locs 0 0 (MQ below (va_Qi (fun (r : Int32) (u : (Nat → Int32) × (Nat → Nat → Int32)) => (r, u) = z) (atM dC dI cI cB cJ Q B AA) AA) (([.ref (Q 100), .int x1, .int x2] : List Value).toArray) s 0 0 AA) (F0 m 95 ls [])) → ∀ (I : Nat → Int32) (A : Nat → Nat → Int32) (v1 : Int32) (v3 : Int32) (v4 : Int32) (v5 : Int32) (v6 : Int32) (v7 : Int32) (v8 : Int32) (v9 : Int32) (v10 : Int32) (v12 : Int32) (t0 : Int32) (H : Heap) (locs : List Loc) (ls : Array Slot), fX9_move_174 B k86 k95 I A v1 v3 v4 v5 v6 v7 v8 v9 v10 v12 t0 = some z → va_P (dC, dI) vwCl (wM cI cB cJ Q B I A) H → va_D AA (wM cI cB cJ Q B I A) → va_S AA s.heap H locs → lv_has ls 14 [(0, .ref (Q 100)), (1, .int v1), (3, .int v3), (4, .int v4), (5, .int v5), (6, .int v6), (7, .int v7), (8, .int v8), (9, .int v9), (10, .int v10), (12, .int v12)] → W p l e (headSpec wsX9_move ({ frames := 3, cells := 0, slots := 0, locals := 69 })).room s m (([.ref (Q 100), .int x1, .int x2] : List Value).toArray) below meth c H locs 0 0 (MQ below (va_Qi (fun (r : Int32) (u : (Nat → Int32) × (Nat → Nat → Int32)) => (r, u) = z) (atM dC dI cI cB cJ Q B AA) AA) (([.ref (Q 100), .int x1, .int x2] : List Value).toArray) s 0 0 AA) (F0 m 174 ls [.int t0]) := by
    intro k86 ih86 k95 ih95
    intro I A v1 v3 v4 v5 v6 v7 v8 v9 v10 v12 t0 H locs ls hf hP hD hS hl
    unfold fX9_move_174 at hf
    refine lv_istore (lv' := [(13, .int t0), (0, .ref (Q 100)), (1, .int v1), (3, .int v3), (4, .int v4), (5, .int v5), (6, .int v6), (7, .int v7), (8, .int v8), (9, .int v9), (10, .int v10), (12, .int v12)]) hx hb dX9_move_174 hl (by decide) rfl (fun ls hl => ?_)
    refine lv_iload hx hb dX9_move_176 (lv_at hl 11 rfl) ?_
    refine lv_if_eq (tgt := 207) hx hb dX9_move_178 (by decide) (fun c47 => ?_) (fun c47 => ?_)
    · have hf := (if_pos c47).symm.trans hf
      refine lv_iinc (v := (v10 + (1 : Int32))) (lv' := [(10, .int (v10 + (1 : Int32))), (13, .int t0), (0, .ref (Q 100)), (1, .int v1), (3, .int v3), (4, .int v4), (5, .int v5), (6, .int v6), (7, .int v7), (8, .int v8), (9, .int v9), (12, .int v12)]) hx hb dX9_move_207 hl (k := 10) rfl rfl (by decide) rfl (fun ls hl => ?_)
      refine lv_goto (tgt := 95) hx hb dX9_move_210 (by decide) ?_
      exact ih95 I A v1 v3 v4 v5 v6 v7 v8 v9 (v10 + (1 : Int32)) H locs ls hf hP hD hS (lv_sub hl [2, 3, 4, 5, 6, 7, 8, 9, 10, 0] rfl)
    · have hf := (if_neg c47).symm.trans hf
      refine lv_iload hx hb dX9_move_181 (lv_at hl 6 rfl) ?_
      refine lv_bipush (v := (-2 : Int32)) hx hb dX9_move_183 (by decide) ?_
      refine lv_icmp_eq (tgt := 195) hx hb dX9_move_185 (by decide) (fun c48 => ?_) (fun c48 => ?_)
      · have hf := (if_pos c48).symm.trans hf
        exact sg195 _ ih86 _ ih95 I A v1 v3 v4 v5 v9 v10 t0 H locs ls hf hP hD hS (lv_sub hl [1, 2, 3, 4, 5, 9, 10, 0] rfl)
      · have hf := (if_neg c48).symm.trans hf
        refine lv_iload hx hb dX9_move_188 (lv_at hl 0 rfl) ?_
        refine lv_iload hx hb dX9_move_190 (lv_at hl 8 rfl) ?_
        refine lv_icmp_ge (tgt := 207) hx hb dX9_move_192 (by decide) (fun c49 => ?_) (fun c49 => ?_)
        · have hf := (if_pos c49).symm.trans hf
          refine lv_iinc (v := (v10 + (1 : Int32))) (lv' := [(10, .int (v10 + (1 : Int32))), (13, .int t0), (0, .ref (Q 100)), (1, .int v1), (3, .int v3), (4, .int v4), (5, .int v5), (6, .int v6), (7, .int v7), (8, .int v8), (9, .int v9), (12, .int v12)]) hx hb dX9_move_207 hl (k := 10) rfl rfl (by decide) rfl (fun ls hl => ?_)
          refine lv_goto (tgt := 95) hx hb dX9_move_210 (by decide) ?_
          exact ih95 I A v1 v3 v4 v5 v6 v7 v8 v9 (v10 + (1 : Int32)) H locs ls hf hP hD hS (lv_sub hl [2, 3, 4, 5, 6, 7, 8, 9, 10, 0] rfl)
        · have hf := (if_neg c49).symm.trans hf
          exact sg195 _ ih86 _ ih95 I A v1 v3 v4 v5 v9 v10 t0 H locs ls hf hP hD hS (lv_sub hl [1, 2, 3, 4, 5, 9, 10, 0] rfl)
  have sg148 : ∀ (k86 : (Nat → Int32) → (Nat → Nat → Int32) → Int32 → Int32 → Int32 → Int32 → Int32 → Int32 → Int32 → Int32 → Option (Int32 × (Nat → Int32) × (Nat → Nat → Int32))), (∀ (I : Nat → Int32) (A : Nat → Nat → Int32) (v1 : Int32) (v3 : Int32) (v4 : Int32) (v5 : Int32) (v6 : Int32) (v7 : Int32) (v8 : Int32) (v9 : Int32) (H : Heap) (locs : List Loc) (ls : Array Slot), k86 I A v1 v3 v4 v5 v6 v7 v8 v9 = some z → va_P (dC, dI) vwCl (wM cI cB cJ Q B I A) H → va_D AA (wM cI cB cJ Q B I A) → va_S AA s.heap H locs → lv_has ls 14 [(0, .ref (Q 100)), (1, .int v1), (3, .int v3), (4, .int v4), (5, .int v5), (6, .int v6), (7, .int v7), (8, .int v8), (9, .int v9)] → W p l e (headSpec wsX9_move ({ frames := 3, cells := 0, slots := 0, locals := 69 })).room s m (([.ref (Q 100), .int x1, .int x2] : List Value).toArray) below meth c H locs 0 0 (MQ below (va_Qi (fun (r : Int32) (u : (Nat → Int32) × (Nat → Nat → Int32)) => (r, u) = z) (atM dC dI cI cB cJ Q B AA) AA) (([.ref (Q 100), .int x1, .int x2] : List Value).toArray) s 0 0 AA) (F0 m 86 ls [])) → ∀ (k95 : (Nat → Int32) → (Nat → Nat → Int32) → Int32 → Int32 → Int32 → Int32 → Int32 → Int32 → Int32 → Int32 → Int32 → Option (Int32 × (Nat → Int32) × (Nat → Nat → Int32))), (∀ (I : Nat → Int32) (A : Nat → Nat → Int32) (v1 : Int32) (v3 : Int32) (v4 : Int32) (v5 : Int32) (v6 : Int32) (v7 : Int32) (v8 : Int32) (v9 : Int32) (v10 : Int32) (H : Heap) (locs : List Loc) (ls : Array Slot), k95 I A v1 v3 v4 v5 v6 v7 v8 v9 v10 = some z → va_P (dC, dI) vwCl (wM cI cB cJ Q B I A) H → va_D AA (wM cI cB cJ Q B I A) → va_S AA s.heap H locs → lv_has ls 14 [(0, .ref (Q 100)), (1, .int v1), (3, .int v3), (4, .int v4), (5, .int v5), (6, .int v6), (7, .int v7), (8, .int v8), (9, .int v9), (10, .int v10)] → W p l e (headSpec wsX9_move ({ frames := 3, cells := 0, slots := 0, locals := 69 })).room s m (([.ref (Q 100), .int x1, .int x2] : List Value).toArray) below meth c H locs 0 0 (MQ below (va_Qi (fun (r : Int32) (u : (Nat → Int32) × (Nat → Nat → Int32)) => (r, u) = z) (atM dC dI cI cB cJ Q B AA) AA) (([.ref (Q 100), .int x1, .int x2] : List Value).toArray) s 0 0 AA) (F0 m 95 ls [])) → ∀ (I : Nat → Int32) (A : Nat → Nat → Int32) (v1 : Int32) (v3 : Int32) (v4 : Int32) (v5 : Int32) (v6 : Int32) (v7 : Int32) (v8 : Int32) (v9 : Int32) (v10 : Int32) (v11 : Int32) (t0 : Int32) (H : Heap) (locs : List Loc) (ls : Array Slot), fX9_move_148 B k86 k95 I A v1 v3 v4 v5 v6 v7 v8 v9 v10 v11 t0 = some z → va_P (dC, dI) vwCl (wM cI cB cJ Q B I A) H → va_D AA (wM cI cB cJ Q B I A) → va_S AA s.heap H locs → lv_has ls 14 [(0, .ref (Q 100)), (1, .int v1), (3, .int v3), (4, .int v4), (5, .int v5), (6, .int v6), (7, .int v7), (8, .int v8), (9, .int v9), (10, .int v10), (11, .int v11)] → W p l e (headSpec wsX9_move ({ frames := 3, cells := 0, slots := 0, locals := 69 })).room s m (([.ref (Q 100), .int x1, .int x2] : List Value).toArray) below meth c H locs 0 0 (MQ below (va_Qi (fun (r : Int32) (u : (Nat → Int32) × (Nat → Nat → Int32)) => (r, u) = z) (atM dC dI cI cB cJ Q B AA) AA) (([.ref (Q 100), .int x1, .int x2] : List Value).toArray) s 0 0 AA) (F0 m 148 ls [.int t0]) := by
    intro k86 ih86 k95 ih95
    intro I A v1 v3 v4 v5 v6 v7 v8 v9 v10 v11 t0 H locs ls hf hP hD hS hl
    unfold fX9_move_148 at hf
    refine lv_istore (lv' := [(12, .int t0), (0, .ref (Q 100)), (1, .int v1), (3, .int v3), (4, .int v4), (5, .int v5), (6, .int v6), (7, .int v7), (8, .int v8), (9, .int v9), (10, .int v10), (11, .int v11)]) hx hb dX9_move_148 hl (by decide) rfl (fun ls hl => ?_)
    refine lv_iload hx hb dX9_move_150 (lv_at hl 0 rfl) ?_
    refine lv_if_eq (tgt := 173) hx hb dX9_move_152 (by decide) (fun c44 => ?_) (fun c44 => ?_)
    · have hf := (if_pos c44).symm.trans hf
      refine lv_iconst (v := (0 : Int32)) hx hb dX9_move_173 (by decide) ?_
      exact sg174 _ ih86 _ ih95 I A v1 v3 v4 v5 v6 v7 v8 v9 v10 t0 (0 : Int32) H locs ls hf hP hD hS (lv_sub hl [1, 2, 3, 4, 5, 6, 7, 8, 9, 10, 0] rfl)
    · have hf := (if_neg c44).symm.trans hf
      refine lv_aload_n hx hb dX9_move_155 rfl (lv_at hl 1 rfl) ?_
      refine lv_iload_n hx hb dX9_move_156 rfl (lv_at hl 2 rfl) ?_
      refine lv_iload hx hb dX9_move_157 (lv_at hl 11 rfl) ?_
      refine lv_iload hx hb dX9_move_159 (lv_at hl 9 rfl) ?_
      obtain ⟨r45, hc46, hf⟩ := of_bind_some hf
      refine W.callR (r := r45) (W.runV (As := [.int v1, .int v11, .int v9]) (rest := []) ⟨hx, hb, hml, hown, hts⟩ (mX9_stepsWeight l dC dI cI cB cJ Q B I A v1 v11 v9 r45 hc46) (cwV 3 hts gX9_move_X9_stepsWeight rfl rfl rfl (by decide +kernel) ⟨Nat.le_of_ble_eq_true rfl, Nat.le_of_ble_eq_true rfl⟩) ⟨blindR, va_recv hK hP (ci := 6) (q0 := 0) rfl rfl, fun U hU hW => ⟨rfl, by rw [hU]; exact hP, va_K.moved hW.alike hK⟩⟩ rfl rfl hl.1 rfl (lv_room (Nat.le_of_ble_eq_true rfl)) dX9_move_161 ⟨Nat.zero_le _, Nat.zero_le _⟩) ?_
      refine W.eq (g2 := F0 m 164 ls [.int r45]) rfl ?_
      refine lv_iload hx hb dX9_move_164 (lv_at hl 10 rfl) ?_
      refine W.callR (r := (fX9_size v10)) (W.runS (As := [.int v10]) (rest := [.int r45]) ⟨hx, hb, hml, hown, hts⟩ (mX9_size l v10 (fX9_size v10) rfl) (va_cwS 1 hts gX9_move_X9_size rfl rfl rfl (by decide +kernel) ⟨Nat.le_of_ble_eq_true rfl, Nat.le_of_ble_eq_true rfl⟩) ⟨fun _ _ _ _ q => q, fun U hU hW => ⟨rfl, trivial⟩⟩ rfl rfl hl.1 rfl (lv_room (Nat.le_of_ble_eq_true rfl)) dX9_move_166 ⟨Nat.zero_le _, Nat.zero_le _⟩) ?_
      refine W.eq (g2 := F0 m 169 ls [.int (fX9_size v10), .int r45]) rfl ?_
      refine lv_iadd hx hb dX9_move_169 ?_
      refine lv_goto (tgt := 174) hx hb dX9_move_170 (by decide) ?_
      exact sg174 _ ih86 _ ih95 I A v1 v3 v4 v5 v6 v7 v8 v9 v10 t0 (r45 + (fX9_size v10)) H locs ls hf hP hD hS (lv_sub hl [1, 2, 3, 4, 5, 6, 7, 8, 9, 10, 0] rfl)
  have sg95 : ∀ (k86 : (Nat → Int32) → (Nat → Nat → Int32) → Int32 → Int32 → Int32 → Int32 → Int32 → Int32 → Int32 → Int32 → Option (Int32 × (Nat → Int32) × (Nat → Nat → Int32))), (∀ (I : Nat → Int32) (A : Nat → Nat → Int32) (v1 : Int32) (v3 : Int32) (v4 : Int32) (v5 : Int32) (v6 : Int32) (v7 : Int32) (v8 : Int32) (v9 : Int32) (H : Heap) (locs : List Loc) (ls : Array Slot), k86 I A v1 v3 v4 v5 v6 v7 v8 v9 = some z → va_P (dC, dI) vwCl (wM cI cB cJ Q B I A) H → va_D AA (wM cI cB cJ Q B I A) → va_S AA s.heap H locs → lv_has ls 14 [(0, .ref (Q 100)), (1, .int v1), (3, .int v3), (4, .int v4), (5, .int v5), (6, .int v6), (7, .int v7), (8, .int v8), (9, .int v9)] → W p l e (headSpec wsX9_move ({ frames := 3, cells := 0, slots := 0, locals := 69 })).room s m (([.ref (Q 100), .int x1, .int x2] : List Value).toArray) below meth c H locs 0 0 (MQ below (va_Qi (fun (r : Int32) (u : (Nat → Int32) × (Nat → Nat → Int32)) => (r, u) = z) (atM dC dI cI cB cJ Q B AA) AA) (([.ref (Q 100), .int x1, .int x2] : List Value).toArray) s 0 0 AA) (F0 m 86 ls [])) → ∀ n : Nat, ∀ (I : Nat → Int32) (A : Nat → Nat → Int32) (v1 : Int32) (v3 : Int32) (v4 : Int32) (v5 : Int32) (v6 : Int32) (v7 : Int32) (v8 : Int32) (v9 : Int32) (v10 : Int32) (H : Heap) (locs : List Loc) (ls : Array Slot), fX9_move_95 B k86 n I A v1 v3 v4 v5 v6 v7 v8 v9 v10 = some z → va_P (dC, dI) vwCl (wM cI cB cJ Q B I A) H → va_D AA (wM cI cB cJ Q B I A) → va_S AA s.heap H locs → lv_has ls 14 [(0, .ref (Q 100)), (1, .int v1), (3, .int v3), (4, .int v4), (5, .int v5), (6, .int v6), (7, .int v7), (8, .int v8), (9, .int v9), (10, .int v10)] → W p l e (headSpec wsX9_move ({ frames := 3, cells := 0, slots := 0, locals := 69 })).room s m (([.ref (Q 100), .int x1, .int x2] : List Value).toArray) below meth c H locs 0 0 (MQ below (va_Qi (fun (r : Int32) (u : (Nat → Int32) × (Nat → Nat → Int32)) => (r, u) = z) (atM dC dI cI cB cJ Q B AA) AA) (([.ref (Q 100), .int x1, .int x2] : List Value).toArray) s 0 0 AA) (F0 m 95 ls []) := by
    intro k86 ih86
    intro n
    induction n with
    | zero => intro I A v1 v3 v4 v5 v6 v7 v8 v9 v10 H locs ls hf hP hD hS hl; exact of_none hf
    | succ n ih95 =>
      intro I A v1 v3 v4 v5 v6 v7 v8 v9 v10 H locs ls hf hP hD hS hl
      change fX9_move_95B B k86 (fX9_move_95 B k86 n) I A v1 v3 v4 v5 v6 v7 v8 v9 v10 = _ at hf
      unfold fX9_move_95B at hf
      refine lv_iload hx hb dX9_move_95 (lv_at hl 9 rfl) ?_
      refine lv_iconst (v := (1 : Int32)) hx hb dX9_move_97 (by decide) ?_
      refine lv_icmp_gt (tgt := 213) hx hb dX9_move_98 (by decide) (fun c35 => ?_) (fun c35 => ?_)
      · have hf := (if_pos c35).symm.trans hf
        refine lv_iinc (v := (v9 + (1 : Int32))) (lv' := [(9, .int (v9 + (1 : Int32))), (0, .ref (Q 100)), (1, .int v1), (3, .int v3), (4, .int v4), (5, .int v5), (6, .int v6), (7, .int v7), (8, .int v8), (10, .int v10)]) hx hb dX9_move_213 hl (k := 8) rfl rfl (by decide) rfl (fun ls hl => ?_)
        refine lv_goto (tgt := 86) hx hb dX9_move_216 (by decide) ?_
        exact ih86 I A v1 v3 v4 v5 v6 v7 v8 (v9 + (1 : Int32)) H locs ls hf hP hD hS (lv_sub hl [1, 2, 3, 4, 5, 6, 7, 8, 0] rfl)
      · have hf := (if_neg c35).symm.trans hf
        refine lv_iload_n hx hb dX9_move_101 rfl (lv_at hl 2 rfl) ?_
        refine lv_iload hx hb dX9_move_102 (lv_at hl 8 rfl) ?_
        obtain ⟨r36, hc37, hf⟩ := of_bind_some hf
        refine W.callR (r := r36) (W.runS (As := [.int v3, .int v9]) (rest := []) ⟨hx, hb, hml, hown, hts⟩ (mX9_letterOf l v3 v9 r36 hc37) (va_cwS 2 hts gX9_move_X9_letterOf rfl rfl rfl (by decide +kernel) ⟨Nat.le_of_ble_eq_true rfl, Nat.le_of_ble_eq_true rfl⟩) ⟨fun _ _ _ _ q => q, fun U hU hW => ⟨rfl, trivial⟩⟩ rfl rfl hl.1 rfl (lv_room (Nat.le_of_ble_eq_true rfl)) dX9_move_104 ⟨Nat.zero_le _, Nat.zero_le _⟩) ?_
        refine W.eq (g2 := F0 m 107 ls [.int r36]) rfl ?_
        refine lv_istore (lv' := [(11, .int r36), (0, .ref (Q 100)), (1, .int v1), (3, .int v3), (4, .int v4), (5, .int v5), (6, .int v6), (7, .int v7), (8, .int v8), (9, .int v9), (10, .int v10)]) hx hb dX9_move_107 hl (by decide) rfl (fun ls hl => ?_)
        refine lv_iload hx hb dX9_move_109 (lv_at hl 0 rfl) ?_
        refine lv_bipush (v := (-2 : Int32)) hx hb dX9_move_111 (by decide) ?_
        refine lv_icmp_eq (tgt := 147) hx hb dX9_move_113 (by decide) (fun c38 => ?_) (fun c38 => ?_)
        · have hf := (if_pos c38).symm.trans hf
          refine lv_iconst (v := (0 : Int32)) hx hb dX9_move_147 (by decide) ?_
          exact sg148 _ ih86 _ ih95 I A v1 v3 v4 v5 v6 v7 v8 v9 v10 r36 (0 : Int32) H locs ls hf hP hD hS (lv_sub hl [1, 2, 3, 4, 5, 6, 7, 8, 9, 10, 0] rfl)
        · have hf := (if_neg c38).symm.trans hf
          refine lv_iload hx hb dX9_move_116 (lv_at hl 5 rfl) ?_
          refine lv_if_eq (tgt := 136) hx hb dX9_move_118 (by decide) (fun c39 => ?_) (fun c39 => ?_)
          · have hf := (if_pos c39).symm.trans hf
            refine lv_iload hx hb dX9_move_136 (lv_at hl 10 rfl) ?_
            refine lv_iload hx hb dX9_move_138 (lv_at hl 9 rfl) ?_
            refine lv_icmp_ne (tgt := 147) hx hb dX9_move_140 (by decide) (fun c40 => ?_) (fun c40 => ?_)
            · have hf := (if_neg c40).symm.trans hf
              refine lv_iconst (v := (0 : Int32)) hx hb dX9_move_147 (by decide) ?_
              exact sg148 _ ih86 _ ih95 I A v1 v3 v4 v5 v6 v7 v8 v9 v10 r36 (0 : Int32) H locs ls hf hP hD hS (lv_sub hl [1, 2, 3, 4, 5, 6, 7, 8, 9, 10, 0] rfl)
            · have hf := (if_pos c40).symm.trans hf
              refine lv_iconst (v := (1 : Int32)) hx hb dX9_move_143 (by decide) ?_
              refine lv_goto (tgt := 148) hx hb dX9_move_144 (by decide) ?_
              exact sg148 _ ih86 _ ih95 I A v1 v3 v4 v5 v6 v7 v8 v9 v10 r36 (1 : Int32) H locs ls hf hP hD hS (lv_sub hl [1, 2, 3, 4, 5, 6, 7, 8, 9, 10, 0] rfl)
          · have hf := (if_neg c39).symm.trans hf
            refine lv_iload hx hb dX9_move_121 (lv_at hl 4 rfl) ?_
            refine lv_iload hx hb dX9_move_123 (lv_at hl 10 rfl) ?_
            obtain ⟨r41, hc42, hf⟩ := of_bind_some hf
            refine W.callR (r := r41) (W.runS (As := [.int v4, .int v10]) (rest := []) ⟨hx, hb, hml, hown, hts⟩ (mX9_letterOf l v4 v10 r41 hc42) (va_cwS 2 hts gX9_move_X9_letterOf rfl rfl rfl (by decide +kernel) ⟨Nat.le_of_ble_eq_true rfl, Nat.le_of_ble_eq_true rfl⟩) ⟨fun _ _ _ _ q => q, fun U hU hW => ⟨rfl, trivial⟩⟩ rfl rfl hl.1 rfl (lv_room (Nat.le_of_ble_eq_true rfl)) dX9_move_125 ⟨Nat.zero_le _, Nat.zero_le _⟩) ?_
            refine W.eq (g2 := F0 m 128 ls [.int r41]) rfl ?_
            refine lv_bipush (v := (-2 : Int32)) hx hb dX9_move_128 (by decide) ?_
            refine lv_icmp_eq (tgt := 147) hx hb dX9_move_130 (by decide) (fun c43 => ?_) (fun c43 => ?_)
            · have hf := (if_pos c43).symm.trans hf
              refine lv_iconst (v := (0 : Int32)) hx hb dX9_move_147 (by decide) ?_
              exact sg148 _ ih86 _ ih95 I A v1 v3 v4 v5 v6 v7 v8 v9 v10 r36 (0 : Int32) H locs ls hf hP hD hS (lv_sub hl [1, 2, 3, 4, 5, 6, 7, 8, 9, 10, 0] rfl)
            · have hf := (if_neg c43).symm.trans hf
              refine lv_goto (tgt := 143) hx hb dX9_move_133 (by decide) ?_
              refine lv_iconst (v := (1 : Int32)) hx hb dX9_move_143 (by decide) ?_
              refine lv_goto (tgt := 148) hx hb dX9_move_144 (by decide) ?_
              exact sg148 _ ih86 _ ih95 I A v1 v3 v4 v5 v6 v7 v8 v9 v10 r36 (1 : Int32) H locs ls hf hP hD hS (lv_sub hl [1, 2, 3, 4, 5, 6, 7, 8, 9, 10, 0] rfl)
  have sg86 : ∀ n : Nat, ∀ (I : Nat → Int32) (A : Nat → Nat → Int32) (v1 : Int32) (v3 : Int32) (v4 : Int32) (v5 : Int32) (v6 : Int32) (v7 : Int32) (v8 : Int32) (v9 : Int32) (H : Heap) (locs : List Loc) (ls : Array Slot), fX9_move_86 B  n I A v1 v3 v4 v5 v6 v7 v8 v9 = some z → va_P (dC, dI) vwCl (wM cI cB cJ Q B I A) H → va_D AA (wM cI cB cJ Q B I A) → va_S AA s.heap H locs → lv_has ls 14 [(0, .ref (Q 100)), (1, .int v1), (3, .int v3), (4, .int v4), (5, .int v5), (6, .int v6), (7, .int v7), (8, .int v8), (9, .int v9)] → W p l e (headSpec wsX9_move ({ frames := 3, cells := 0, slots := 0, locals := 69 })).room s m (([.ref (Q 100), .int x1, .int x2] : List Value).toArray) below meth c H locs 0 0 (MQ below (va_Qi (fun (r : Int32) (u : (Nat → Int32) × (Nat → Nat → Int32)) => (r, u) = z) (atM dC dI cI cB cJ Q B AA) AA) (([.ref (Q 100), .int x1, .int x2] : List Value).toArray) s 0 0 AA) (F0 m 86 ls []) := by
    intro n
    induction n with
    | zero => intro I A v1 v3 v4 v5 v6 v7 v8 v9 H locs ls hf hP hD hS hl; exact of_none hf
    | succ n ih86 =>
      intro I A v1 v3 v4 v5 v6 v7 v8 v9 H locs ls hf hP hD hS hl
      change fX9_move_86B B  (fX9_move_86 B  n) I A v1 v3 v4 v5 v6 v7 v8 v9 = _ at hf
      unfold fX9_move_86B at hf
      refine lv_iload hx hb dX9_move_86 (lv_at hl 8 rfl) ?_
      refine lv_iconst (v := (1 : Int32)) hx hb dX9_move_88 (by decide) ?_
      refine lv_icmp_gt (tgt := 219) hx hb dX9_move_89 (by decide) (fun c11 => ?_) (fun c11 => ?_)
      · have hf := (if_pos c11).symm.trans hf
        refine lv_iconst (v := (0 : Int32)) hx hb dX9_move_219 (by decide) ?_
        refine lv_istore (lv' := [(9, .int (0 : Int32)), (0, .ref (Q 100)), (1, .int v1), (3, .int v3), (4, .int v4), (5, .int v5), (6, .int v6), (7, .int v7), (8, .int v8)]) hx hb dX9_move_220 hl (by decide) rfl (fun ls hl => ?_)
        exact sg222  FU I A v1 v3 v4 v5 v6 v7 (0 : Int32) H locs ls hf hP hD hS (lv_sub hl [1, 2, 3, 4, 5, 6, 7, 0] rfl)
      · have hf := (if_neg c11).symm.trans hf
        refine lv_iconst (v := (-1 : Int32)) hx hb dX9_move_92 (by decide) ?_
        refine lv_istore (lv' := [(10, .int (-1 : Int32)), (0, .ref (Q 100)), (1, .int v1), (3, .int v3), (4, .int v4), (5, .int v5), (6, .int v6), (7, .int v7), (8, .int v8), (9, .int v9)]) hx hb dX9_move_93 hl (by decide) rfl (fun ls hl => ?_)
        exact sg95 _ ih86 FU I A v1 v3 v4 v5 v6 v7 v8 v9 (-1 : Int32) H locs ls hf hP hD hS (lv_sub hl [1, 2, 3, 4, 5, 6, 7, 8, 9, 0] rfl)
  have sg70 : ∀ (I : Nat → Int32) (A : Nat → Nat → Int32) (v1 : Int32) (v3 : Int32) (v4 : Int32) (t0 : Int32) (H : Heap) (locs : List Loc) (ls : Array Slot), fX9_move_70 B  I A v1 v3 v4 t0 = some z → va_P (dC, dI) vwCl (wM cI cB cJ Q B I A) H → va_D AA (wM cI cB cJ Q B I A) → va_S AA s.heap H locs → lv_has ls 14 [(0, .ref (Q 100)), (1, .int v1), (3, .int v3), (4, .int v4)] → W p l e (headSpec wsX9_move ({ frames := 3, cells := 0, slots := 0, locals := 69 })).room s m (([.ref (Q 100), .int x1, .int x2] : List Value).toArray) below meth c H locs 0 0 (MQ below (va_Qi (fun (r : Int32) (u : (Nat → Int32) × (Nat → Nat → Int32)) => (r, u) = z) (atM dC dI cI cB cJ Q B AA) AA) (([.ref (Q 100), .int x1, .int x2] : List Value).toArray) s 0 0 AA) (F0 m 70 ls [.int t0]) := by
    intro I A v1 v3 v4 t0 H locs ls hf hP hD hS hl
    unfold fX9_move_70 at hf
    refine lv_istore (lv' := [(5, .int t0), (0, .ref (Q 100)), (1, .int v1), (3, .int v3), (4, .int v4)]) hx hb dX9_move_70 hl (by decide) rfl (fun ls hl => ?_)
    refine lv_bipush (v := (-2 : Int32)) hx hb dX9_move_72 (by decide) ?_
    refine lv_istore (lv' := [(6, .int (-2 : Int32)), (5, .int t0), (0, .ref (Q 100)), (1, .int v1), (3, .int v3), (4, .int v4)]) hx hb dX9_move_74 hl (by decide) rfl (fun ls hl => ?_)
    refine lv_bipush (v := (-2 : Int32)) hx hb dX9_move_76 (by decide) ?_
    refine lv_istore (lv' := [(7, .int (-2 : Int32)), (6, .int (-2 : Int32)), (5, .int t0), (0, .ref (Q 100)), (1, .int v1), (3, .int v3), (4, .int v4)]) hx hb dX9_move_78 hl (by decide) rfl (fun ls hl => ?_)
    refine lv_iconst (v := (0 : Int32)) hx hb dX9_move_80 (by decide) ?_
    refine lv_istore (lv' := [(8, .int (0 : Int32)), (7, .int (-2 : Int32)), (6, .int (-2 : Int32)), (5, .int t0), (0, .ref (Q 100)), (1, .int v1), (3, .int v3), (4, .int v4)]) hx hb dX9_move_81 hl (by decide) rfl (fun ls hl => ?_)
    refine lv_iconst (v := (-1 : Int32)) hx hb dX9_move_83 (by decide) ?_
    refine lv_istore (lv' := [(9, .int (-1 : Int32)), (8, .int (0 : Int32)), (7, .int (-2 : Int32)), (6, .int (-2 : Int32)), (5, .int t0), (0, .ref (Q 100)), (1, .int v1), (3, .int v3), (4, .int v4)]) hx hb dX9_move_84 hl (by decide) rfl (fun ls hl => ?_)
    exact sg86  FU I A v1 v3 v4 t0 (-2 : Int32) (-2 : Int32) (0 : Int32) (-1 : Int32) H locs ls hf hP hD hS (lv_sub hl [5, 6, 7, 8, 4, 3, 2, 1, 0] rfl)
  have hl := lv_entry ([.ref (Q 100), .int x1, .int x2]) (n := 14) (Nat.le_of_ble_eq_true rfl)
  rw [lg_entry_eq]
  generalize (lg_sl ([.ref (Q 100), .int x1, .int x2]) ++ List.replicate (14 - (lg_sl ([.ref (Q 100), .int x1, .int x2])).length) Slot.unset).toArray = ls at hl ⊢
  have hl : lv_has ls 14 [(0, .ref (Q 100)), (1, .int x1), (2, .int x2)] := hl
  unfold fX9_move at hf
  refine lv_aload_n hx hb dX9_move_0 rfl (lv_at hl 0 rfl) ?_
  refine lv_iload_n hx hb dX9_move_1 rfl (lv_at hl 1 rfl) ?_
  obtain ⟨r1, hc2, hf⟩ := of_bind_some hf
  refine W.callR (r := r1) (W.runV (As := [.int x1]) (rest := []) ⟨hx, hb, hml, hown, hts⟩ (mX9_isChord l dC dI cI cB cJ Q B I A x1 r1 hc2) (cwV 1 hts gX9_move_X9_isChord rfl rfl rfl (by decide +kernel) ⟨Nat.le_of_ble_eq_true rfl, Nat.le_of_ble_eq_true rfl⟩) ⟨blindR, va_recv hK hP (ci := 6) (q0 := 0) rfl rfl, fun U hU hW => ⟨rfl, by rw [hU]; exact hP, va_K.moved hW.alike hK⟩⟩ rfl rfl hl.1 rfl (lv_room (Nat.le_of_ble_eq_true rfl)) dX9_move_2 ⟨Nat.zero_le _, Nat.zero_le _⟩) ?_
  refine W.eq (g2 := F0 m 5 ls [.int r1]) rfl ?_
  refine lv_if_ne (tgt := 10) hx hb dX9_move_5 (by decide) (fun c3 => ?_) (fun c3 => ?_)
  · have hf := (if_neg c3).symm.trans hf
    refine lv_aload_n hx hb dX9_move_10 rfl (lv_at hl 0 rfl) ?_
    refine va_get (D := (dC, dI)) (ci := 6) (v := .int (I 6)) (C := RX9) (T := TX9) (N := 36) hx hb hts hinX9 hown hK hP 0 rfl rfl 6 (by decide) hk265 (fun _ h9 => h9) rfl dX9_move_11 ?_
    refine lv_bipush (v := (100 : Int32)) hx hb dX9_move_14 (by decide) ?_
    refine lv_icmp_ne (tgt := 22) hx hb dX9_move_16 (by decide) (fun c4 => ?_) (fun c4 => ?_)
    · have hf := (if_neg c4).symm.trans hf
      refine lv_aload_n hx hb dX9_move_22 rfl (lv_at hl 0 rfl) ?_
      refine lv_iload_n hx hb dX9_move_23 rfl (lv_at hl 1 rfl) ?_
      obtain ⟨r5, hc6, hf⟩ := of_bind_some hf
      refine W.callR (r := r5) (W.runV (As := [.int x1]) (rest := []) ⟨hx, hb, hml, hown, hts⟩ (mX9_rootOf l dC dI cI cB cJ Q B I A x1 r5 hc6) (cwV 1 hts gX9_move_X9_rootOf rfl rfl rfl (by decide +kernel) ⟨Nat.le_of_ble_eq_true rfl, Nat.le_of_ble_eq_true rfl⟩) ⟨blindR, va_recv hK hP (ci := 6) (q0 := 0) rfl rfl, fun U hU hW => ⟨rfl, by rw [hU]; exact hP, va_K.moved hW.alike hK⟩⟩ rfl rfl hl.1 rfl (lv_room (Nat.le_of_ble_eq_true rfl)) dX9_move_24 ⟨Nat.zero_le _, Nat.zero_le _⟩) ?_
      refine W.eq (g2 := F0 m 27 ls [.int r5]) rfl ?_
      refine lv_iload_n hx hb dX9_move_27 rfl (lv_at hl 2 rfl) ?_
      refine W.callR (r := (fX9_mod12 x2)) (W.runS (As := [.int x2]) (rest := [.int r5]) ⟨hx, hb, hml, hown, hts⟩ (mX9_mod12 l x2 (fX9_mod12 x2) rfl) (va_cwS 1 hts gX9_move_X9_mod12 rfl rfl rfl (by decide +kernel) ⟨Nat.le_of_ble_eq_true rfl, Nat.le_of_ble_eq_true rfl⟩) ⟨fun _ _ _ _ q => q, fun U hU hW => ⟨rfl, trivial⟩⟩ rfl rfl hl.1 rfl (lv_room (Nat.le_of_ble_eq_true rfl)) dX9_move_28 ⟨Nat.zero_le _, Nat.zero_le _⟩) ?_
      refine W.eq (g2 := F0 m 31 ls [.int (fX9_mod12 x2), .int r5]) rfl ?_
      refine lv_iadd hx hb dX9_move_31 ?_
      refine lv_bipush (v := (12 : Int32)) hx hb dX9_move_32 (by decide) ?_
      refine lv_irem hx hb dX9_move_34 (by decide) ?_
      refine W.eq (g2 := F0 m 35 ls [.int (jrem (r5 + (fX9_mod12 x2)) (12 : Int32))]) rfl ?_
      refine lv_istore_n (lv' := [(3, .int (jrem (r5 + (fX9_mod12 x2)) (12 : Int32))), (0, .ref (Q 100)), (1, .int x1), (2, .int x2)]) hx hb dX9_move_35 rfl hl (by decide) rfl (fun ls hl => ?_)
      refine lv_aload_n hx hb dX9_move_36 rfl (lv_at hl 1 rfl) ?_
      refine lv_iload_n hx hb dX9_move_37 rfl (lv_at hl 2 rfl) ?_
      obtain ⟨r7, hc8, hf⟩ := of_bind_some hf
      refine W.callR (r := r7) (W.runV (As := [.int x1]) (rest := []) ⟨hx, hb, hml, hown, hts⟩ (mX9_bassOf l dC dI cI cB cJ Q B I A x1 r7 hc8) (cwV 1 hts gX9_move_X9_bassOf rfl rfl rfl (by decide +kernel) ⟨Nat.le_of_ble_eq_true rfl, Nat.le_of_ble_eq_true rfl⟩) ⟨blindR, va_recv hK hP (ci := 6) (q0 := 0) rfl rfl, fun U hU hW => ⟨rfl, by rw [hU]; exact hP, va_K.moved hW.alike hK⟩⟩ rfl rfl hl.1 rfl (lv_room (Nat.le_of_ble_eq_true rfl)) dX9_move_38 ⟨Nat.zero_le _, Nat.zero_le _⟩) ?_
      refine W.eq (g2 := F0 m 41 ls [.int r7]) rfl ?_
      refine lv_iload_n hx hb dX9_move_41 rfl (lv_at hl 3 rfl) ?_
      refine W.callR (r := (fX9_mod12 x2)) (W.runS (As := [.int x2]) (rest := [.int r7]) ⟨hx, hb, hml, hown, hts⟩ (mX9_mod12 l x2 (fX9_mod12 x2) rfl) (va_cwS 1 hts gX9_move_X9_mod12 rfl rfl rfl (by decide +kernel) ⟨Nat.le_of_ble_eq_true rfl, Nat.le_of_ble_eq_true rfl⟩) ⟨fun _ _ _ _ q => q, fun U hU hW => ⟨rfl, trivial⟩⟩ rfl rfl hl.1 rfl (lv_room (Nat.le_of_ble_eq_true rfl)) dX9_move_42 ⟨Nat.zero_le _, Nat.zero_le _⟩) ?_
      refine W.eq (g2 := F0 m 45 ls [.int (fX9_mod12 x2), .int r7]) rfl ?_
      refine lv_iadd hx hb dX9_move_45 ?_
      refine lv_bipush (v := (12 : Int32)) hx hb dX9_move_46 (by decide) ?_
      refine lv_irem hx hb dX9_move_48 (by decide) ?_
      refine W.eq (g2 := F0 m 49 ls [.int (jrem (r7 + (fX9_mod12 x2)) (12 : Int32))]) rfl ?_
      refine lv_istore (lv' := [(4, .int (jrem (r7 + (fX9_mod12 x2)) (12 : Int32))), (3, .int (jrem (r5 + (fX9_mod12 x2)) (12 : Int32))), (0, .ref (Q 100)), (1, .int x1), (2, .int x2)]) hx hb dX9_move_49 hl (by decide) rfl (fun ls hl => ?_)
      refine lv_aload_n hx hb dX9_move_51 rfl (lv_at hl 2 rfl) ?_
      refine va_get (D := (dC, dI)) (ci := 6) (v := .ref (Q 2)) (C := RX9) (T := TX9) (N := 36) hx hb hts hinX9 hown hK hP 0 rfl rfl 2 (by decide) hk13 (fun _ h9 => h9) rfl dX9_move_52 ?_
      refine lv_iconst (v := (5 : Int32)) hx hb dX9_move_55 (by decide) ?_
      refine lv_iload_n hx hb dX9_move_56 rfl (lv_at hl 3 rfl) ?_
      refine lv_imul hx hb dX9_move_57 ?_
      refine lv_iconst (v := (4 : Int32)) hx hb dX9_move_58 (by decide) ?_
      refine lv_iadd hx hb dX9_move_59 ?_
      obtain ⟨g9, hf⟩ := of_ite_some hf
      refine va_iald hx hb hK hP 2 0 (n := 500) (f := (A 2)) rfl rfl g9 dX9_move_60 ?_
      refine lv_iconst (v := (1 : Int32)) hx hb dX9_move_61 (by decide) ?_
      refine lv_icmp_ne (tgt := 69) hx hb dX9_move_62 (by decide) (fun c10 => ?_) (fun c10 => ?_)
      · have hf := (if_neg c10).symm.trans hf
        refine lv_iconst (v := (0 : Int32)) hx hb dX9_move_69 (by decide) ?_
        exact sg70  I A x1 (jrem (r5 + (fX9_mod12 x2)) (12 : Int32)) (jrem (r7 + (fX9_mod12 x2)) (12 : Int32)) (0 : Int32) s.heap [] ls hf hP hD hS (lv_sub hl [2, 3, 1, 0] rfl)
      · have hf := (if_pos c10).symm.trans hf
        refine lv_iconst (v := (1 : Int32)) hx hb dX9_move_65 (by decide) ?_
        refine lv_goto (tgt := 70) hx hb dX9_move_66 (by decide) ?_
        exact sg70  I A x1 (jrem (r5 + (fX9_mod12 x2)) (12 : Int32)) (jrem (r7 + (fX9_mod12 x2)) (12 : Int32)) (1 : Int32) s.heap [] ls hf hP hD hS (lv_sub hl [2, 3, 1, 0] rfl)
    · have hf := (if_pos c4).symm.trans hf
      refine lv_bipush (v := (-3 : Int32)) hx hb dX9_move_19 (by decide) ?_
      exact W.iret (v := (-3 : Int32)) hx hb hr (fun t ht hW => ⟨⟨(-3 : Int32), (I, A), rfl, Option.some.inj hf, by rw [ht]; exact hP, va_K.moved hW.alike hK, hD⟩, hS.F ht⟩) hS.2.2 dX9_move_21
  · have hf := (if_pos c3).symm.trans hf
    refine lv_iconst (v := (-1 : Int32)) hx hb dX9_move_8 (by decide) ?_
    exact W.iret (v := (-1 : Int32)) hx hb hr (fun t ht hW => ⟨⟨(-1 : Int32), (I, A), rfl, Option.some.inj hf, by rw [ht]; exact hP, va_K.moved hW.alike hK, hD⟩, hS.F ht⟩) hS.2.2 dX9_move_9
def fX9_voice_353B (B : Nat → Nat → Int64)  (k353 : (Nat → Int32) → (Nat → Nat → Int32) → Int32 → Option (Int32 × (Nat → Int32) × (Nat → Nat → Int32))) (I : Nat → Int32) (A : Nat → Nat → Int32) (v9 : Int32) : Option (Int32 × (Nat → Int32) × (Nat → Nat → Int32)) :=
  (if (I 35) ≤ v9 then (some ((I 12), (I, A))) else (if gd v9 12 then (if gd v9 12 then (k353 I (va_up A 11 (upd (A 11) v9.toNatClampNeg ((A 34) v9.toNatClampNeg))) (v9 + (1 : Int32))) else none) else none))
def fX9_voice_353 (B : Nat → Nat → Int64)  : Nat → ((Nat → Int32) → (Nat → Nat → Int32) → Int32 → Option (Int32 × (Nat → Int32) × (Nat → Nat → Int32)))
  | 0 => fun _ _ _ => none
  | n + 1 => fX9_voice_353B B  (fX9_voice_353 B  n)
def fX9_voice_308 (B : Nat → Nat → Int64) (k200 : (Nat → Int32) → (Nat → Nat → Int32) → Int32 → Int32 → Int32 → Option (Int32 × (Nat → Int32) × (Nat → Nat → Int32))) (k223 : (Nat → Int32) → (Nat → Nat → Int32) → Int32 → Int32 → Int32 → Int32 → Int32 → Option (Int32 × (Nat → Int32) × (Nat → Nat → Int32))) (I : Nat → Int32) (A : Nat → Nat → Int32) (v3 : Int32) (v6 : Int32) (v7 : Int32) (v9 : Int32) (v10 : Int32) (v11 : Int32) (t0 : Int32) (t1 : Int32) : Option (Int32 × (Nat → Int32) × (Nat → Nat → Int32)) :=
  (if v10 = 0 then (k223 (upd I 35 (t1 - t0)) A v3 v6 v7 (v9 + (1 : Int32)) v10) else (k223 (upd I 35 (t1 - t0)) A v3 (v6 &&& (((1 : Int32) <<< (v11 &&& 31)) ^^^ (-1 : Int32))) v7 (v9 + (1 : Int32)) v10))
def fX9_voice_291 (B : Nat → Nat → Int64) (k200 : (Nat → Int32) → (Nat → Nat → Int32) → Int32 → Int32 → Int32 → Option (Int32 × (Nat → Int32) × (Nat → Nat → Int32))) (k223 : (Nat → Int32) → (Nat → Nat → Int32) → Int32 → Int32 → Int32 → Int32 → Int32 → Option (Int32 × (Nat → Int32) × (Nat → Nat → Int32))) (I : Nat → Int32) (A : Nat → Nat → Int32) (v3 : Int32) (v6 : Int32) (v7 : Int32) (v9 : Int32) (v11 : Int32) (t0 : Int32) : Option (Int32 × (Nat → Int32) × (Nat → Nat → Int32)) :=
  (if t0 = 0 then (fX9_voice_308 B k200 k223 I A v3 v6 v7 v9 t0 v11 (1 : Int32) (I 35)) else (fX9_voice_308 B k200 k223 I A v3 v6 v7 v9 t0 v11 (0 : Int32) (I 35)))
def fX9_voice_223B (B : Nat → Nat → Int64) (k200 : (Nat → Int32) → (Nat → Nat → Int32) → Int32 → Int32 → Int32 → Option (Int32 × (Nat → Int32) × (Nat → Nat → Int32))) (k223 : (Nat → Int32) → (Nat → Nat → Int32) → Int32 → Int32 → Int32 → Int32 → Int32 → Option (Int32 × (Nat → Int32) × (Nat → Nat → Int32))) (I : Nat → Int32) (A : Nat → Nat → Int32) (v3 : Int32) (v6 : Int32) (v7 : Int32) (v9 : Int32) (v10 : Int32) : Option (Int32 × (Nat → Int32) × (Nat → Nat → Int32)) :=
  (if v10 = 0 then (if ((v6 >>> ((jrem v9 (12 : Int32)) &&& 31)) &&& (1 : Int32)) = (1 : Int32) then (if gd (I 35) 12 then ((fX9_rest B (upd I 35 ((I 35) + (1 : Int32))) (va_up A 34 (upd (A 34) (I 35).toNatClampNeg v9)) (v6 &&& (((1 : Int32) <<< ((jrem v9 (12 : Int32)) &&& 31)) ^^^ (-1 : Int32))) v3).bind fun r33 => (if r33 = v7 then (fX9_voice_291 B k200 k223 (upd I 35 ((I 35) + (1 : Int32))) (va_up A 34 (upd (A 34) (I 35).toNatClampNeg v9)) v3 v6 v7 v9 (jrem v9 (12 : Int32)) (1 : Int32)) else (fX9_voice_291 B k200 k223 (upd I 35 ((I 35) + (1 : Int32))) (va_up A 34 (upd (A 34) (I 35).toNatClampNeg v9)) v3 v6 v7 v9 (jrem v9 (12 : Int32)) (0 : Int32)))) else none) else (k223 I A v3 v6 v7 (v9 + (1 : Int32)) v10)) else (k200 I A v3 v6 v7))
def fX9_voice_223 (B : Nat → Nat → Int64) (k200 : (Nat → Int32) → (Nat → Nat → Int32) → Int32 → Int32 → Int32 → Option (Int32 × (Nat → Int32) × (Nat → Nat → Int32))) : Nat → ((Nat → Int32) → (Nat → Nat → Int32) → Int32 → Int32 → Int32 → Int32 → Int32 → Option (Int32 × (Nat → Int32) × (Nat → Nat → Int32)))
  | 0 => fun _ _ _ _ _ _ _ => none
  | n + 1 => fX9_voice_223B B k200 (fX9_voice_223 B k200 n)
def fX9_voice_200B (B : Nat → Nat → Int64)  (k200 : (Nat → Int32) → (Nat → Nat → Int32) → Int32 → Int32 → Int32 → Option (Int32 × (Nat → Int32) × (Nat → Nat → Int32))) (I : Nat → Int32) (A : Nat → Nat → Int32) (v3 : Int32) (v6 : Int32) (v7 : Int32) : Option (Int32 × (Nat → Int32) × (Nat → Nat → Int32)) :=
  (if v6 = 0 then (fX9_voice_353 B  FU (upd I 12 (I 35)) A (0 : Int32)) else (if gd ((I 35) - (1 : Int32)) 12 then (fX9_voice_223 B k200 FU I A v3 v6 v7 (((A 34) ((I 35) - (1 : Int32)).toNatClampNeg) + (1 : Int32)) (0 : Int32)) else none))
def fX9_voice_200 (B : Nat → Nat → Int64)  : Nat → ((Nat → Int32) → (Nat → Nat → Int32) → Int32 → Int32 → Int32 → Option (Int32 × (Nat → Int32) × (Nat → Nat → Int32)))
  | 0 => fun _ _ _ _ _ => none
  | n + 1 => fX9_voice_200B B  (fX9_voice_200 B  n)
def fX9_voice_168 (B : Nat → Nat → Int64) (k109 : (Nat → Int32) → (Nat → Nat → Int32) → Int32 → Int32 → Int32 → Int32 → Int32 → Int32 → Option (Int32 × (Nat → Int32) × (Nat → Nat → Int32))) (I : Nat → Int32) (A : Nat → Nat → Int32) (v3 : Int32) (v5 : Int32) (v6 : Int32) (v9 : Int32) (v10 : Int32) : Option (Int32 × (Nat → Int32) × (Nat → Nat → Int32)) :=
  (k109 I A v3 v5 v6 v10 v9 (v9 + (1 : Int32)))
def fX9_voice_145 (B : Nat → Nat → Int64) (k109 : (Nat → Int32) → (Nat → Nat → Int32) → Int32 → Int32 → Int32 → Int32 → Int32 → Int32 → Option (Int32 × (Nat → Int32) × (Nat → Nat → Int32))) (I : Nat → Int32) (A : Nat → Nat → Int32) (v3 : Int32) (v5 : Int32) (v6 : Int32) (v7 : Int32) (v8 : Int32) (v9 : Int32) (t0 : Int32) : Option (Int32 × (Nat → Int32) × (Nat → Nat → Int32)) :=
  (if t0 = (-2 : Int32) then (k109 I A v3 v5 v6 v7 v8 (v9 + (1 : Int32))) else (if v7 = (-2 : Int32) then (fX9_voice_168 B k109 I A v3 v5 v6 v9 t0) else (if v7 ≤ t0 then (k109 I A v3 v5 v6 v7 v8 (v9 + (1 : Int32))) else (fX9_voice_168 B k109 I A v3 v5 v6 v9 t0))))
def fX9_voice_109B (B : Nat → Nat → Int64)  (k109 : (Nat → Int32) → (Nat → Nat → Int32) → Int32 → Int32 → Int32 → Int32 → Int32 → Int32 → Option (Int32 × (Nat → Int32) × (Nat → Nat → Int32))) (I : Nat → Int32) (A : Nat → Nat → Int32) (v3 : Int32) (v5 : Int32) (v6 : Int32) (v7 : Int32) (v8 : Int32) (v9 : Int32) : Option (Int32 × (Nat → Int32) × (Nat → Nat → Int32)) :=
  (if v3 < v9 then (if v7 = (-2 : Int32) then (some ((-2 : Int32), (I, A))) else (if gd (0 : Int32) 12 then (fX9_voice_200 B  FU I (va_up A 34 (upd (A 34) (0 : Int32).toNatClampNeg v8)) v3 v6 v7) else none)) else (if gd (0 : Int32) 12 then (if (jrem v9 (12 : Int32)) = v5 then ((fX9_rest B I (va_up A 34 (upd (A 34) (0 : Int32).toNatClampNeg v9)) v6 v3).bind fun r20 => (fX9_voice_145 B k109 I (va_up A 34 (upd (A 34) (0 : Int32).toNatClampNeg v9)) v3 v5 v6 v7 v8 v9 r20)) else (fX9_voice_145 B k109 I (va_up A 34 (upd (A 34) (0 : Int32).toNatClampNeg v9)) v3 v5 v6 v7 v8 v9 (-2 : Int32))) else none))
def fX9_voice_109 (B : Nat → Nat → Int64)  : Nat → ((Nat → Int32) → (Nat → Nat → Int32) → Int32 → Int32 → Int32 → Int32 → Int32 → Int32 → Option (Int32 × (Nat → Int32) × (Nat → Nat → Int32)))
  | 0 => fun _ _ _ _ _ _ _ _ => none
  | n + 1 => fX9_voice_109B B  (fX9_voice_109 B  n)
def fX9_voice_66B (B : Nat → Nat → Int64)  (k66 : (Nat → Int32) → (Nat → Nat → Int32) → Int32 → Int32 → Int32 → Int32 → Int32 → Option (Int32 × (Nat → Int32) × (Nat → Nat → Int32))) (I : Nat → Int32) (A : Nat → Nat → Int32) (v2 : Int32) (v3 : Int32) (v5 : Int32) (v6 : Int32) (v7 : Int32) : Option (Int32 × (Nat → Int32) × (Nat → Nat → Int32)) :=
  (if (128 : Int32) ≤ v7 then (fX9_voice_109 B  FU (upd I 35 (1 : Int32)) A v3 v5 v6 (-2 : Int32) (-2 : Int32) v2) else ((fX9_nearest B I A v7).bind fun r12 => (if gd v7 128 then (k66 I (va_up A 33 (upd (A 33) v7.toNatClampNeg r12)) v2 v3 v5 v6 (v7 + (1 : Int32))) else none)))
def fX9_voice_66 (B : Nat → Nat → Int64)  : Nat → ((Nat → Int32) → (Nat → Nat → Int32) → Int32 → Int32 → Int32 → Int32 → Int32 → Option (Int32 × (Nat → Int32) × (Nat → Nat → Int32)))
  | 0 => fun _ _ _ _ _ _ _ => none
  | n + 1 => fX9_voice_66B B  (fX9_voice_66 B  n)
def fX9_voice (B : Nat → Nat → Int64) (I : Nat → Int32) (A : Nat → Nat → Int32) (x1 : Int32) (x2 : Int32) (x3 : Int32) : Option (Int32 × (Nat → Int32) × (Nat → Nat → Int32)) :=
  ((fX9_isChord B I A x1).bind fun r1 => (if r1 = 0 then (some ((-1 : Int32), (I, A))) else (if (fX9_isIn x2 (0 : Int32) (127 : Int32)) = 0 then (some ((-1 : Int32), (I, A))) else (if (fX9_isIn x3 x2 (127 : Int32)) = 0 then (some ((-1 : Int32), (I, A))) else (if (x3 - x2) ≤ (36 : Int32) then ((fX9_setOf B I A x1).bind fun r7 => ((fX9_bassOf B I A x1).bind fun r9 => (fX9_voice_66 B  FU I A x2 x3 r9 (r7 &&& (((1 : Int32) <<< (r9 &&& 31)) ^^^ (-1 : Int32))) (0 : Int32)))) else (some ((-1 : Int32), (I, A))))))))
set_option maxRecDepth 100000 in
set_option maxHeartbeats 4000000 in
theorem mX9_voice (l : Launch) (dC : Nat → ClassId) (dI : Nat → Nat → Nat) (cI cB cJ : ClassId) (Q : Nat → Nat) (B : Nat → Nat → Int64) (I : Nat → Int32) (A : Nat → Nat → Int32) (x1 : Int32) (x2 : Int32) (x3 : Int32) (sz : Nat) (z : Int32 × (Nat → Int32) × (Nat → Nat → Int32)) (hf : fX9_voice B I A x1 x2 x3 = some z) : Met l yX9_voice wsX9_voice ({ frames := 3, cells := 0, slots := 0, locals := 64 }) (va_Pc [.ref (Q 100), .int x1, .int x2, .int x3] (fun U => U.heap.size = sz ∧ va_P (dC, dI) vwCl (wM cI cB cJ Q B I A) U.heap ∧ va_K (dC, dI) vwCl (tM cI cB cJ) U ∧ va_D (fun _ => True) (wM cI cB cJ Q B I A))) (va_Qi (fun (r : Int32) (u : (Nat → Int32) × (Nat → Nat → Int32)) => (r, u) = z) (atM dC dI cI cB cJ Q B (va_A (wM cI cB cJ Q B I A) sz)) (va_A (wM cI cB cJ Q B I A) sz)) 0 0 (va_A (wM cI cB cJ Q B I A) sz) := by
  refine Met.ofW (cc := cX9_voice) (maxL := 12) (ret := (some .int)) (by decide) rfl ?_
  intro p e s m args below meth c s₁ BL hml hv
  obtain ⟨rfl, hsz, hP, hK, hD0⟩ := hv
  have hx := BL.exec
  have hb := BL.bytes
  have hr := BL.returns
  have hts := atoms_spec (ws := wsX9_voice) BL.pre
  have hown : s.vm.findClass RX9 = some m.cls := findClass_of_methodNamed BL.named
  have hlocks := BL.notSynchronized
  have hinX9 : ∀ w ∈ u_ws RX9 TX9 36, w ∈ wsX9_voice := by decide +kernel
  have hk32 := hts (.fieldLink RX9 32 "LeadSheetsModel" "keys" "[I") (by decide +kernel)
  have hk184 := hts (.fieldLink RX9 184 "LeadSheetsModel" "near" "[I") (by decide +kernel)
  have hk187 := hts (.fieldLink RX9 187 "LeadSheetsModel" "made" "[I") (by decide +kernel)
  have hk344 := hts (.fieldLink RX9 344 "LeadSheetsModel" "keyMany" "I") (by decide +kernel)
  have hk347 := hts (.fieldLink RX9 347 "LeadSheetsModel" "madeMany" "I") (by decide +kernel)
  subst hsz
  have hD := hD0.self (sz := s.heap.size)
  generalize hAe : va_A (wM cI cB cJ Q B I A) s.heap.size = AA at hD ⊢
  have hA : ∀ q : Nat, s.heap.size ≤ q → AA q := fun q h => by rw [← hAe]; exact Or.inr h
  have hS : va_S AA s.heap s.heap [] := va_S.rf
  have sg353 : ∀ n : Nat, ∀ (I : Nat → Int32) (A : Nat → Nat → Int32) (v9 : Int32) (H : Heap) (locs : List Loc) (ls : Array Slot), fX9_voice_353 B  n I A v9 = some z → va_P (dC, dI) vwCl (wM cI cB cJ Q B I A) H → va_D AA (wM cI cB cJ Q B I A) → va_S AA s.heap H locs → lv_has ls 12 [(0, .ref (Q 100)), (9, .int v9)] → W p l e (headSpec wsX9_voice ({ frames := 3, cells := 0, slots := 0, locals := 64 })).room s m (([.ref (Q 100), .int x1, .int x2, .int x3] : List Value).toArray) below meth c H locs 0 0 (MQ below (va_Qi (fun (r : Int32) (u : (Nat → Int32) × (Nat → Nat → Int32)) => (r, u) = z) (atM dC dI cI cB cJ Q B AA) AA) (([.ref (Q 100), .int x1, .int x2, .int x3] : List Value).toArray) s 0 0 AA) (F0 m 353 ls []) := by
    intro n
    induction n with
    | zero => intro I A v9 H locs ls hf hP hD hS hl; exact of_none hf
    | succ n ih353 =>
      intro I A v9 H locs ls hf hP hD hS hl
      change fX9_voice_353B B  (fX9_voice_353 B  n) I A v9 = _ at hf
      unfold fX9_voice_353B at hf
      refine lv_iload hx hb dX9_voice_353 (lv_at hl 1 rfl) ?_
      refine lv_aload_n hx hb dX9_voice_355 rfl (lv_at hl 0 rfl) ?_
      refine va_get (D := (dC, dI)) (ci := 6) (v := .int (I 35)) (C := RX9) (T := TX9) (N := 36) hx hb hts hinX9 hown hK hP 0 rfl rfl 35 (by decide) hk347 (fun _ h9 => h9) rfl dX9_voice_356 ?_
      refine lv_icmp_ge (tgt := 382) hx hb dX9_voice_359 (by decide) (fun c27 => ?_) (fun c27 => ?_)
      · have hf := (if_pos c27).symm.trans hf
        refine lv_aload_n hx hb dX9_voice_382 rfl (lv_at hl 0 rfl) ?_
        refine va_get (D := (dC, dI)) (ci := 6) (v := .int (I 12)) (C := RX9) (T := TX9) (N := 36) hx hb hts hinX9 hown hK hP 0 rfl rfl 12 (by decide) hk344 (fun _ h9 => h9) rfl dX9_voice_383 ?_
        exact W.iret (v := (I 12)) hx hb hr (fun t ht hW => ⟨⟨(I 12), (I, A), rfl, Option.some.inj hf, by rw [ht]; exact hP, va_K.moved hW.alike hK, hD⟩, hS.F ht⟩) hS.2.2 dX9_voice_386
      · have hf := (if_neg c27).symm.trans hf
        refine lv_aload_n hx hb dX9_voice_362 rfl (lv_at hl 0 rfl) ?_
        refine va_get (D := (dC, dI)) (ci := 6) (v := .ref (Q 11)) (C := RX9) (T := TX9) (N := 36) hx hb hts hinX9 hown hK hP 0 rfl rfl 11 (by decide) hk32 (fun _ h9 => h9) rfl dX9_voice_363 ?_
        refine lv_iload hx hb dX9_voice_366 (lv_at hl 1 rfl) ?_
        refine lv_aload_n hx hb dX9_voice_368 rfl (lv_at hl 0 rfl) ?_
        refine va_get (D := (dC, dI)) (ci := 6) (v := .ref (Q 34)) (C := RX9) (T := TX9) (N := 36) hx hb hts hinX9 hown hK hP 0 rfl rfl 34 (by decide) hk187 (fun _ h9 => h9) rfl dX9_voice_369 ?_
        refine lv_iload hx hb dX9_voice_372 (lv_at hl 1 rfl) ?_
        obtain ⟨g28, hf⟩ := of_ite_some hf
        refine va_iald hx hb hK hP 24 0 (n := 12) (f := (A 34)) rfl rfl g28 dX9_voice_374 ?_
        obtain ⟨g29, hf⟩ := of_ite_some hf
        refine va_iast hx hb hK hP hD hS 8 0 (n := 12) (f := (A 11)) rfl rfl g29 dX9_voice_375 (fun H locs hP hD hS => ?_)
        have hP : va_P (dC, dI) vwCl (wM cI cB cJ Q B I (va_up A 11 (upd (A 11) v9.toNatClampNeg ((A 34) v9.toNatClampNeg)))) H := Eq.mp (congrArg (fun w => va_P (dC, dI) vwCl w H) (wMA_11 cI cB cJ Q B I A (upd (A 11) v9.toNatClampNeg ((A 34) v9.toNatClampNeg)))) hP
        have hD : va_D AA (wM cI cB cJ Q B I (va_up A 11 (upd (A 11) v9.toNatClampNeg ((A 34) v9.toNatClampNeg)))) := Eq.mp (congrArg (fun w => va_D AA w) (wMA_11 cI cB cJ Q B I A (upd (A 11) v9.toNatClampNeg ((A 34) v9.toNatClampNeg)))) hD
        refine lv_iinc (v := (v9 + (1 : Int32))) (lv' := [(9, .int (v9 + (1 : Int32))), (0, .ref (Q 100))]) hx hb dX9_voice_376 hl (k := 1) rfl rfl (by decide) rfl (fun ls hl => ?_)
        refine lv_goto (tgt := 353) hx hb dX9_voice_379 (by decide) ?_
        exact ih353 I (va_up A 11 (upd (A 11) v9.toNatClampNeg ((A 34) v9.toNatClampNeg))) (v9 + (1 : Int32)) H locs ls hf hP hD hS (lv_sub hl [1, 0] rfl)
  have sg308 : ∀ (k200 : (Nat → Int32) → (Nat → Nat → Int32) → Int32 → Int32 → Int32 → Option (Int32 × (Nat → Int32) × (Nat → Nat → Int32))), (∀ (I : Nat → Int32) (A : Nat → Nat → Int32) (v3 : Int32) (v6 : Int32) (v7 : Int32) (H : Heap) (locs : List Loc) (ls : Array Slot), k200 I A v3 v6 v7 = some z → va_P (dC, dI) vwCl (wM cI cB cJ Q B I A) H → va_D AA (wM cI cB cJ Q B I A) → va_S AA s.heap H locs → lv_has ls 12 [(0, .ref (Q 100)), (3, .int v3), (6, .int v6), (7, .int v7)] → W p l e (headSpec wsX9_voice ({ frames := 3, cells := 0, slots := 0, locals := 64 })).room s m (([.ref (Q 100), .int x1, .int x2, .int x3] : List Value).toArray) below meth c H locs 0 0 (MQ below (va_Qi (fun (r : Int32) (u : (Nat → Int32) × (Nat → Nat → Int32)) => (r, u) = z) (atM dC dI cI cB cJ Q B AA) AA) (([.ref (Q 100), .int x1, .int x2, .int x3] : List Value).toArray) s 0 0 AA) (F0 m 200 ls [])) → ∀ (k223 : (Nat → Int32) → (Nat → Nat → Int32) → Int32 → Int32 → Int32 → Int32 → Int32 → Option (Int32 × (Nat → Int32) × (Nat → Nat → Int32))), (∀ (I : Nat → Int32) (A : Nat → Nat → Int32) (v3 : Int32) (v6 : Int32) (v7 : Int32) (v9 : Int32) (v10 : Int32) (H : Heap) (locs : List Loc) (ls : Array Slot), k223 I A v3 v6 v7 v9 v10 = some z → va_P (dC, dI) vwCl (wM cI cB cJ Q B I A) H → va_D AA (wM cI cB cJ Q B I A) → va_S AA s.heap H locs → lv_has ls 12 [(0, .ref (Q 100)), (3, .int v3), (6, .int v6), (7, .int v7), (9, .int v9), (10, .int v10)] → W p l e (headSpec wsX9_voice ({ frames := 3, cells := 0, slots := 0, locals := 64 })).room s m (([.ref (Q 100), .int x1, .int x2, .int x3] : List Value).toArray) below meth c H locs 0 0 (MQ below (va_Qi (fun (r : Int32) (u : (Nat → Int32) × (Nat → Nat → Int32)) => (r, u) = z) (atM dC dI cI cB cJ Q B AA) AA) (([.ref (Q 100), .int x1, .int x2, .int x3] : List Value).toArray) s 0 0 AA) (F0 m 223 ls [])) → ∀ (I : Nat → Int32) (A : Nat → Nat → Int32) (v3 : Int32) (v6 : Int32) (v7 : Int32) (v9 : Int32) (v10 : Int32) (v11 : Int32) (t0 : Int32) (t1 : Int32) (H : Heap) (locs : List Loc) (ls : Array Slot), fX9_voice_308 B k200 k223 I A v3 v6 v7 v9 v10 v11 t0 t1 = some z → va_P (dC, dI) vwCl (wM cI cB cJ Q B I A) H → va_D AA (wM cI cB cJ Q B I A) → va_S AA s.heap H locs → lv_has ls 12 [(0, .ref (Q 100)), (3, .int v3), (6, .int v6), (7, .int v7), (9, .int v9), (10, .int v10), (11, .int v11)] → W p l e (headSpec wsX9_voice ({ frames := 3, cells := 0, slots := 0, locals := 64 })).room s m (([.ref (Q 100), .int x1, .int x2, .int x3] : List Value).toArray) below meth c H locs 0 0 (MQ below (va_Qi (fun (r : Int32) (u : (Nat → Int32) × (Nat → Nat → Int32)) => (r, u) = z) (atM dC dI cI cB cJ Q B AA) AA) (([.ref (Q 100), .int x1, .int x2, .int x3] : List Value).toArray) s 0 0 AA) (F0 m 308 ls [.int t0, .int t1, .ref (Q 100)]) := by
    intro k200 ih200 k223 ih223
    intro I A v3 v6 v7 v9 v10 v11 t0 t1 H locs ls hf hP hD hS hl
    unfold fX9_voice_308 at hf
    refine lv_isub hx hb dX9_voice_308 ?_
    refine va_put (D := (dC, dI)) (ci := 6) (v := .int (t1 - t0)) (ty := .int) (C := RX9) (T := TX9) (N := 36) hx hb hts hinX9 tyX9 tyX9_ok nmX9 hown hK hP hD hS 0 (fs := (oM Q I)) rfl rfl 35 (by decide) hk347 (fun _ h9 => h9) rfl (by decide +kernel) rfl rfl (Nat.le_of_ble_eq_true rfl) dX9_voice_309 (fun H locs hP hD hS => ?_)
    have hP : va_P (dC, dI) vwCl (wM cI cB cJ Q B (upd I 35 (t1 - t0)) A) H := Eq.mp (congrArg (fun w => va_P (dC, dI) vwCl w H) (wMI_35 cI cB cJ Q B I A (t1 - t0))) hP
    have hD : va_D AA (wM cI cB cJ Q B (upd I 35 (t1 - t0)) A) := Eq.mp (congrArg (fun w => va_D AA w) (wMI_35 cI cB cJ Q B I A (t1 - t0))) hD
    refine lv_iload hx hb dX9_voice_312 (lv_at hl 5 rfl) ?_
    refine lv_if_eq (tgt := 329) hx hb dX9_voice_314 (by decide) (fun c37 => ?_) (fun c37 => ?_)
    · have hf := (if_pos c37).symm.trans hf
      refine lv_iload hx hb dX9_voice_329 (lv_at hl 2 rfl) ?_
      refine lv_istore (lv' := [(6, .int v6), (0, .ref (Q 100)), (3, .int v3), (7, .int v7), (9, .int v9), (10, .int v10), (11, .int v11)]) hx hb dX9_voice_331 hl (by decide) rfl (fun ls hl => ?_)
      refine lv_iinc (v := (v9 + (1 : Int32))) (lv' := [(9, .int (v9 + (1 : Int32))), (6, .int v6), (0, .ref (Q 100)), (3, .int v3), (7, .int v7), (10, .int v10), (11, .int v11)]) hx hb dX9_voice_333 hl (k := 4) rfl rfl (by decide) rfl (fun ls hl => ?_)
      refine lv_goto (tgt := 223) hx hb dX9_voice_336 (by decide) ?_
      exact ih223 (upd I 35 (t1 - t0)) A v3 v6 v7 (v9 + (1 : Int32)) v10 H locs ls hf hP hD hS (lv_sub hl [2, 3, 1, 4, 0, 5] rfl)
    · have hf := (if_neg c37).symm.trans hf
      refine lv_iload hx hb dX9_voice_317 (lv_at hl 2 rfl) ?_
      refine lv_iconst (v := (1 : Int32)) hx hb dX9_voice_319 (by decide) ?_
      refine lv_iload hx hb dX9_voice_320 (lv_at hl 6 rfl) ?_
      refine lv_ishl hx hb dX9_voice_322 ?_
      refine lv_iconst (v := (-1 : Int32)) hx hb dX9_voice_323 (by decide) ?_
      refine lv_ixor hx hb dX9_voice_324 ?_
      refine lv_iand hx hb dX9_voice_325 ?_
      refine lv_goto (tgt := 331) hx hb dX9_voice_326 (by decide) ?_
      refine lv_istore (lv' := [(6, .int (v6 &&& (((1 : Int32) <<< (v11 &&& 31)) ^^^ (-1 : Int32)))), (0, .ref (Q 100)), (3, .int v3), (7, .int v7), (9, .int v9), (10, .int v10), (11, .int v11)]) hx hb dX9_voice_331 hl (by decide) rfl (fun ls hl => ?_)
      refine lv_iinc (v := (v9 + (1 : Int32))) (lv' := [(9, .int (v9 + (1 : Int32))), (6, .int (v6 &&& (((1 : Int32) <<< (v11 &&& 31)) ^^^ (-1 : Int32)))), (0, .ref (Q 100)), (3, .int v3), (7, .int v7), (10, .int v10), (11, .int v11)]) hx hb dX9_voice_333 hl (k := 4) rfl rfl (by decide) rfl (fun ls hl => ?_)
      refine lv_goto (tgt := 223) hx hb dX9_voice_336 (by decide) ?_
      exact ih223 (upd I 35 (t1 - t0)) A v3 (v6 &&& (((1 : Int32) <<< (v11 &&& 31)) ^^^ (-1 : Int32))) v7 (v9 + (1 : Int32)) v10 H locs ls hf hP hD hS (lv_sub hl [2, 3, 1, 4, 0, 5] rfl)
  have sg291 : ∀ (k200 : (Nat → Int32) → (Nat → Nat → Int32) → Int32 → Int32 → Int32 → Option (Int32 × (Nat → Int32) × (Nat → Nat → Int32))), (∀ (I : Nat → Int32) (A : Nat → Nat → Int32) (v3 : Int32) (v6 : Int32) (v7 : Int32) (H : Heap) (locs : List Loc) (ls : Array Slot), k200 I A v3 v6 v7 = some z → va_P (dC, dI) vwCl (wM cI cB cJ Q B I A) H → va_D AA (wM cI cB cJ Q B I A) → va_S AA s.heap H locs → lv_has ls 12 [(0, .ref (Q 100)), (3, .int v3), (6, .int v6), (7, .int v7)] → W p l e (headSpec wsX9_voice ({ frames := 3, cells := 0, slots := 0, locals := 64 })).room s m (([.ref (Q 100), .int x1, .int x2, .int x3] : List Value).toArray) below meth c H locs 0 0 (MQ below (va_Qi (fun (r : Int32) (u : (Nat → Int32) × (Nat → Nat → Int32)) => (r, u) = z) (atM dC dI cI cB cJ Q B AA) AA) (([.ref (Q 100), .int x1, .int x2, .int x3] : List Value).toArray) s 0 0 AA) (F0 m 200 ls [])) → ∀ (k223 : (Nat → Int32) → (Nat → Nat → Int32) → Int32 → Int32 → Int32 → Int32 → Int32 → Option (Int32 × (Nat → Int32) × (Nat → Nat → Int32))), (∀ (I : Nat → Int32) (A : Nat → Nat → Int32) (v3 : Int32) (v6 : Int32) (v7 : Int32) (v9 : Int32) (v10 : Int32) (H : Heap) (locs : List Loc) (ls : Array Slot), k223 I A v3 v6 v7 v9 v10 = some z → va_P (dC, dI) vwCl (wM cI cB cJ Q B I A) H → va_D AA (wM cI cB cJ Q B I A) → va_S AA s.heap H locs → lv_has ls 12 [(0, .ref (Q 100)), (3, .int v3), (6, .int v6), (7, .int v7), (9, .int v9), (10, .int v10)] → W p l e (headSpec wsX9_voice ({ frames := 3, cells := 0, slots := 0, locals := 64 })).room s m (([.ref (Q 100), .int x1, .int x2, .int x3] : List Value).toArray) below meth c H locs 0 0 (MQ below (va_Qi (fun (r : Int32) (u : (Nat → Int32) × (Nat → Nat → Int32)) => (r, u) = z) (atM dC dI cI cB cJ Q B AA) AA) (([.ref (Q 100), .int x1, .int x2, .int x3] : List Value).toArray) s 0 0 AA) (F0 m 223 ls [])) → ∀ (I : Nat → Int32) (A : Nat → Nat → Int32) (v3 : Int32) (v6 : Int32) (v7 : Int32) (v9 : Int32) (v11 : Int32) (t0 : Int32) (H : Heap) (locs : List Loc) (ls : Array Slot), fX9_voice_291 B k200 k223 I A v3 v6 v7 v9 v11 t0 = some z → va_P (dC, dI) vwCl (wM cI cB cJ Q B I A) H → va_D AA (wM cI cB cJ Q B I A) → va_S AA s.heap H locs → lv_has ls 12 [(0, .ref (Q 100)), (3, .int v3), (6, .int v6), (7, .int v7), (9, .int v9), (11, .int v11)] → W p l e (headSpec wsX9_voice ({ frames := 3, cells := 0, slots := 0, locals := 64 })).room s m (([.ref (Q 100), .int x1, .int x2, .int x3] : List Value).toArray) below meth c H locs 0 0 (MQ below (va_Qi (fun (r : Int32) (u : (Nat → Int32) × (Nat → Nat → Int32)) => (r, u) = z) (atM dC dI cI cB cJ Q B AA) AA) (([.ref (Q 100), .int x1, .int x2, .int x3] : List Value).toArray) s 0 0 AA) (F0 m 291 ls [.int t0]) := by
    intro k200 ih200 k223 ih223
    intro I A v3 v6 v7 v9 v11 t0 H locs ls hf hP hD hS hl
    unfold fX9_voice_291 at hf
    refine lv_istore (lv' := [(10, .int t0), (0, .ref (Q 100)), (3, .int v3), (6, .int v6), (7, .int v7), (9, .int v9), (11, .int v11)]) hx hb dX9_voice_291 hl (by decide) rfl (fun ls hl => ?_)
    refine lv_aload_n hx hb dX9_voice_293 rfl (lv_at hl 1 rfl) ?_
    refine lv_dup hx hb dX9_voice_294 rfl ?_
    refine va_get (D := (dC, dI)) (ci := 6) (v := .int (I 35)) (C := RX9) (T := TX9) (N := 36) hx hb hts hinX9 hown hK hP 0 rfl rfl 35 (by decide) hk347 (fun _ h9 => h9) rfl dX9_voice_295 ?_
    refine lv_iload hx hb dX9_voice_298 (lv_at hl 0 rfl) ?_
    refine lv_if_eq (tgt := 307) hx hb dX9_voice_300 (by decide) (fun c36 => ?_) (fun c36 => ?_)
    · have hf := (if_pos c36).symm.trans hf
      refine lv_iconst (v := (1 : Int32)) hx hb dX9_voice_307 (by decide) ?_
      exact sg308 _ ih200 _ ih223 I A v3 v6 v7 v9 t0 v11 (1 : Int32) (I 35) H locs ls hf hP hD hS (lv_sub hl [1, 2, 3, 4, 5, 0, 6] rfl)
    · have hf := (if_neg c36).symm.trans hf
      refine lv_iconst (v := (0 : Int32)) hx hb dX9_voice_303 (by decide) ?_
      refine lv_goto (tgt := 308) hx hb dX9_voice_304 (by decide) ?_
      exact sg308 _ ih200 _ ih223 I A v3 v6 v7 v9 t0 v11 (0 : Int32) (I 35) H locs ls hf hP hD hS (lv_sub hl [1, 2, 3, 4, 5, 0, 6] rfl)
  have sg223 : ∀ (k200 : (Nat → Int32) → (Nat → Nat → Int32) → Int32 → Int32 → Int32 → Option (Int32 × (Nat → Int32) × (Nat → Nat → Int32))), (∀ (I : Nat → Int32) (A : Nat → Nat → Int32) (v3 : Int32) (v6 : Int32) (v7 : Int32) (H : Heap) (locs : List Loc) (ls : Array Slot), k200 I A v3 v6 v7 = some z → va_P (dC, dI) vwCl (wM cI cB cJ Q B I A) H → va_D AA (wM cI cB cJ Q B I A) → va_S AA s.heap H locs → lv_has ls 12 [(0, .ref (Q 100)), (3, .int v3), (6, .int v6), (7, .int v7)] → W p l e (headSpec wsX9_voice ({ frames := 3, cells := 0, slots := 0, locals := 64 })).room s m (([.ref (Q 100), .int x1, .int x2, .int x3] : List Value).toArray) below meth c H locs 0 0 (MQ below (va_Qi (fun (r : Int32) (u : (Nat → Int32) × (Nat → Nat → Int32)) => (r, u) = z) (atM dC dI cI cB cJ Q B AA) AA) (([.ref (Q 100), .int x1, .int x2, .int x3] : List Value).toArray) s 0 0 AA) (F0 m 200 ls [])) → ∀ n : Nat, ∀ (I : Nat → Int32) (A : Nat → Nat → Int32) (v3 : Int32) (v6 : Int32) (v7 : Int32) (v9 : Int32) (v10 : Int32) (H : Heap) (locs : List Loc) (ls : Array Slot), fX9_voice_223 B k200 n I A v3 v6 v7 v9 v10 = some z → va_P (dC, dI) vwCl (wM cI cB cJ Q B I A) H → va_D AA (wM cI cB cJ Q B I A) → va_S AA s.heap H locs → lv_has ls 12 [(0, .ref (Q 100)), (3, .int v3), (6, .int v6), (7, .int v7), (9, .int v9), (10, .int v10)] → W p l e (headSpec wsX9_voice ({ frames := 3, cells := 0, slots := 0, locals := 64 })).room s m (([.ref (Q 100), .int x1, .int x2, .int x3] : List Value).toArray) below meth c H locs 0 0 (MQ below (va_Qi (fun (r : Int32) (u : (Nat → Int32) × (Nat → Nat → Int32)) => (r, u) = z) (atM dC dI cI cB cJ Q B AA) AA) (([.ref (Q 100), .int x1, .int x2, .int x3] : List Value).toArray) s 0 0 AA) (F0 m 223 ls []) := by
    intro k200 ih200
    intro n
    induction n with
    | zero => intro I A v3 v6 v7 v9 v10 H locs ls hf hP hD hS hl; exact of_none hf
    | succ n ih223 =>
      intro I A v3 v6 v7 v9 v10 H locs ls hf hP hD hS hl
      change fX9_voice_223B B k200 (fX9_voice_223 B k200 n) I A v3 v6 v7 v9 v10 = _ at hf
      unfold fX9_voice_223B at hf
      refine lv_iload hx hb dX9_voice_223 (lv_at hl 5 rfl) ?_
      refine lv_if_ne (tgt := 339) hx hb dX9_voice_225 (by decide) (fun c30 => ?_) (fun c30 => ?_)
      · have hf := (if_neg c30).symm.trans hf
        refine lv_goto (tgt := 200) hx hb dX9_voice_339 (by decide) ?_
        exact ih200 I A v3 v6 v7 H locs ls hf hP hD hS (lv_sub hl [0, 1, 2, 3] rfl)
      · have hf := (if_pos c30).symm.trans hf
        refine lv_iload hx hb dX9_voice_228 (lv_at hl 4 rfl) ?_
        refine lv_bipush (v := (12 : Int32)) hx hb dX9_voice_230 (by decide) ?_
        refine lv_irem hx hb dX9_voice_232 (by decide) ?_
        refine W.eq (g2 := F0 m 233 ls [.int (jrem v9 (12 : Int32))]) rfl ?_
        refine lv_istore (lv' := [(11, .int (jrem v9 (12 : Int32))), (0, .ref (Q 100)), (3, .int v3), (6, .int v6), (7, .int v7), (9, .int v9), (10, .int v10)]) hx hb dX9_voice_233 hl (by decide) rfl (fun ls hl => ?_)
        refine lv_iload hx hb dX9_voice_235 (lv_at hl 3 rfl) ?_
        refine lv_iload hx hb dX9_voice_237 (lv_at hl 0 rfl) ?_
        refine lv_ishr hx hb dX9_voice_239 ?_
        refine lv_iconst (v := (1 : Int32)) hx hb dX9_voice_240 (by decide) ?_
        refine lv_iand hx hb dX9_voice_241 ?_
        refine lv_iconst (v := (1 : Int32)) hx hb dX9_voice_242 (by decide) ?_
        refine lv_icmp_ne (tgt := 333) hx hb dX9_voice_243 (by decide) (fun c31 => ?_) (fun c31 => ?_)
        · have hf := (if_neg c31).symm.trans hf
          refine lv_iinc (v := (v9 + (1 : Int32))) (lv' := [(9, .int (v9 + (1 : Int32))), (11, .int (jrem v9 (12 : Int32))), (0, .ref (Q 100)), (3, .int v3), (6, .int v6), (7, .int v7), (10, .int v10)]) hx hb dX9_voice_333 hl (k := 5) rfl rfl (by decide) rfl (fun ls hl => ?_)
          refine lv_goto (tgt := 223) hx hb dX9_voice_336 (by decide) ?_
          exact ih223 I A v3 v6 v7 (v9 + (1 : Int32)) v10 H locs ls hf hP hD hS (lv_sub hl [2, 3, 4, 5, 0, 6] rfl)
        · have hf := (if_pos c31).symm.trans hf
          refine lv_aload_n hx hb dX9_voice_246 rfl (lv_at hl 1 rfl) ?_
          refine va_get (D := (dC, dI)) (ci := 6) (v := .ref (Q 34)) (C := RX9) (T := TX9) (N := 36) hx hb hts hinX9 hown hK hP 0 rfl rfl 34 (by decide) hk187 (fun _ h9 => h9) rfl dX9_voice_247 ?_
          refine lv_aload_n hx hb dX9_voice_250 rfl (lv_at hl 1 rfl) ?_
          refine va_get (D := (dC, dI)) (ci := 6) (v := .int (I 35)) (C := RX9) (T := TX9) (N := 36) hx hb hts hinX9 hown hK hP 0 rfl rfl 35 (by decide) hk347 (fun _ h9 => h9) rfl dX9_voice_251 ?_
          refine lv_iload hx hb dX9_voice_254 (lv_at hl 5 rfl) ?_
          obtain ⟨g32, hf⟩ := of_ite_some hf
          refine va_iast hx hb hK hP hD hS 24 0 (n := 12) (f := (A 34)) rfl rfl g32 dX9_voice_256 (fun H locs hP hD hS => ?_)
          have hP : va_P (dC, dI) vwCl (wM cI cB cJ Q B I (va_up A 34 (upd (A 34) (I 35).toNatClampNeg v9))) H := Eq.mp (congrArg (fun w => va_P (dC, dI) vwCl w H) (wMA_34 cI cB cJ Q B I A (upd (A 34) (I 35).toNatClampNeg v9))) hP
          have hD : va_D AA (wM cI cB cJ Q B I (va_up A 34 (upd (A 34) (I 35).toNatClampNeg v9))) := Eq.mp (congrArg (fun w => va_D AA w) (wMA_34 cI cB cJ Q B I A (upd (A 34) (I 35).toNatClampNeg v9))) hD
          refine lv_aload_n hx hb dX9_voice_257 rfl (lv_at hl 1 rfl) ?_
          refine lv_dup hx hb dX9_voice_258 rfl ?_
          refine va_get (D := (dC, dI)) (ci := 6) (v := .int (I 35)) (C := RX9) (T := TX9) (N := 36) hx hb hts hinX9 hown hK hP 0 rfl rfl 35 (by decide) hk347 (fun _ h9 => h9) rfl dX9_voice_259 ?_
          refine lv_iconst (v := (1 : Int32)) hx hb dX9_voice_262 (by decide) ?_
          refine lv_iadd hx hb dX9_voice_263 ?_
          refine va_put (D := (dC, dI)) (ci := 6) (v := .int ((I 35) + (1 : Int32))) (ty := .int) (C := RX9) (T := TX9) (N := 36) hx hb hts hinX9 tyX9 tyX9_ok nmX9 hown hK hP hD hS 0 (fs := (oM Q I)) rfl rfl 35 (by decide) hk347 (fun _ h9 => h9) rfl (by decide +kernel) rfl rfl (Nat.le_of_ble_eq_true rfl) dX9_voice_264 (fun H locs hP hD hS => ?_)
          have hP : va_P (dC, dI) vwCl (wM cI cB cJ Q B (upd I 35 ((I 35) + (1 : Int32))) (va_up A 34 (upd (A 34) (I 35).toNatClampNeg v9))) H := Eq.mp (congrArg (fun w => va_P (dC, dI) vwCl w H) (wMI_35 cI cB cJ Q B I (va_up A 34 (upd (A 34) (I 35).toNatClampNeg v9)) ((I 35) + (1 : Int32)))) hP
          have hD : va_D AA (wM cI cB cJ Q B (upd I 35 ((I 35) + (1 : Int32))) (va_up A 34 (upd (A 34) (I 35).toNatClampNeg v9))) := Eq.mp (congrArg (fun w => va_D AA w) (wMI_35 cI cB cJ Q B I (va_up A 34 (upd (A 34) (I 35).toNatClampNeg v9)) ((I 35) + (1 : Int32)))) hD
          refine lv_aload_n hx hb dX9_voice_267 rfl (lv_at hl 1 rfl) ?_
          refine lv_iload hx hb dX9_voice_268 (lv_at hl 3 rfl) ?_
          refine lv_iconst (v := (1 : Int32)) hx hb dX9_voice_270 (by decide) ?_
          refine lv_iload hx hb dX9_voice_271 (lv_at hl 0 rfl) ?_
          refine lv_ishl hx hb dX9_voice_273 ?_
          refine lv_iconst (v := (-1 : Int32)) hx hb dX9_voice_274 (by decide) ?_
          refine lv_ixor hx hb dX9_voice_275 ?_
          refine lv_iand hx hb dX9_voice_276 ?_
          refine lv_iload_n hx hb dX9_voice_277 rfl (lv_at hl 2 rfl) ?_
          obtain ⟨r33, hc34, hf⟩ := of_bind_some hf
          refine W.callR (r := r33) (W.runV (As := [.int (v6 &&& (((1 : Int32) <<< ((jrem v9 (12 : Int32)) &&& 31)) ^^^ (-1 : Int32))), .int v3]) (rest := []) ⟨hx, hb, hml, hown, hts⟩ (mX9_rest l dC dI cI cB cJ Q B (upd I 35 ((I 35) + (1 : Int32))) (va_up A 34 (upd (A 34) (I 35).toNatClampNeg v9)) (v6 &&& (((1 : Int32) <<< ((jrem v9 (12 : Int32)) &&& 31)) ^^^ (-1 : Int32))) v3 r33 hc34) (cwV 2 hts gX9_voice_X9_rest rfl rfl rfl (by decide +kernel) ⟨Nat.le_of_ble_eq_true rfl, Nat.le_of_ble_eq_true rfl⟩) ⟨blindR, va_recv hK hP (ci := 6) (q0 := 0) rfl rfl, fun U hU hW => ⟨rfl, by rw [hU]; exact hP, va_K.moved hW.alike hK⟩⟩ rfl rfl hl.1 rfl (lv_room (Nat.le_of_ble_eq_true rfl)) dX9_voice_278 ⟨Nat.zero_le _, Nat.zero_le _⟩) ?_
          refine W.eq (g2 := F0 m 281 ls [.int r33]) rfl ?_
          refine lv_iload hx hb dX9_voice_281 (lv_at hl 4 rfl) ?_
          refine lv_icmp_ne (tgt := 290) hx hb dX9_voice_283 (by decide) (fun c35 => ?_) (fun c35 => ?_)
          · have hf := (if_neg c35).symm.trans hf
            refine lv_iconst (v := (0 : Int32)) hx hb dX9_voice_290 (by decide) ?_
            exact sg291 _ ih200 _ ih223 (upd I 35 ((I 35) + (1 : Int32))) (va_up A 34 (upd (A 34) (I 35).toNatClampNeg v9)) v3 v6 v7 v9 (jrem v9 (12 : Int32)) (0 : Int32) H locs ls hf hP hD hS (lv_sub hl [1, 2, 3, 4, 5, 0] rfl)
          · have hf := (if_pos c35).symm.trans hf
            refine lv_iconst (v := (1 : Int32)) hx hb dX9_voice_286 (by decide) ?_
            refine lv_goto (tgt := 291) hx hb dX9_voice_287 (by decide) ?_
            exact sg291 _ ih200 _ ih223 (upd I 35 ((I 35) + (1 : Int32))) (va_up A 34 (upd (A 34) (I 35).toNatClampNeg v9)) v3 v6 v7 v9 (jrem v9 (12 : Int32)) (1 : Int32) H locs ls hf hP hD hS (lv_sub hl [1, 2, 3, 4, 5, 0] rfl)
  have sg200 : ∀ n : Nat, ∀ (I : Nat → Int32) (A : Nat → Nat → Int32) (v3 : Int32) (v6 : Int32) (v7 : Int32) (H : Heap) (locs : List Loc) (ls : Array Slot), fX9_voice_200 B  n I A v3 v6 v7 = some z → va_P (dC, dI) vwCl (wM cI cB cJ Q B I A) H → va_D AA (wM cI cB cJ Q B I A) → va_S AA s.heap H locs → lv_has ls 12 [(0, .ref (Q 100)), (3, .int v3), (6, .int v6), (7, .int v7)] → W p l e (headSpec wsX9_voice ({ frames := 3, cells := 0, slots := 0, locals := 64 })).room s m (([.ref (Q 100), .int x1, .int x2, .int x3] : List Value).toArray) below meth c H locs 0 0 (MQ below (va_Qi (fun (r : Int32) (u : (Nat → Int32) × (Nat → Nat → Int32)) => (r, u) = z) (atM dC dI cI cB cJ Q B AA) AA) (([.ref (Q 100), .int x1, .int x2, .int x3] : List Value).toArray) s 0 0 AA) (F0 m 200 ls []) := by
    intro n
    induction n with
    | zero => intro I A v3 v6 v7 H locs ls hf hP hD hS hl; exact of_none hf
    | succ n ih200 =>
      intro I A v3 v6 v7 H locs ls hf hP hD hS hl
      change fX9_voice_200B B  (fX9_voice_200 B  n) I A v3 v6 v7 = _ at hf
      unfold fX9_voice_200B at hf
      refine lv_iload hx hb dX9_voice_200 (lv_at hl 2 rfl) ?_
      refine lv_if_eq (tgt := 342) hx hb dX9_voice_202 (by decide) (fun c22 => ?_) (fun c22 => ?_)
      · have hf := (if_pos c22).symm.trans hf
        refine lv_aload_n hx hb dX9_voice_342 rfl (lv_at hl 0 rfl) ?_
        refine lv_aload_n hx hb dX9_voice_343 rfl (lv_at hl 0 rfl) ?_
        refine va_get (D := (dC, dI)) (ci := 6) (v := .int (I 35)) (C := RX9) (T := TX9) (N := 36) hx hb hts hinX9 hown hK hP 0 rfl rfl 35 (by decide) hk347 (fun _ h9 => h9) rfl dX9_voice_344 ?_
        refine va_put (D := (dC, dI)) (ci := 6) (v := .int (I 35)) (ty := .int) (C := RX9) (T := TX9) (N := 36) hx hb hts hinX9 tyX9 tyX9_ok nmX9 hown hK hP hD hS 0 (fs := (oM Q I)) rfl rfl 12 (by decide) hk344 (fun _ h9 => h9) rfl (by decide +kernel) rfl rfl (Nat.le_of_ble_eq_true rfl) dX9_voice_347 (fun H locs hP hD hS => ?_)
        have hP : va_P (dC, dI) vwCl (wM cI cB cJ Q B (upd I 12 (I 35)) A) H := Eq.mp (congrArg (fun w => va_P (dC, dI) vwCl w H) (wMI_12 cI cB cJ Q B I A (I 35))) hP
        have hD : va_D AA (wM cI cB cJ Q B (upd I 12 (I 35)) A) := Eq.mp (congrArg (fun w => va_D AA w) (wMI_12 cI cB cJ Q B I A (I 35))) hD
        refine lv_iconst (v := (0 : Int32)) hx hb dX9_voice_350 (by decide) ?_
        refine lv_istore (lv' := [(9, .int (0 : Int32)), (0, .ref (Q 100)), (3, .int v3), (6, .int v6), (7, .int v7)]) hx hb dX9_voice_351 hl (by decide) rfl (fun ls hl => ?_)
        exact sg353  FU (upd I 12 (I 35)) A (0 : Int32) H locs ls hf hP hD hS (lv_sub hl [1, 0] rfl)
      · have hf := (if_neg c22).symm.trans hf
        refine lv_aload_n hx hb dX9_voice_205 rfl (lv_at hl 0 rfl) ?_
        refine va_get (D := (dC, dI)) (ci := 6) (v := .ref (Q 34)) (C := RX9) (T := TX9) (N := 36) hx hb hts hinX9 hown hK hP 0 rfl rfl 34 (by decide) hk187 (fun _ h9 => h9) rfl dX9_voice_206 ?_
        refine lv_aload_n hx hb dX9_voice_209 rfl (lv_at hl 0 rfl) ?_
        refine va_get (D := (dC, dI)) (ci := 6) (v := .int (I 35)) (C := RX9) (T := TX9) (N := 36) hx hb hts hinX9 hown hK hP 0 rfl rfl 35 (by decide) hk347 (fun _ h9 => h9) rfl dX9_voice_210 ?_
        refine lv_iconst (v := (1 : Int32)) hx hb dX9_voice_213 (by decide) ?_
        refine lv_isub hx hb dX9_voice_214 ?_
        obtain ⟨g23, hf⟩ := of_ite_some hf
        refine va_iald hx hb hK hP 24 0 (n := 12) (f := (A 34)) rfl rfl g23 dX9_voice_215 ?_
        refine lv_iconst (v := (1 : Int32)) hx hb dX9_voice_216 (by decide) ?_
        refine lv_iadd hx hb dX9_voice_217 ?_
        refine lv_istore (lv' := [(9, .int (((A 34) ((I 35) - (1 : Int32)).toNatClampNeg) + (1 : Int32))), (0, .ref (Q 100)), (3, .int v3), (6, .int v6), (7, .int v7)]) hx hb dX9_voice_218 hl (by decide) rfl (fun ls hl => ?_)
        refine lv_iconst (v := (0 : Int32)) hx hb dX9_voice_220 (by decide) ?_
        refine lv_istore (lv' := [(10, .int (0 : Int32)), (9, .int (((A 34) ((I 35) - (1 : Int32)).toNatClampNeg) + (1 : Int32))), (0, .ref (Q 100)), (3, .int v3), (6, .int v6), (7, .int v7)]) hx hb dX9_voice_221 hl (by decide) rfl (fun ls hl => ?_)
        exact sg223 _ ih200 FU I A v3 v6 v7 (((A 34) ((I 35) - (1 : Int32)).toNatClampNeg) + (1 : Int32)) (0 : Int32) H locs ls hf hP hD hS (lv_sub hl [2, 3, 4, 5, 1, 0] rfl)
  have sg168 : ∀ (k109 : (Nat → Int32) → (Nat → Nat → Int32) → Int32 → Int32 → Int32 → Int32 → Int32 → Int32 → Option (Int32 × (Nat → Int32) × (Nat → Nat → Int32))), (∀ (I : Nat → Int32) (A : Nat → Nat → Int32) (v3 : Int32) (v5 : Int32) (v6 : Int32) (v7 : Int32) (v8 : Int32) (v9 : Int32) (H : Heap) (locs : List Loc) (ls : Array Slot), k109 I A v3 v5 v6 v7 v8 v9 = some z → va_P (dC, dI) vwCl (wM cI cB cJ Q B I A) H → va_D AA (wM cI cB cJ Q B I A) → va_S AA s.heap H locs → lv_has ls 12 [(0, .ref (Q 100)), (3, .int v3), (5, .int v5), (6, .int v6), (7, .int v7), (8, .int v8), (9, .int v9)] → W p l e (headSpec wsX9_voice ({ frames := 3, cells := 0, slots := 0, locals := 64 })).room s m (([.ref (Q 100), .int x1, .int x2, .int x3] : List Value).toArray) below meth c H locs 0 0 (MQ below (va_Qi (fun (r : Int32) (u : (Nat → Int32) × (Nat → Nat → Int32)) => (r, u) = z) (atM dC dI cI cB cJ Q B AA) AA) (([.ref (Q 100), .int x1, .int x2, .int x3] : List Value).toArray) s 0 0 AA) (F0 m 109 ls [])) → ∀ (I : Nat → Int32) (A : Nat → Nat → Int32) (v3 : Int32) (v5 : Int32) (v6 : Int32) (v9 : Int32) (v10 : Int32) (H : Heap) (locs : List Loc) (ls : Array Slot), fX9_voice_168 B k109 I A v3 v5 v6 v9 v10 = some z → va_P (dC, dI) vwCl (wM cI cB cJ Q B I A) H → va_D AA (wM cI cB cJ Q B I A) → va_S AA s.heap H locs → lv_has ls 12 [(0, .ref (Q 100)), (3, .int v3), (5, .int v5), (6, .int v6), (9, .int v9), (10, .int v10)] → W p l e (headSpec wsX9_voice ({ frames := 3, cells := 0, slots := 0, locals := 64 })).room s m (([.ref (Q 100), .int x1, .int x2, .int x3] : List Value).toArray) below meth c H locs 0 0 (MQ below (va_Qi (fun (r : Int32) (u : (Nat → Int32) × (Nat → Nat → Int32)) => (r, u) = z) (atM dC dI cI cB cJ Q B AA) AA) (([.ref (Q 100), .int x1, .int x2, .int x3] : List Value).toArray) s 0 0 AA) (F0 m 168 ls []) := by
    intro k109 ih109
    intro I A v3 v5 v6 v9 v10 H locs ls hf hP hD hS hl
    unfold fX9_voice_168 at hf
    refine lv_iload hx hb dX9_voice_168 (lv_at hl 5 rfl) ?_
    refine lv_istore (lv' := [(7, .int v10), (0, .ref (Q 100)), (3, .int v3), (5, .int v5), (6, .int v6), (9, .int v9), (10, .int v10)]) hx hb dX9_voice_170 hl (by decide) rfl (fun ls hl => ?_)
    refine lv_iload hx hb dX9_voice_172 (lv_at hl 5 rfl) ?_
    refine lv_istore (lv' := [(8, .int v9), (7, .int v10), (0, .ref (Q 100)), (3, .int v3), (5, .int v5), (6, .int v6), (9, .int v9), (10, .int v10)]) hx hb dX9_voice_174 hl (by decide) rfl (fun ls hl => ?_)
    refine lv_iinc (v := (v9 + (1 : Int32))) (lv' := [(9, .int (v9 + (1 : Int32))), (8, .int v9), (7, .int v10), (0, .ref (Q 100)), (3, .int v3), (5, .int v5), (6, .int v6), (10, .int v10)]) hx hb dX9_voice_176 hl (k := 6) rfl rfl (by decide) rfl (fun ls hl => ?_)
    refine lv_goto (tgt := 109) hx hb dX9_voice_179 (by decide) ?_
    exact ih109 I A v3 v5 v6 v10 v9 (v9 + (1 : Int32)) H locs ls hf hP hD hS (lv_sub hl [3, 4, 5, 6, 2, 1, 0] rfl)
  have sg145 : ∀ (k109 : (Nat → Int32) → (Nat → Nat → Int32) → Int32 → Int32 → Int32 → Int32 → Int32 → Int32 → Option (Int32 × (Nat → Int32) × (Nat → Nat → Int32))), (∀ (I : Nat → Int32) (A : Nat → Nat → Int32) (v3 : Int32) (v5 : Int32) (v6 : Int32) (v7 : Int32) (v8 : Int32) (v9 : Int32) (H : Heap) (locs : List Loc) (ls : Array Slot), k109 I A v3 v5 v6 v7 v8 v9 = some z → va_P (dC, dI) vwCl (wM cI cB cJ Q B I A) H → va_D AA (wM cI cB cJ Q B I A) → va_S AA s.heap H locs → lv_has ls 12 [(0, .ref (Q 100)), (3, .int v3), (5, .int v5), (6, .int v6), (7, .int v7), (8, .int v8), (9, .int v9)] → W p l e (headSpec wsX9_voice ({ frames := 3, cells := 0, slots := 0, locals := 64 })).room s m (([.ref (Q 100), .int x1, .int x2, .int x3] : List Value).toArray) below meth c H locs 0 0 (MQ below (va_Qi (fun (r : Int32) (u : (Nat → Int32) × (Nat → Nat → Int32)) => (r, u) = z) (atM dC dI cI cB cJ Q B AA) AA) (([.ref (Q 100), .int x1, .int x2, .int x3] : List Value).toArray) s 0 0 AA) (F0 m 109 ls [])) → ∀ (I : Nat → Int32) (A : Nat → Nat → Int32) (v3 : Int32) (v5 : Int32) (v6 : Int32) (v7 : Int32) (v8 : Int32) (v9 : Int32) (t0 : Int32) (H : Heap) (locs : List Loc) (ls : Array Slot), fX9_voice_145 B k109 I A v3 v5 v6 v7 v8 v9 t0 = some z → va_P (dC, dI) vwCl (wM cI cB cJ Q B I A) H → va_D AA (wM cI cB cJ Q B I A) → va_S AA s.heap H locs → lv_has ls 12 [(0, .ref (Q 100)), (3, .int v3), (5, .int v5), (6, .int v6), (7, .int v7), (8, .int v8), (9, .int v9)] → W p l e (headSpec wsX9_voice ({ frames := 3, cells := 0, slots := 0, locals := 64 })).room s m (([.ref (Q 100), .int x1, .int x2, .int x3] : List Value).toArray) below meth c H locs 0 0 (MQ below (va_Qi (fun (r : Int32) (u : (Nat → Int32) × (Nat → Nat → Int32)) => (r, u) = z) (atM dC dI cI cB cJ Q B AA) AA) (([.ref (Q 100), .int x1, .int x2, .int x3] : List Value).toArray) s 0 0 AA) (F0 m 145 ls [.int t0]) := by
    intro k109 ih109
    intro I A v3 v5 v6 v7 v8 v9 t0 H locs ls hf hP hD hS hl
    unfold fX9_voice_145 at hf
    refine lv_istore (lv' := [(10, .int t0), (0, .ref (Q 100)), (3, .int v3), (5, .int v5), (6, .int v6), (7, .int v7), (8, .int v8), (9, .int v9)]) hx hb dX9_voice_145 hl (by decide) rfl (fun ls hl => ?_)
    refine lv_iload hx hb dX9_voice_147 (lv_at hl 0 rfl) ?_
    refine lv_bipush (v := (-2 : Int32)) hx hb dX9_voice_149 (by decide) ?_
    refine lv_icmp_eq (tgt := 176) hx hb dX9_voice_151 (by decide) (fun c24 => ?_) (fun c24 => ?_)
    · have hf := (if_pos c24).symm.trans hf
      refine lv_iinc (v := (v9 + (1 : Int32))) (lv' := [(9, .int (v9 + (1 : Int32))), (10, .int t0), (0, .ref (Q 100)), (3, .int v3), (5, .int v5), (6, .int v6), (7, .int v7), (8, .int v8)]) hx hb dX9_voice_176 hl (k := 7) rfl rfl (by decide) rfl (fun ls hl => ?_)
      refine lv_goto (tgt := 109) hx hb dX9_voice_179 (by decide) ?_
      exact ih109 I A v3 v5 v6 v7 v8 (v9 + (1 : Int32)) H locs ls hf hP hD hS (lv_sub hl [2, 3, 4, 5, 6, 7, 0] rfl)
    · have hf := (if_neg c24).symm.trans hf
      refine lv_iload hx hb dX9_voice_154 (lv_at hl 5 rfl) ?_
      refine lv_bipush (v := (-2 : Int32)) hx hb dX9_voice_156 (by decide) ?_
      refine lv_icmp_eq (tgt := 168) hx hb dX9_voice_158 (by decide) (fun c25 => ?_) (fun c25 => ?_)
      · have hf := (if_pos c25).symm.trans hf
        exact sg168 _ ih109 I A v3 v5 v6 v9 t0 H locs ls hf hP hD hS (lv_sub hl [1, 2, 3, 4, 7, 0] rfl)
      · have hf := (if_neg c25).symm.trans hf
        refine lv_iload hx hb dX9_voice_161 (lv_at hl 0 rfl) ?_
        refine lv_iload hx hb dX9_voice_163 (lv_at hl 5 rfl) ?_
        refine lv_icmp_ge (tgt := 176) hx hb dX9_voice_165 (by decide) (fun c26 => ?_) (fun c26 => ?_)
        · have hf := (if_pos c26).symm.trans hf
          refine lv_iinc (v := (v9 + (1 : Int32))) (lv' := [(9, .int (v9 + (1 : Int32))), (10, .int t0), (0, .ref (Q 100)), (3, .int v3), (5, .int v5), (6, .int v6), (7, .int v7), (8, .int v8)]) hx hb dX9_voice_176 hl (k := 7) rfl rfl (by decide) rfl (fun ls hl => ?_)
          refine lv_goto (tgt := 109) hx hb dX9_voice_179 (by decide) ?_
          exact ih109 I A v3 v5 v6 v7 v8 (v9 + (1 : Int32)) H locs ls hf hP hD hS (lv_sub hl [2, 3, 4, 5, 6, 7, 0] rfl)
        · have hf := (if_neg c26).symm.trans hf
          exact sg168 _ ih109 I A v3 v5 v6 v9 t0 H locs ls hf hP hD hS (lv_sub hl [1, 2, 3, 4, 7, 0] rfl)
  have sg109 : ∀ n : Nat, ∀ (I : Nat → Int32) (A : Nat → Nat → Int32) (v3 : Int32) (v5 : Int32) (v6 : Int32) (v7 : Int32) (v8 : Int32) (v9 : Int32) (H : Heap) (locs : List Loc) (ls : Array Slot), fX9_voice_109 B  n I A v3 v5 v6 v7 v8 v9 = some z → va_P (dC, dI) vwCl (wM cI cB cJ Q B I A) H → va_D AA (wM cI cB cJ Q B I A) → va_S AA s.heap H locs → lv_has ls 12 [(0, .ref (Q 100)), (3, .int v3), (5, .int v5), (6, .int v6), (7, .int v7), (8, .int v8), (9, .int v9)] → W p l e (headSpec wsX9_voice ({ frames := 3, cells := 0, slots := 0, locals := 64 })).room s m (([.ref (Q 100), .int x1, .int x2, .int x3] : List Value).toArray) below meth c H locs 0 0 (MQ below (va_Qi (fun (r : Int32) (u : (Nat → Int32) × (Nat → Nat → Int32)) => (r, u) = z) (atM dC dI cI cB cJ Q B AA) AA) (([.ref (Q 100), .int x1, .int x2, .int x3] : List Value).toArray) s 0 0 AA) (F0 m 109 ls []) := by
    intro n
    induction n with
    | zero => intro I A v3 v5 v6 v7 v8 v9 H locs ls hf hP hD hS hl; exact of_none hf
    | succ n ih109 =>
      intro I A v3 v5 v6 v7 v8 v9 H locs ls hf hP hD hS hl
      change fX9_voice_109B B  (fX9_voice_109 B  n) I A v3 v5 v6 v7 v8 v9 = _ at hf
      unfold fX9_voice_109B at hf
      refine lv_iload hx hb dX9_voice_109 (lv_at hl 6 rfl) ?_
      refine lv_iload_n hx hb dX9_voice_111 rfl (lv_at hl 1 rfl) ?_
      refine lv_icmp_gt (tgt := 182) hx hb dX9_voice_112 (by decide) (fun c15 => ?_) (fun c15 => ?_)
      · have hf := (if_pos c15).symm.trans hf
        refine lv_iload hx hb dX9_voice_182 (lv_at hl 4 rfl) ?_
        refine lv_bipush (v := (-2 : Int32)) hx hb dX9_voice_184 (by decide) ?_
        refine lv_icmp_ne (tgt := 192) hx hb dX9_voice_186 (by decide) (fun c16 => ?_) (fun c16 => ?_)
        · have hf := (if_neg c16).symm.trans hf
          refine lv_aload_n hx hb dX9_voice_192 rfl (lv_at hl 0 rfl) ?_
          refine va_get (D := (dC, dI)) (ci := 6) (v := .ref (Q 34)) (C := RX9) (T := TX9) (N := 36) hx hb hts hinX9 hown hK hP 0 rfl rfl 34 (by decide) hk187 (fun _ h9 => h9) rfl dX9_voice_193 ?_
          refine lv_iconst (v := (0 : Int32)) hx hb dX9_voice_196 (by decide) ?_
          refine lv_iload hx hb dX9_voice_197 (lv_at hl 5 rfl) ?_
          obtain ⟨g17, hf⟩ := of_ite_some hf
          refine va_iast hx hb hK hP hD hS 24 0 (n := 12) (f := (A 34)) rfl rfl g17 dX9_voice_199 (fun H locs hP hD hS => ?_)
          have hP : va_P (dC, dI) vwCl (wM cI cB cJ Q B I (va_up A 34 (upd (A 34) (0 : Int32).toNatClampNeg v8))) H := Eq.mp (congrArg (fun w => va_P (dC, dI) vwCl w H) (wMA_34 cI cB cJ Q B I A (upd (A 34) (0 : Int32).toNatClampNeg v8))) hP
          have hD : va_D AA (wM cI cB cJ Q B I (va_up A 34 (upd (A 34) (0 : Int32).toNatClampNeg v8))) := Eq.mp (congrArg (fun w => va_D AA w) (wMA_34 cI cB cJ Q B I A (upd (A 34) (0 : Int32).toNatClampNeg v8))) hD
          exact sg200  FU I (va_up A 34 (upd (A 34) (0 : Int32).toNatClampNeg v8)) v3 v6 v7 H locs ls hf hP hD hS (lv_sub hl [0, 1, 3, 4] rfl)
        · have hf := (if_pos c16).symm.trans hf
          refine lv_bipush (v := (-2 : Int32)) hx hb dX9_voice_189 (by decide) ?_
          exact W.iret (v := (-2 : Int32)) hx hb hr (fun t ht hW => ⟨⟨(-2 : Int32), (I, A), rfl, Option.some.inj hf, by rw [ht]; exact hP, va_K.moved hW.alike hK, hD⟩, hS.F ht⟩) hS.2.2 dX9_voice_191
      · have hf := (if_neg c15).symm.trans hf
        refine lv_aload_n hx hb dX9_voice_115 rfl (lv_at hl 0 rfl) ?_
        refine va_get (D := (dC, dI)) (ci := 6) (v := .ref (Q 34)) (C := RX9) (T := TX9) (N := 36) hx hb hts hinX9 hown hK hP 0 rfl rfl 34 (by decide) hk187 (fun _ h9 => h9) rfl dX9_voice_116 ?_
        refine lv_iconst (v := (0 : Int32)) hx hb dX9_voice_119 (by decide) ?_
        refine lv_iload hx hb dX9_voice_120 (lv_at hl 6 rfl) ?_
        obtain ⟨g18, hf⟩ := of_ite_some hf
        refine va_iast hx hb hK hP hD hS 24 0 (n := 12) (f := (A 34)) rfl rfl g18 dX9_voice_122 (fun H locs hP hD hS => ?_)
        have hP : va_P (dC, dI) vwCl (wM cI cB cJ Q B I (va_up A 34 (upd (A 34) (0 : Int32).toNatClampNeg v9))) H := Eq.mp (congrArg (fun w => va_P (dC, dI) vwCl w H) (wMA_34 cI cB cJ Q B I A (upd (A 34) (0 : Int32).toNatClampNeg v9))) hP
        have hD : va_D AA (wM cI cB cJ Q B I (va_up A 34 (upd (A 34) (0 : Int32).toNatClampNeg v9))) := Eq.mp (congrArg (fun w => va_D AA w) (wMA_34 cI cB cJ Q B I A (upd (A 34) (0 : Int32).toNatClampNeg v9))) hD
        refine lv_iload hx hb dX9_voice_123 (lv_at hl 6 rfl) ?_
        refine lv_bipush (v := (12 : Int32)) hx hb dX9_voice_125 (by decide) ?_
        refine lv_irem hx hb dX9_voice_127 (by decide) ?_
        refine W.eq (g2 := F0 m 128 ls [.int (jrem v9 (12 : Int32))]) rfl ?_
        refine lv_iload hx hb dX9_voice_128 (lv_at hl 2 rfl) ?_
        refine lv_icmp_ne (tgt := 143) hx hb dX9_voice_130 (by decide) (fun c19 => ?_) (fun c19 => ?_)
        · have hf := (if_neg c19).symm.trans hf
          refine lv_bipush (v := (-2 : Int32)) hx hb dX9_voice_143 (by decide) ?_
          exact sg145 _ ih109 I (va_up A 34 (upd (A 34) (0 : Int32).toNatClampNeg v9)) v3 v5 v6 v7 v8 v9 (-2 : Int32) H locs ls hf hP hD hS (lv_sub hl [0, 1, 2, 3, 4, 5, 6] rfl)
        · have hf := (if_pos c19).symm.trans hf
          refine lv_aload_n hx hb dX9_voice_133 rfl (lv_at hl 0 rfl) ?_
          refine lv_iload hx hb dX9_voice_134 (lv_at hl 3 rfl) ?_
          refine lv_iload_n hx hb dX9_voice_136 rfl (lv_at hl 1 rfl) ?_
          obtain ⟨r20, hc21, hf⟩ := of_bind_some hf
          refine W.callR (r := r20) (W.runV (As := [.int v6, .int v3]) (rest := []) ⟨hx, hb, hml, hown, hts⟩ (mX9_rest l dC dI cI cB cJ Q B I (va_up A 34 (upd (A 34) (0 : Int32).toNatClampNeg v9)) v6 v3 r20 hc21) (cwV 2 hts gX9_voice_X9_rest rfl rfl rfl (by decide +kernel) ⟨Nat.le_of_ble_eq_true rfl, Nat.le_of_ble_eq_true rfl⟩) ⟨blindR, va_recv hK hP (ci := 6) (q0 := 0) rfl rfl, fun U hU hW => ⟨rfl, by rw [hU]; exact hP, va_K.moved hW.alike hK⟩⟩ rfl rfl hl.1 rfl (lv_room (Nat.le_of_ble_eq_true rfl)) dX9_voice_137 ⟨Nat.zero_le _, Nat.zero_le _⟩) ?_
          refine W.eq (g2 := F0 m 140 ls [.int r20]) rfl ?_
          refine lv_goto (tgt := 145) hx hb dX9_voice_140 (by decide) ?_
          exact sg145 _ ih109 I (va_up A 34 (upd (A 34) (0 : Int32).toNatClampNeg v9)) v3 v5 v6 v7 v8 v9 r20 H locs ls hf hP hD hS (lv_sub hl [0, 1, 2, 3, 4, 5, 6] rfl)
  have sg66 : ∀ n : Nat, ∀ (I : Nat → Int32) (A : Nat → Nat → Int32) (v2 : Int32) (v3 : Int32) (v5 : Int32) (v6 : Int32) (v7 : Int32) (H : Heap) (locs : List Loc) (ls : Array Slot), fX9_voice_66 B  n I A v2 v3 v5 v6 v7 = some z → va_P (dC, dI) vwCl (wM cI cB cJ Q B I A) H → va_D AA (wM cI cB cJ Q B I A) → va_S AA s.heap H locs → lv_has ls 12 [(0, .ref (Q 100)), (2, .int v2), (3, .int v3), (5, .int v5), (6, .int v6), (7, .int v7)] → W p l e (headSpec wsX9_voice ({ frames := 3, cells := 0, slots := 0, locals := 64 })).room s m (([.ref (Q 100), .int x1, .int x2, .int x3] : List Value).toArray) below meth c H locs 0 0 (MQ below (va_Qi (fun (r : Int32) (u : (Nat → Int32) × (Nat → Nat → Int32)) => (r, u) = z) (atM dC dI cI cB cJ Q B AA) AA) (([.ref (Q 100), .int x1, .int x2, .int x3] : List Value).toArray) s 0 0 AA) (F0 m 66 ls []) := by
    intro n
    induction n with
    | zero => intro I A v2 v3 v5 v6 v7 H locs ls hf hP hD hS hl; exact of_none hf
    | succ n ih66 =>
      intro I A v2 v3 v5 v6 v7 H locs ls hf hP hD hS hl
      change fX9_voice_66B B  (fX9_voice_66 B  n) I A v2 v3 v5 v6 v7 = _ at hf
      unfold fX9_voice_66B at hf
      refine lv_iload hx hb dX9_voice_66 (lv_at hl 5 rfl) ?_
      refine lv_sipush (v := (128 : Int32)) hx hb dX9_voice_68 (by decide) ?_
      refine lv_icmp_ge (tgt := 93) hx hb dX9_voice_71 (by decide) (fun c11 => ?_) (fun c11 => ?_)
      · have hf := (if_pos c11).symm.trans hf
        refine lv_bipush (v := (-2 : Int32)) hx hb dX9_voice_93 (by decide) ?_
        refine lv_istore (lv' := [(7, .int (-2 : Int32)), (0, .ref (Q 100)), (2, .int v2), (3, .int v3), (5, .int v5), (6, .int v6)]) hx hb dX9_voice_95 hl (by decide) rfl (fun ls hl => ?_)
        refine lv_bipush (v := (-2 : Int32)) hx hb dX9_voice_97 (by decide) ?_
        refine lv_istore (lv' := [(8, .int (-2 : Int32)), (7, .int (-2 : Int32)), (0, .ref (Q 100)), (2, .int v2), (3, .int v3), (5, .int v5), (6, .int v6)]) hx hb dX9_voice_99 hl (by decide) rfl (fun ls hl => ?_)
        refine lv_aload_n hx hb dX9_voice_101 rfl (lv_at hl 2 rfl) ?_
        refine lv_iconst (v := (1 : Int32)) hx hb dX9_voice_102 (by decide) ?_
        refine va_put (D := (dC, dI)) (ci := 6) (v := .int (1 : Int32)) (ty := .int) (C := RX9) (T := TX9) (N := 36) hx hb hts hinX9 tyX9 tyX9_ok nmX9 hown hK hP hD hS 0 (fs := (oM Q I)) rfl rfl 35 (by decide) hk347 (fun _ h9 => h9) rfl (by decide +kernel) rfl rfl (Nat.le_of_ble_eq_true rfl) dX9_voice_103 (fun H locs hP hD hS => ?_)
        have hP : va_P (dC, dI) vwCl (wM cI cB cJ Q B (upd I 35 (1 : Int32)) A) H := Eq.mp (congrArg (fun w => va_P (dC, dI) vwCl w H) (wMI_35 cI cB cJ Q B I A (1 : Int32))) hP
        have hD : va_D AA (wM cI cB cJ Q B (upd I 35 (1 : Int32)) A) := Eq.mp (congrArg (fun w => va_D AA w) (wMI_35 cI cB cJ Q B I A (1 : Int32))) hD
        refine lv_iload_n hx hb dX9_voice_106 rfl (lv_at hl 3 rfl) ?_
        refine lv_istore (lv' := [(9, .int v2), (8, .int (-2 : Int32)), (7, .int (-2 : Int32)), (0, .ref (Q 100)), (2, .int v2), (3, .int v3), (5, .int v5), (6, .int v6)]) hx hb dX9_voice_107 hl (by decide) rfl (fun ls hl => ?_)
        exact sg109  FU (upd I 35 (1 : Int32)) A v3 v5 v6 (-2 : Int32) (-2 : Int32) v2 H locs ls hf hP hD hS (lv_sub hl [3, 5, 6, 7, 2, 1, 0] rfl)
      · have hf := (if_neg c11).symm.trans hf
        refine lv_aload_n hx hb dX9_voice_74 rfl (lv_at hl 0 rfl) ?_
        refine va_get (D := (dC, dI)) (ci := 6) (v := .ref (Q 33)) (C := RX9) (T := TX9) (N := 36) hx hb hts hinX9 hown hK hP 0 rfl rfl 33 (by decide) hk184 (fun _ h9 => h9) rfl dX9_voice_75 ?_
        refine lv_iload hx hb dX9_voice_78 (lv_at hl 5 rfl) ?_
        refine lv_aload_n hx hb dX9_voice_80 rfl (lv_at hl 0 rfl) ?_
        refine lv_iload hx hb dX9_voice_81 (lv_at hl 5 rfl) ?_
        obtain ⟨r12, hc13, hf⟩ := of_bind_some hf
        refine W.callR (r := r12) (W.runV (As := [.int v7]) (rest := [.int v7, .ref (Q 33)]) ⟨hx, hb, hml, hown, hts⟩ (mX9_nearest l dC dI cI cB cJ Q B I A v7 r12 hc13) (cwV 1 hts gX9_voice_X9_nearest rfl rfl rfl (by decide +kernel) ⟨Nat.le_of_ble_eq_true rfl, Nat.le_of_ble_eq_true rfl⟩) ⟨blindR, va_recv hK hP (ci := 6) (q0 := 0) rfl rfl, fun U hU hW => ⟨rfl, by rw [hU]; exact hP, va_K.moved hW.alike hK⟩⟩ rfl rfl hl.1 rfl (lv_room (Nat.le_of_ble_eq_true rfl)) dX9_voice_83 ⟨Nat.zero_le _, Nat.zero_le _⟩) ?_
        refine W.eq (g2 := F0 m 86 ls [.int r12, .int v7, .ref (Q 33)]) rfl ?_
        obtain ⟨g14, hf⟩ := of_ite_some hf
        refine va_iast hx hb hK hP hD hS 23 0 (n := 128) (f := (A 33)) rfl rfl g14 dX9_voice_86 (fun H locs hP hD hS => ?_)
        have hP : va_P (dC, dI) vwCl (wM cI cB cJ Q B I (va_up A 33 (upd (A 33) v7.toNatClampNeg r12))) H := Eq.mp (congrArg (fun w => va_P (dC, dI) vwCl w H) (wMA_33 cI cB cJ Q B I A (upd (A 33) v7.toNatClampNeg r12))) hP
        have hD : va_D AA (wM cI cB cJ Q B I (va_up A 33 (upd (A 33) v7.toNatClampNeg r12))) := Eq.mp (congrArg (fun w => va_D AA w) (wMA_33 cI cB cJ Q B I A (upd (A 33) v7.toNatClampNeg r12))) hD
        refine lv_iinc (v := (v7 + (1 : Int32))) (lv' := [(7, .int (v7 + (1 : Int32))), (0, .ref (Q 100)), (2, .int v2), (3, .int v3), (5, .int v5), (6, .int v6)]) hx hb dX9_voice_87 hl (k := 5) rfl rfl (by decide) rfl (fun ls hl => ?_)
        refine lv_goto (tgt := 66) hx hb dX9_voice_90 (by decide) ?_
        exact ih66 I (va_up A 33 (upd (A 33) v7.toNatClampNeg r12)) v2 v3 v5 v6 (v7 + (1 : Int32)) H locs ls hf hP hD hS (lv_sub hl [1, 2, 3, 4, 5, 0] rfl)
  have hl := lv_entry ([.ref (Q 100), .int x1, .int x2, .int x3]) (n := 12) (Nat.le_of_ble_eq_true rfl)
  rw [lg_entry_eq]
  generalize (lg_sl ([.ref (Q 100), .int x1, .int x2, .int x3]) ++ List.replicate (12 - (lg_sl ([.ref (Q 100), .int x1, .int x2, .int x3])).length) Slot.unset).toArray = ls at hl ⊢
  have hl : lv_has ls 12 [(0, .ref (Q 100)), (1, .int x1), (2, .int x2), (3, .int x3)] := hl
  unfold fX9_voice at hf
  refine lv_aload_n hx hb dX9_voice_0 rfl (lv_at hl 0 rfl) ?_
  refine lv_iload_n hx hb dX9_voice_1 rfl (lv_at hl 1 rfl) ?_
  obtain ⟨r1, hc2, hf⟩ := of_bind_some hf
  refine W.callR (r := r1) (W.runV (As := [.int x1]) (rest := []) ⟨hx, hb, hml, hown, hts⟩ (mX9_isChord l dC dI cI cB cJ Q B I A x1 r1 hc2) (cwV 1 hts gX9_voice_X9_isChord rfl rfl rfl (by decide +kernel) ⟨Nat.le_of_ble_eq_true rfl, Nat.le_of_ble_eq_true rfl⟩) ⟨blindR, va_recv hK hP (ci := 6) (q0 := 0) rfl rfl, fun U hU hW => ⟨rfl, by rw [hU]; exact hP, va_K.moved hW.alike hK⟩⟩ rfl rfl hl.1 rfl (lv_room (Nat.le_of_ble_eq_true rfl)) dX9_voice_2 ⟨Nat.zero_le _, Nat.zero_le _⟩) ?_
  refine W.eq (g2 := F0 m 5 ls [.int r1]) rfl ?_
  refine lv_if_eq (tgt := 36) hx hb dX9_voice_5 (by decide) (fun c3 => ?_) (fun c3 => ?_)
  · have hf := (if_pos c3).symm.trans hf
    refine lv_iconst (v := (-1 : Int32)) hx hb dX9_voice_36 (by decide) ?_
    exact W.iret (v := (-1 : Int32)) hx hb hr (fun t ht hW => ⟨⟨(-1 : Int32), (I, A), rfl, Option.some.inj hf, by rw [ht]; exact hP, va_K.moved hW.alike hK, hD⟩, hS.F ht⟩) hS.2.2 dX9_voice_37
  · have hf := (if_neg c3).symm.trans hf
    refine lv_iload_n hx hb dX9_voice_8 rfl (lv_at hl 2 rfl) ?_
    refine lv_iconst (v := (0 : Int32)) hx hb dX9_voice_9 (by decide) ?_
    refine lv_bipush (v := (127 : Int32)) hx hb dX9_voice_10 (by decide) ?_
    refine W.callR (r := (fX9_isIn x2 (0 : Int32) (127 : Int32))) (W.runS (As := [.int x2, .int (0 : Int32), .int (127 : Int32)]) (rest := []) ⟨hx, hb, hml, hown, hts⟩ (mX9_isIn l x2 (0 : Int32) (127 : Int32) (fX9_isIn x2 (0 : Int32) (127 : Int32)) rfl) (va_cwS 3 hts gX9_voice_X9_isIn rfl rfl rfl (by decide +kernel) ⟨Nat.le_of_ble_eq_true rfl, Nat.le_of_ble_eq_true rfl⟩) ⟨fun _ _ _ _ q => q, fun U hU hW => ⟨rfl, trivial⟩⟩ rfl rfl hl.1 rfl (lv_room (Nat.le_of_ble_eq_true rfl)) dX9_voice_12 ⟨Nat.zero_le _, Nat.zero_le _⟩) ?_
    refine W.eq (g2 := F0 m 15 ls [.int (fX9_isIn x2 (0 : Int32) (127 : Int32))]) rfl ?_
    refine lv_if_eq (tgt := 36) hx hb dX9_voice_15 (by decide) (fun c4 => ?_) (fun c4 => ?_)
    · have hf := (if_pos c4).symm.trans hf
      refine lv_iconst (v := (-1 : Int32)) hx hb dX9_voice_36 (by decide) ?_
      exact W.iret (v := (-1 : Int32)) hx hb hr (fun t ht hW => ⟨⟨(-1 : Int32), (I, A), rfl, Option.some.inj hf, by rw [ht]; exact hP, va_K.moved hW.alike hK, hD⟩, hS.F ht⟩) hS.2.2 dX9_voice_37
    · have hf := (if_neg c4).symm.trans hf
      refine lv_iload_n hx hb dX9_voice_18 rfl (lv_at hl 3 rfl) ?_
      refine lv_iload_n hx hb dX9_voice_19 rfl (lv_at hl 2 rfl) ?_
      refine lv_bipush (v := (127 : Int32)) hx hb dX9_voice_20 (by decide) ?_
      refine W.callR (r := (fX9_isIn x3 x2 (127 : Int32))) (W.runS (As := [.int x3, .int x2, .int (127 : Int32)]) (rest := []) ⟨hx, hb, hml, hown, hts⟩ (mX9_isIn l x3 x2 (127 : Int32) (fX9_isIn x3 x2 (127 : Int32)) rfl) (va_cwS 3 hts gX9_voice_X9_isIn rfl rfl rfl (by decide +kernel) ⟨Nat.le_of_ble_eq_true rfl, Nat.le_of_ble_eq_true rfl⟩) ⟨fun _ _ _ _ q => q, fun U hU hW => ⟨rfl, trivial⟩⟩ rfl rfl hl.1 rfl (lv_room (Nat.le_of_ble_eq_true rfl)) dX9_voice_22 ⟨Nat.zero_le _, Nat.zero_le _⟩) ?_
      refine W.eq (g2 := F0 m 25 ls [.int (fX9_isIn x3 x2 (127 : Int32))]) rfl ?_
      refine lv_if_eq (tgt := 36) hx hb dX9_voice_25 (by decide) (fun c5 => ?_) (fun c5 => ?_)
      · have hf := (if_pos c5).symm.trans hf
        refine lv_iconst (v := (-1 : Int32)) hx hb dX9_voice_36 (by decide) ?_
        exact W.iret (v := (-1 : Int32)) hx hb hr (fun t ht hW => ⟨⟨(-1 : Int32), (I, A), rfl, Option.some.inj hf, by rw [ht]; exact hP, va_K.moved hW.alike hK, hD⟩, hS.F ht⟩) hS.2.2 dX9_voice_37
      · have hf := (if_neg c5).symm.trans hf
        refine lv_iload_n hx hb dX9_voice_28 rfl (lv_at hl 3 rfl) ?_
        refine lv_iload_n hx hb dX9_voice_29 rfl (lv_at hl 2 rfl) ?_
        refine lv_isub hx hb dX9_voice_30 ?_
        refine lv_bipush (v := (36 : Int32)) hx hb dX9_voice_31 (by decide) ?_
        refine lv_icmp_le (tgt := 38) hx hb dX9_voice_33 (by decide) (fun c6 => ?_) (fun c6 => ?_)
        · have hf := (if_pos c6).symm.trans hf
          refine lv_aload_n hx hb dX9_voice_38 rfl (lv_at hl 0 rfl) ?_
          refine lv_iload_n hx hb dX9_voice_39 rfl (lv_at hl 1 rfl) ?_
          obtain ⟨r7, hc8, hf⟩ := of_bind_some hf
          refine W.callR (r := r7) (W.runV (As := [.int x1]) (rest := []) ⟨hx, hb, hml, hown, hts⟩ (mX9_setOf l dC dI cI cB cJ Q B I A x1 r7 hc8) (cwV 1 hts gX9_voice_X9_setOf rfl rfl rfl (by decide +kernel) ⟨Nat.le_of_ble_eq_true rfl, Nat.le_of_ble_eq_true rfl⟩) ⟨blindR, va_recv hK hP (ci := 6) (q0 := 0) rfl rfl, fun U hU hW => ⟨rfl, by rw [hU]; exact hP, va_K.moved hW.alike hK⟩⟩ rfl rfl hl.1 rfl (lv_room (Nat.le_of_ble_eq_true rfl)) dX9_voice_40 ⟨Nat.zero_le _, Nat.zero_le _⟩) ?_
          refine W.eq (g2 := F0 m 43 ls [.int r7]) rfl ?_
          refine lv_istore (lv' := [(4, .int r7), (0, .ref (Q 100)), (1, .int x1), (2, .int x2), (3, .int x3)]) hx hb dX9_voice_43 hl (by decide) rfl (fun ls hl => ?_)
          refine lv_aload_n hx hb dX9_voice_45 rfl (lv_at hl 1 rfl) ?_
          refine lv_iload_n hx hb dX9_voice_46 rfl (lv_at hl 2 rfl) ?_
          obtain ⟨r9, hc10, hf⟩ := of_bind_some hf
          refine W.callR (r := r9) (W.runV (As := [.int x1]) (rest := []) ⟨hx, hb, hml, hown, hts⟩ (mX9_bassOf l dC dI cI cB cJ Q B I A x1 r9 hc10) (cwV 1 hts gX9_voice_X9_bassOf rfl rfl rfl (by decide +kernel) ⟨Nat.le_of_ble_eq_true rfl, Nat.le_of_ble_eq_true rfl⟩) ⟨blindR, va_recv hK hP (ci := 6) (q0 := 0) rfl rfl, fun U hU hW => ⟨rfl, by rw [hU]; exact hP, va_K.moved hW.alike hK⟩⟩ rfl rfl hl.1 rfl (lv_room (Nat.le_of_ble_eq_true rfl)) dX9_voice_47 ⟨Nat.zero_le _, Nat.zero_le _⟩) ?_
          refine W.eq (g2 := F0 m 50 ls [.int r9]) rfl ?_
          refine lv_istore (lv' := [(5, .int r9), (4, .int r7), (0, .ref (Q 100)), (1, .int x1), (2, .int x2), (3, .int x3)]) hx hb dX9_voice_50 hl (by decide) rfl (fun ls hl => ?_)
          refine lv_iload hx hb dX9_voice_52 (lv_at hl 1 rfl) ?_
          refine lv_iconst (v := (1 : Int32)) hx hb dX9_voice_54 (by decide) ?_
          refine lv_iload hx hb dX9_voice_55 (lv_at hl 0 rfl) ?_
          refine lv_ishl hx hb dX9_voice_57 ?_
          refine lv_iconst (v := (-1 : Int32)) hx hb dX9_voice_58 (by decide) ?_
          refine lv_ixor hx hb dX9_voice_59 ?_
          refine lv_iand hx hb dX9_voice_60 ?_
          refine lv_istore (lv' := [(6, .int (r7 &&& (((1 : Int32) <<< (r9 &&& 31)) ^^^ (-1 : Int32)))), (5, .int r9), (4, .int r7), (0, .ref (Q 100)), (1, .int x1), (2, .int x2), (3, .int x3)]) hx hb dX9_voice_61 hl (by decide) rfl (fun ls hl => ?_)
          refine lv_iconst (v := (0 : Int32)) hx hb dX9_voice_63 (by decide) ?_
          refine lv_istore (lv' := [(7, .int (0 : Int32)), (6, .int (r7 &&& (((1 : Int32) <<< (r9 &&& 31)) ^^^ (-1 : Int32)))), (5, .int r9), (4, .int r7), (0, .ref (Q 100)), (1, .int x1), (2, .int x2), (3, .int x3)]) hx hb dX9_voice_64 hl (by decide) rfl (fun ls hl => ?_)
          exact sg66  FU I A x2 x3 r9 (r7 &&& (((1 : Int32) <<< (r9 &&& 31)) ^^^ (-1 : Int32))) (0 : Int32) s.heap [] ls hf hP hD hS (lv_sub hl [4, 6, 7, 2, 1, 0] rfl)
        · have hf := (if_neg c6).symm.trans hf
          refine lv_iconst (v := (-1 : Int32)) hx hb dX9_voice_36 (by decide) ?_
          exact W.iret (v := (-1 : Int32)) hx hb hr (fun t ht hW => ⟨⟨(-1 : Int32), (I, A), rfl, Option.some.inj hf, by rw [ht]; exact hP, va_K.moved hW.alike hK, hD⟩, hS.F ht⟩) hS.2.2 dX9_voice_37
def fX9_figure_344 (B : Nat → Nat → Int64)  (I : Nat → Int32) (A : Nat → Nat → Int32) (v6 : Int32) : Option (Int32 × (Nat → Int32) × (Nat → Nat → Int32)) :=
  (if v6 ≤ 0 then (some ((I 8), (I, A))) else ((fX9_shows B I A ((48 : Int32) + (jrem v6 (10 : Int32)))).bind fun (I84, A85) => (some ((I84 8), (I84, A85)))))
def fX9_figure_323 (B : Nat → Nat → Int64)  (I : Nat → Int32) (A : Nat → Nat → Int32) (t0 : Int32) : Option (Int32 × (Nat → Int32) × (Nat → Nat → Int32)) :=
  (if t0 ≤ (9 : Int32) then (fX9_figure_344 B  I A t0) else ((fX9_shows B I A ((48 : Int32) + (t0 / (10 : Int32)))).bind fun (I79, A80) => (fX9_figure_344 B  I79 A80 t0)))
def fX9_figure_257 (B : Nat → Nat → Int64)  (I : Nat → Int32) (A : Nat → Nat → Int32) (v4 : Int32) (v5 : Int32) : Option (Int32 × (Nat → Int32) × (Nat → Nat → Int32)) :=
  (if v4 = 0 then (if v5 = (3 : Int32) then (fX9_figure_323 B  I A (6 : Int32)) else (if v5 = (5 : Int32) then (fX9_figure_323 B  I A (64 : Int32)) else (fX9_figure_323 B  I A (0 : Int32)))) else (if v5 = (1 : Int32) then (fX9_figure_323 B  I A (7 : Int32)) else (if v5 = (3 : Int32) then (fX9_figure_323 B  I A (65 : Int32)) else (if v5 = (5 : Int32) then (fX9_figure_323 B  I A (43 : Int32)) else (fX9_figure_323 B  I A (42 : Int32))))))
def fX9_figure_375 (B : Nat → Nat → Int64)  (I : Nat → Int32) (A : Nat → Nat → Int32) (v1 : Int32) (v2 : Int32) : Option (Int32 × (Nat → Int32) × (Nat → Nat → Int32)) :=
  ((fX9_shows B I A (47 : Int32)).bind fun (I61, A62) => ((fX9_bassOf B I61 A62 v1).bind fun r64 => ((fX9_showsNumeral B I61 A62 (fX9_mod12 (r64 - v2)) (0 : Int32)).bind fun (I67, A68) => (some ((I67 8), (I67, A68))))))
def fX9_figure_175 (B : Nat → Nat → Int64) (k146 : (Nat → Int32) → (Nat → Nat → Int32) → Int32 → Int32 → Int32 → Int32 → Int32 → Option (Int32 × (Nat → Int32) × (Nat → Nat → Int32))) (I : Nat → Int32) (A : Nat → Nat → Int32) (v1 : Int32) (v2 : Int32) (v5 : Int32) (v6 : Int32) (t0 : Int32) (t1 : Int32) : Option (Int32 × (Nat → Int32) × (Nat → Nat → Int32)) :=
  ((fX9_rootOf B I A v1).bind fun r70 => (if gd (((16 : Int32) * v1) + v6) 1600 then ((fX9_bassOf B I A v1).bind fun r73 => (if (jrem (r70 + ((A 3) (((16 : Int32) * v1) + v6).toNatClampNeg)) (12 : Int32)) = r73 then (if gd (((16 : Int32) * v1) + v6) 1600 then (k146 I A v1 v2 (t1 ||| t0) ((A 4) (((16 : Int32) * v1) + v6).toNatClampNeg) (v6 + (-1 : Int32))) else none) else (k146 I A v1 v2 (t1 ||| t0) v5 (v6 + (-1 : Int32))))) else none))
def fX9_figure_146B (B : Nat → Nat → Int64)  (k146 : (Nat → Int32) → (Nat → Nat → Int32) → Int32 → Int32 → Int32 → Int32 → Int32 → Option (Int32 × (Nat → Int32) × (Nat → Nat → Int32))) (I : Nat → Int32) (A : Nat → Nat → Int32) (v1 : Int32) (v2 : Int32) (v4 : Int32) (v5 : Int32) (v6 : Int32) : Option (Int32 × (Nat → Int32) × (Nat → Nat → Int32)) :=
  (if v6 < 0 then (if v5 = (1 : Int32) then (fX9_figure_257 B  I A v4 v5) else (if v5 = (3 : Int32) then (fX9_figure_257 B  I A v4 v5) else (if v5 = (5 : Int32) then (fX9_figure_257 B  I A v4 v5) else (if v5 = (7 : Int32) then (fX9_figure_257 B  I A v4 v5) else (if v4 = 0 then (fX9_figure_375 B  I A v1 v2) else ((fX9_shows B I A (55 : Int32)).bind fun (I49, A50) => (fX9_figure_375 B  I49 A50 v1 v2))))))) else (if gd (((16 : Int32) * v1) + v6) 1600 then (if ((A 4) (((16 : Int32) * v1) + v6).toNatClampNeg) = (7 : Int32) then (fX9_figure_175 B k146 I A v1 v2 v5 v6 (1 : Int32) v4) else (fX9_figure_175 B k146 I A v1 v2 v5 v6 (0 : Int32) v4)) else none))
def fX9_figure_146 (B : Nat → Nat → Int64)  : Nat → ((Nat → Int32) → (Nat → Nat → Int32) → Int32 → Int32 → Int32 → Int32 → Int32 → Option (Int32 × (Nat → Int32) × (Nat → Nat → Int32)))
  | 0 => fun _ _ _ _ _ _ _ => none
  | n + 1 => fX9_figure_146B B  (fX9_figure_146 B  n)
def fX9_figure_129 (B : Nat → Nat → Int64)  (I : Nat → Int32) (A : Nat → Nat → Int32) (v1 : Int32) (v2 : Int32) : Option (Int32 × (Nat → Int32) × (Nat → Nat → Int32)) :=
  (if gd v1 100 then (fX9_figure_146 B  FU I A v1 v2 (0 : Int32) (-2 : Int32) (((A 5) v1.toNatClampNeg) - (1 : Int32))) else none)
def fX9_figure_94 (B : Nat → Nat → Int64)  (I : Nat → Int32) (A : Nat → Nat → Int32) (v1 : Int32) (v2 : Int32) : Option (Int32 × (Nat → Int32) × (Nat → Nat → Int32)) :=
  ((fX9_hasHalf B I A v1 (4 : Int32)).bind fun r28 => (if r28 = 0 then (fX9_figure_129 B  I A v1 v2) else ((fX9_hasHalf B I A v1 (8 : Int32)).bind fun r31 => (if r31 = 0 then (fX9_figure_129 B  I A v1 v2) else ((fX9_hasHalf B I A v1 (7 : Int32)).bind fun r34 => (if r34 = 0 then ((fX9_shows B I A (43 : Int32)).bind fun (I38, A39) => (fX9_figure_129 B  I38 A39 v1 v2)) else (fX9_figure_129 B  I A v1 v2)))))))
def fX9_figure_61 (B : Nat → Nat → Int64)  (I : Nat → Int32) (A : Nat → Nat → Int32) (v1 : Int32) (v2 : Int32) (v3 : Int32) (t0 : Int32) (t1 : Int32) : Option (Int32 × (Nat → Int32) × (Nat → Nat → Int32)) :=
  ((fX9_showsNumeral B I A t1 t0).bind fun (I14, A15) => (if v3 = 0 then (fX9_figure_94 B  I14 A15 v1 v2) else ((fX9_hasHalf B I14 A15 v1 (6 : Int32)).bind fun r18 => (if r18 = 0 then (fX9_figure_94 B  I14 A15 v1 v2) else ((fX9_hasHalf B I14 A15 v1 (7 : Int32)).bind fun r21 => (if r21 = 0 then ((fX9_shows B I14 A15 (111 : Int32)).bind fun (I25, A26) => (fX9_figure_94 B  I25 A26 v1 v2)) else (fX9_figure_94 B  I14 A15 v1 v2)))))))
def fX9_figure (B : Nat → Nat → Int64) (I : Nat → Int32) (A : Nat → Nat → Int32) (x1 : Int32) (x2 : Int32) : Option (Int32 × (Nat → Int32) × (Nat → Nat → Int32)) :=
  ((fX9_isChord B I A x1).bind fun r1 => (if r1 = 0 then (some ((-1 : Int32), (I, A))) else (if (fX9_isIn x2 (0 : Int32) (11 : Int32)) = 0 then (some ((-1 : Int32), (I, A))) else ((fX9_hasHalf B (upd I 8 (0 : Int32)) A x1 (3 : Int32)).bind fun r5 => ((fX9_rootOf B (upd I 8 (0 : Int32)) A x1).bind fun r7 => (if r5 = 0 then (fX9_figure_61 B  (upd I 8 (0 : Int32)) A x1 x2 r5 (0 : Int32) (fX9_mod12 (r7 - x2))) else ((fX9_hasHalf B (upd I 8 (0 : Int32)) A x1 (4 : Int32)).bind fun r10 => (if r10 = 0 then (fX9_figure_61 B  (upd I 8 (0 : Int32)) A x1 x2 r5 (1 : Int32) (fX9_mod12 (r7 - x2))) else (fX9_figure_61 B  (upd I 8 (0 : Int32)) A x1 x2 r5 (0 : Int32) (fX9_mod12 (r7 - x2)))))))))))
set_option maxRecDepth 100000 in
set_option maxHeartbeats 4000000 in
theorem mX9_figure (l : Launch) (dC : Nat → ClassId) (dI : Nat → Nat → Nat) (cI cB cJ : ClassId) (Q : Nat → Nat) (B : Nat → Nat → Int64) (I : Nat → Int32) (A : Nat → Nat → Int32) (x1 : Int32) (x2 : Int32) (sz : Nat) (z : Int32 × (Nat → Int32) × (Nat → Nat → Int32)) (hf : fX9_figure B I A x1 x2 = some z) : Met l yX9_figure wsX9_figure ({ frames := 3, cells := 0, slots := 0, locals := 69 }) (va_Pc [.ref (Q 100), .int x1, .int x2] (fun U => U.heap.size = sz ∧ va_P (dC, dI) vwCl (wM cI cB cJ Q B I A) U.heap ∧ va_K (dC, dI) vwCl (tM cI cB cJ) U ∧ va_D (fun _ => True) (wM cI cB cJ Q B I A))) (va_Qi (fun (r : Int32) (u : (Nat → Int32) × (Nat → Nat → Int32)) => (r, u) = z) (atM dC dI cI cB cJ Q B (va_A (wM cI cB cJ Q B I A) sz)) (va_A (wM cI cB cJ Q B I A) sz)) 0 0 (va_A (wM cI cB cJ Q B I A) sz) := by
  refine Met.ofW (cc := cX9_figure) (maxL := 7) (ret := (some .int)) (by decide) rfl ?_
  intro p e s m args below meth c s₁ BL hml hv
  obtain ⟨rfl, hsz, hP, hK, hD0⟩ := hv
  have hx := BL.exec
  have hb := BL.bytes
  have hr := BL.returns
  have hts := atoms_spec (ws := wsX9_figure) BL.pre
  have hown : s.vm.findClass RX9 = some m.cls := findClass_of_methodNamed BL.named
  have hlocks := BL.notSynchronized
  have hinX9 : ∀ w ∈ u_ws RX9 TX9 36, w ∈ wsX9_figure := by decide +kernel
  have hk17 := hts (.fieldLink RX9 17 "LeadSheetsModel" "halves" "[I") (by decide +kernel)
  have hk20 := hts (.fieldLink RX9 20 "LeadSheetsModel" "degrees" "[I") (by decide +kernel)
  have hk23 := hts (.fieldLink RX9 23 "LeadSheetsModel" "stepMany" "[I") (by decide +kernel)
  have hk304 := hts (.fieldLink RX9 304 "LeadSheetsModel" "shownMany" "I") (by decide +kernel)
  subst hsz
  have hD := hD0.self (sz := s.heap.size)
  generalize hAe : va_A (wM cI cB cJ Q B I A) s.heap.size = AA at hD ⊢
  have hA : ∀ q : Nat, s.heap.size ≤ q → AA q := fun q h => by rw [← hAe]; exact Or.inr h
  have hS : va_S AA s.heap s.heap [] := va_S.rf
  have sg344 : ∀ (I : Nat → Int32) (A : Nat → Nat → Int32) (v6 : Int32) (H : Heap) (locs : List Loc) (ls : Array Slot), fX9_figure_344 B  I A v6 = some z → va_P (dC, dI) vwCl (wM cI cB cJ Q B I A) H → va_D AA (wM cI cB cJ Q B I A) → va_S AA s.heap H locs → lv_has ls 7 [(0, .ref (Q 100)), (6, .int v6)] → W p l e (headSpec wsX9_figure ({ frames := 3, cells := 0, slots := 0, locals := 69 })).room s m (([.ref (Q 100), .int x1, .int x2] : List Value).toArray) below meth c H locs 0 0 (MQ below (va_Qi (fun (r : Int32) (u : (Nat → Int32) × (Nat → Nat → Int32)) => (r, u) = z) (atM dC dI cI cB cJ Q B AA) AA) (([.ref (Q 100), .int x1, .int x2] : List Value).toArray) s 0 0 AA) (F0 m 344 ls []) := by
    intro I A v6 H locs ls hf hP hD hS hl
    unfold fX9_figure_344 at hf
    refine lv_iload hx hb dX9_figure_344 (lv_at hl 1 rfl) ?_
    refine lv_if_le (tgt := 361) hx hb dX9_figure_346 (by decide) (fun c82 => ?_) (fun c82 => ?_)
    · have hf := (if_pos c82).symm.trans hf
      refine lv_goto (tgt := 396) hx hb dX9_figure_361 (by decide) ?_
      refine lv_aload_n hx hb dX9_figure_396 rfl (lv_at hl 0 rfl) ?_
      refine va_get (D := (dC, dI)) (ci := 6) (v := .int (I 8)) (C := RX9) (T := TX9) (N := 36) hx hb hts hinX9 hown hK hP 0 rfl rfl 8 (by decide) hk304 (fun _ h9 => h9) rfl dX9_figure_397 ?_
      exact W.iret (v := (I 8)) hx hb hr (fun t ht hW => ⟨⟨(I 8), (I, A), rfl, Option.some.inj hf, by rw [ht]; exact hP, va_K.moved hW.alike hK, hD⟩, hS.F ht⟩) hS.2.2 dX9_figure_400
    · have hf := (if_neg c82).symm.trans hf
      refine lv_aload_n hx hb dX9_figure_349 rfl (lv_at hl 0 rfl) ?_
      refine lv_bipush (v := (48 : Int32)) hx hb dX9_figure_350 (by decide) ?_
      refine lv_iload hx hb dX9_figure_352 (lv_at hl 1 rfl) ?_
      refine lv_bipush (v := (10 : Int32)) hx hb dX9_figure_354 (by decide) ?_
      refine lv_irem hx hb dX9_figure_356 (by decide) ?_
      refine W.eq (g2 := F0 m 357 ls [.int (jrem v6 (10 : Int32)), .int (48 : Int32), .ref (Q 100)]) rfl ?_
      refine lv_iadd hx hb dX9_figure_357 ?_
      obtain ⟨⟨I84, A85⟩, hc83, hf⟩ := of_bind_some hf
      have hF86 := va_freeAll hD hS hA
      refine va_callv (va_runV (As := [.int ((48 : Int32) + (jrem v6 (10 : Int32)))]) (rest := []) ⟨hx, hb, hml, hown, hts⟩ (mX9_shows l dC dI cI cB cJ Q B I A ((48 : Int32) + (jrem v6 (10 : Int32))) H.size _ hc83) (cwV 1 hts gX9_figure_X9_shows rfl rfl rfl (by decide +kernel) ⟨Nat.le_of_ble_eq_true rfl, Nat.le_of_ble_eq_true rfl⟩) ⟨blindW, va_recv hK hP (ci := 6) (q0 := 0) rfl rfl, fun U hU hW => ⟨rfl, by rw [hU], by rw [hU]; exact hP, va_K.moved hW.alike hK, hD.weaken (fun _ _ _ _ => trivial)⟩⟩ rfl rfl hl.1 rfl (lv_room (Nat.le_of_ble_eq_true rfl)) dX9_figure_358 ⟨Nat.zero_le _, Nat.zero_le _⟩) hS (fun q _ h => hF86 q h) hF86 (fun u t H locs ht hvm hw hB hz1 hk1 hS => ?_)
      cases hw
      obtain ⟨hP, hK9, hD⟩ := hB
      rw [ht] at hP
      have hP : va_P (dC, dI) vwCl (wM cI cB cJ Q B I84 A85) H := hP
      have hD : va_D AA (wM cI cB cJ Q B I84 A85) := hD.weaken (fun _ _ _ h => hF86 _ h)
      refine lv_goto (tgt := 396) hx hb dX9_figure_361 (by decide) ?_
      refine lv_aload_n hx hb dX9_figure_396 rfl (lv_at hl 0 rfl) ?_
      refine va_get (D := (dC, dI)) (ci := 6) (v := .int (I84 8)) (C := RX9) (T := TX9) (N := 36) hx hb hts hinX9 hown hK hP 0 rfl rfl 8 (by decide) hk304 (fun _ h9 => h9) rfl dX9_figure_397 ?_
      exact W.iret (v := (I84 8)) hx hb hr (fun t ht hW => ⟨⟨(I84 8), (I84, A85), rfl, Option.some.inj hf, by rw [ht]; exact hP, va_K.moved hW.alike hK, hD⟩, hS.F ht⟩) hS.2.2 dX9_figure_400
  have sg323 : ∀ (I : Nat → Int32) (A : Nat → Nat → Int32) (t0 : Int32) (H : Heap) (locs : List Loc) (ls : Array Slot), fX9_figure_323 B  I A t0 = some z → va_P (dC, dI) vwCl (wM cI cB cJ Q B I A) H → va_D AA (wM cI cB cJ Q B I A) → va_S AA s.heap H locs → lv_has ls 7 [(0, .ref (Q 100))] → W p l e (headSpec wsX9_figure ({ frames := 3, cells := 0, slots := 0, locals := 69 })).room s m (([.ref (Q 100), .int x1, .int x2] : List Value).toArray) below meth c H locs 0 0 (MQ below (va_Qi (fun (r : Int32) (u : (Nat → Int32) × (Nat → Nat → Int32)) => (r, u) = z) (atM dC dI cI cB cJ Q B AA) AA) (([.ref (Q 100), .int x1, .int x2] : List Value).toArray) s 0 0 AA) (F0 m 323 ls [.int t0]) := by
    intro I A t0 H locs ls hf hP hD hS hl
    unfold fX9_figure_323 at hf
    refine lv_istore (lv' := [(6, .int t0), (0, .ref (Q 100))]) hx hb dX9_figure_323 hl (by decide) rfl (fun ls hl => ?_)
    refine lv_iload hx hb dX9_figure_325 (lv_at hl 0 rfl) ?_
    refine lv_bipush (v := (9 : Int32)) hx hb dX9_figure_327 (by decide) ?_
    refine lv_icmp_le (tgt := 344) hx hb dX9_figure_329 (by decide) (fun c77 => ?_) (fun c77 => ?_)
    · have hf := (if_pos c77).symm.trans hf
      exact sg344  I A t0 H locs ls hf hP hD hS (lv_sub hl [1, 0] rfl)
    · have hf := (if_neg c77).symm.trans hf
      refine lv_aload_n hx hb dX9_figure_332 rfl (lv_at hl 1 rfl) ?_
      refine lv_bipush (v := (48 : Int32)) hx hb dX9_figure_333 (by decide) ?_
      refine lv_iload hx hb dX9_figure_335 (lv_at hl 0 rfl) ?_
      refine lv_bipush (v := (10 : Int32)) hx hb dX9_figure_337 (by decide) ?_
      refine lv_idiv hx hb dX9_figure_339 (by decide) ?_
      refine lv_iadd hx hb dX9_figure_340 ?_
      obtain ⟨⟨I79, A80⟩, hc78, hf⟩ := of_bind_some hf
      have hF81 := va_freeAll hD hS hA
      refine va_callv (va_runV (As := [.int ((48 : Int32) + (t0 / (10 : Int32)))]) (rest := []) ⟨hx, hb, hml, hown, hts⟩ (mX9_shows l dC dI cI cB cJ Q B I A ((48 : Int32) + (t0 / (10 : Int32))) H.size _ hc78) (cwV 1 hts gX9_figure_X9_shows rfl rfl rfl (by decide +kernel) ⟨Nat.le_of_ble_eq_true rfl, Nat.le_of_ble_eq_true rfl⟩) ⟨blindW, va_recv hK hP (ci := 6) (q0 := 0) rfl rfl, fun U hU hW => ⟨rfl, by rw [hU], by rw [hU]; exact hP, va_K.moved hW.alike hK, hD.weaken (fun _ _ _ _ => trivial)⟩⟩ rfl rfl hl.1 rfl (lv_room (Nat.le_of_ble_eq_true rfl)) dX9_figure_341 ⟨Nat.zero_le _, Nat.zero_le _⟩) hS (fun q _ h => hF81 q h) hF81 (fun u t H locs ht hvm hw hB hz1 hk1 hS => ?_)
      cases hw
      obtain ⟨hP, hK9, hD⟩ := hB
      rw [ht] at hP
      have hP : va_P (dC, dI) vwCl (wM cI cB cJ Q B I79 A80) H := hP
      have hD : va_D AA (wM cI cB cJ Q B I79 A80) := hD.weaken (fun _ _ _ h => hF81 _ h)
      exact sg344  I79 A80 t0 H locs ls hf hP hD hS (lv_sub hl [1, 0] rfl)
  have sg257 : ∀ (I : Nat → Int32) (A : Nat → Nat → Int32) (v4 : Int32) (v5 : Int32) (H : Heap) (locs : List Loc) (ls : Array Slot), fX9_figure_257 B  I A v4 v5 = some z → va_P (dC, dI) vwCl (wM cI cB cJ Q B I A) H → va_D AA (wM cI cB cJ Q B I A) → va_S AA s.heap H locs → lv_has ls 7 [(0, .ref (Q 100)), (4, .int v4), (5, .int v5)] → W p l e (headSpec wsX9_figure ({ frames := 3, cells := 0, slots := 0, locals := 69 })).room s m (([.ref (Q 100), .int x1, .int x2] : List Value).toArray) below meth c H locs 0 0 (MQ below (va_Qi (fun (r : Int32) (u : (Nat → Int32) × (Nat → Nat → Int32)) => (r, u) = z) (atM dC dI cI cB cJ Q B AA) AA) (([.ref (Q 100), .int x1, .int x2] : List Value).toArray) s 0 0 AA) (F0 m 257 ls []) := by
    intro I A v4 v5 H locs ls hf hP hD hS hl
    unfold fX9_figure_257 at hf
    refine lv_iload hx hb dX9_figure_257 (lv_at hl 1 rfl) ?_
    refine lv_if_eq (tgt := 300) hx hb dX9_figure_259 (by decide) (fun c54 => ?_) (fun c54 => ?_)
    · have hf := (if_pos c54).symm.trans hf
      refine lv_iload hx hb dX9_figure_300 (lv_at hl 2 rfl) ?_
      refine lv_iconst (v := (3 : Int32)) hx hb dX9_figure_302 (by decide) ?_
      refine lv_icmp_ne (tgt := 311) hx hb dX9_figure_303 (by decide) (fun c55 => ?_) (fun c55 => ?_)
      · have hf := (if_neg c55).symm.trans hf
        refine lv_iload hx hb dX9_figure_311 (lv_at hl 2 rfl) ?_
        refine lv_iconst (v := (5 : Int32)) hx hb dX9_figure_313 (by decide) ?_
        refine lv_icmp_ne (tgt := 322) hx hb dX9_figure_314 (by decide) (fun c56 => ?_) (fun c56 => ?_)
        · have hf := (if_neg c56).symm.trans hf
          refine lv_iconst (v := (0 : Int32)) hx hb dX9_figure_322 (by decide) ?_
          exact sg323  I A (0 : Int32) H locs ls hf hP hD hS (lv_sub hl [0] rfl)
        · have hf := (if_pos c56).symm.trans hf
          refine lv_bipush (v := (64 : Int32)) hx hb dX9_figure_317 (by decide) ?_
          refine lv_goto (tgt := 323) hx hb dX9_figure_319 (by decide) ?_
          exact sg323  I A (64 : Int32) H locs ls hf hP hD hS (lv_sub hl [0] rfl)
      · have hf := (if_pos c55).symm.trans hf
        refine lv_bipush (v := (6 : Int32)) hx hb dX9_figure_306 (by decide) ?_
        refine lv_goto (tgt := 323) hx hb dX9_figure_308 (by decide) ?_
        exact sg323  I A (6 : Int32) H locs ls hf hP hD hS (lv_sub hl [0] rfl)
    · have hf := (if_neg c54).symm.trans hf
      refine lv_iload hx hb dX9_figure_262 (lv_at hl 2 rfl) ?_
      refine lv_iconst (v := (1 : Int32)) hx hb dX9_figure_264 (by decide) ?_
      refine lv_icmp_ne (tgt := 273) hx hb dX9_figure_265 (by decide) (fun c57 => ?_) (fun c57 => ?_)
      · have hf := (if_neg c57).symm.trans hf
        refine lv_iload hx hb dX9_figure_273 (lv_at hl 2 rfl) ?_
        refine lv_iconst (v := (3 : Int32)) hx hb dX9_figure_275 (by decide) ?_
        refine lv_icmp_ne (tgt := 284) hx hb dX9_figure_276 (by decide) (fun c58 => ?_) (fun c58 => ?_)
        · have hf := (if_neg c58).symm.trans hf
          refine lv_iload hx hb dX9_figure_284 (lv_at hl 2 rfl) ?_
          refine lv_iconst (v := (5 : Int32)) hx hb dX9_figure_286 (by decide) ?_
          refine lv_icmp_ne (tgt := 295) hx hb dX9_figure_287 (by decide) (fun c59 => ?_) (fun c59 => ?_)
          · have hf := (if_neg c59).symm.trans hf
            refine lv_bipush (v := (42 : Int32)) hx hb dX9_figure_295 (by decide) ?_
            refine lv_goto (tgt := 323) hx hb dX9_figure_297 (by decide) ?_
            exact sg323  I A (42 : Int32) H locs ls hf hP hD hS (lv_sub hl [0] rfl)
          · have hf := (if_pos c59).symm.trans hf
            refine lv_bipush (v := (43 : Int32)) hx hb dX9_figure_290 (by decide) ?_
            refine lv_goto (tgt := 323) hx hb dX9_figure_292 (by decide) ?_
            exact sg323  I A (43 : Int32) H locs ls hf hP hD hS (lv_sub hl [0] rfl)
        · have hf := (if_pos c58).symm.trans hf
          refine lv_bipush (v := (65 : Int32)) hx hb dX9_figure_279 (by decide) ?_
          refine lv_goto (tgt := 323) hx hb dX9_figure_281 (by decide) ?_
          exact sg323  I A (65 : Int32) H locs ls hf hP hD hS (lv_sub hl [0] rfl)
      · have hf := (if_pos c57).symm.trans hf
        refine lv_bipush (v := (7 : Int32)) hx hb dX9_figure_268 (by decide) ?_
        refine lv_goto (tgt := 323) hx hb dX9_figure_270 (by decide) ?_
        exact sg323  I A (7 : Int32) H locs ls hf hP hD hS (lv_sub hl [0] rfl)
  have sg375 : ∀ (I : Nat → Int32) (A : Nat → Nat → Int32) (v1 : Int32) (v2 : Int32) (H : Heap) (locs : List Loc) (ls : Array Slot), fX9_figure_375 B  I A v1 v2 = some z → va_P (dC, dI) vwCl (wM cI cB cJ Q B I A) H → va_D AA (wM cI cB cJ Q B I A) → va_S AA s.heap H locs → lv_has ls 7 [(0, .ref (Q 100)), (1, .int v1), (2, .int v2)] → W p l e (headSpec wsX9_figure ({ frames := 3, cells := 0, slots := 0, locals := 69 })).room s m (([.ref (Q 100), .int x1, .int x2] : List Value).toArray) below meth c H locs 0 0 (MQ below (va_Qi (fun (r : Int32) (u : (Nat → Int32) × (Nat → Nat → Int32)) => (r, u) = z) (atM dC dI cI cB cJ Q B AA) AA) (([.ref (Q 100), .int x1, .int x2] : List Value).toArray) s 0 0 AA) (F0 m 375 ls []) := by
    intro I A v1 v2 H locs ls hf hP hD hS hl
    unfold fX9_figure_375 at hf
    refine lv_aload_n hx hb dX9_figure_375 rfl (lv_at hl 0 rfl) ?_
    refine lv_bipush (v := (47 : Int32)) hx hb dX9_figure_376 (by decide) ?_
    obtain ⟨⟨I61, A62⟩, hc60, hf⟩ := of_bind_some hf
    have hF63 := va_freeAll hD hS hA
    refine va_callv (va_runV (As := [.int (47 : Int32)]) (rest := []) ⟨hx, hb, hml, hown, hts⟩ (mX9_shows l dC dI cI cB cJ Q B I A (47 : Int32) H.size _ hc60) (cwV 1 hts gX9_figure_X9_shows rfl rfl rfl (by decide +kernel) ⟨Nat.le_of_ble_eq_true rfl, Nat.le_of_ble_eq_true rfl⟩) ⟨blindW, va_recv hK hP (ci := 6) (q0 := 0) rfl rfl, fun U hU hW => ⟨rfl, by rw [hU], by rw [hU]; exact hP, va_K.moved hW.alike hK, hD.weaken (fun _ _ _ _ => trivial)⟩⟩ rfl rfl hl.1 rfl (lv_room (Nat.le_of_ble_eq_true rfl)) dX9_figure_378 ⟨Nat.zero_le _, Nat.zero_le _⟩) hS (fun q _ h => hF63 q h) hF63 (fun u t H locs ht hvm hw hB hz1 hk1 hS => ?_)
    cases hw
    obtain ⟨hP, hK9, hD⟩ := hB
    rw [ht] at hP
    have hP : va_P (dC, dI) vwCl (wM cI cB cJ Q B I61 A62) H := hP
    have hD : va_D AA (wM cI cB cJ Q B I61 A62) := hD.weaken (fun _ _ _ h => hF63 _ h)
    refine lv_aload_n hx hb dX9_figure_381 rfl (lv_at hl 0 rfl) ?_
    refine lv_aload_n hx hb dX9_figure_382 rfl (lv_at hl 0 rfl) ?_
    refine lv_iload_n hx hb dX9_figure_383 rfl (lv_at hl 1 rfl) ?_
    obtain ⟨r64, hc65, hf⟩ := of_bind_some hf
    refine W.callR (r := r64) (W.runV (As := [.int v1]) (rest := [.ref (Q 100)]) ⟨hx, hb, hml, hown, hts⟩ (mX9_bassOf l dC dI cI cB cJ Q B I61 A62 v1 r64 hc65) (cwV 1 hts gX9_figure_X9_bassOf rfl rfl rfl (by decide +kernel) ⟨Nat.le_of_ble_eq_true rfl, Nat.le_of_ble_eq_true rfl⟩) ⟨blindR, va_recv hK hP (ci := 6) (q0 := 0) rfl rfl, fun U hU hW => ⟨rfl, by rw [hU]; exact hP, va_K.moved hW.alike hK⟩⟩ rfl rfl hl.1 rfl (lv_room (Nat.le_of_ble_eq_true rfl)) dX9_figure_384 ⟨Nat.zero_le _, Nat.zero_le _⟩) ?_
    refine W.eq (g2 := F0 m 387 ls [.int r64, .ref (Q 100)]) rfl ?_
    refine lv_iload_n hx hb dX9_figure_387 rfl (lv_at hl 2 rfl) ?_
    refine lv_isub hx hb dX9_figure_388 ?_
    refine W.callR (r := (fX9_mod12 (r64 - v2))) (W.runS (As := [.int (r64 - v2)]) (rest := [.ref (Q 100)]) ⟨hx, hb, hml, hown, hts⟩ (mX9_mod12 l (r64 - v2) (fX9_mod12 (r64 - v2)) rfl) (va_cwS 1 hts gX9_figure_X9_mod12 rfl rfl rfl (by decide +kernel) ⟨Nat.le_of_ble_eq_true rfl, Nat.le_of_ble_eq_true rfl⟩) ⟨fun _ _ _ _ q => q, fun U hU hW => ⟨rfl, trivial⟩⟩ rfl rfl hl.1 rfl (lv_room (Nat.le_of_ble_eq_true rfl)) dX9_figure_389 ⟨Nat.zero_le _, Nat.zero_le _⟩) ?_
    refine W.eq (g2 := F0 m 392 ls [.int (fX9_mod12 (r64 - v2)), .ref (Q 100)]) rfl ?_
    refine lv_iconst (v := (0 : Int32)) hx hb dX9_figure_392 (by decide) ?_
    obtain ⟨⟨I67, A68⟩, hc66, hf⟩ := of_bind_some hf
    have hF69 := va_freeAll hD hS hA
    refine va_callv (va_runV (As := [.int (fX9_mod12 (r64 - v2)), .int (0 : Int32)]) (rest := []) ⟨hx, hb, hml, hown, hts⟩ (mX9_showsNumeral l dC dI cI cB cJ Q B I61 A62 (fX9_mod12 (r64 - v2)) (0 : Int32) H.size _ hc66) (cwV 2 hts gX9_figure_X9_showsNumeral rfl rfl rfl (by decide +kernel) ⟨Nat.le_of_ble_eq_true rfl, Nat.le_of_ble_eq_true rfl⟩) ⟨blindW, va_recv hK hP (ci := 6) (q0 := 0) rfl rfl, fun U hU hW => ⟨rfl, by rw [hU], by rw [hU]; exact hP, va_K.moved hW.alike hK, hD.weaken (fun _ _ _ _ => trivial)⟩⟩ rfl rfl hl.1 rfl (lv_room (Nat.le_of_ble_eq_true rfl)) dX9_figure_393 ⟨Nat.zero_le _, Nat.zero_le _⟩) hS (fun q _ h => hF69 q h) hF69 (fun u t H locs ht hvm hw hB hz1 hk1 hS => ?_)
    cases hw
    obtain ⟨hP, hK9, hD⟩ := hB
    rw [ht] at hP
    have hP : va_P (dC, dI) vwCl (wM cI cB cJ Q B I67 A68) H := hP
    have hD : va_D AA (wM cI cB cJ Q B I67 A68) := hD.weaken (fun _ _ _ h => hF69 _ h)
    refine lv_aload_n hx hb dX9_figure_396 rfl (lv_at hl 0 rfl) ?_
    refine va_get (D := (dC, dI)) (ci := 6) (v := .int (I67 8)) (C := RX9) (T := TX9) (N := 36) hx hb hts hinX9 hown hK hP 0 rfl rfl 8 (by decide) hk304 (fun _ h9 => h9) rfl dX9_figure_397 ?_
    exact W.iret (v := (I67 8)) hx hb hr (fun t ht hW => ⟨⟨(I67 8), (I67, A68), rfl, Option.some.inj hf, by rw [ht]; exact hP, va_K.moved hW.alike hK, hD⟩, hS.F ht⟩) hS.2.2 dX9_figure_400
  have sg175 : ∀ (k146 : (Nat → Int32) → (Nat → Nat → Int32) → Int32 → Int32 → Int32 → Int32 → Int32 → Option (Int32 × (Nat → Int32) × (Nat → Nat → Int32))), (∀ (I : Nat → Int32) (A : Nat → Nat → Int32) (v1 : Int32) (v2 : Int32) (v4 : Int32) (v5 : Int32) (v6 : Int32) (H : Heap) (locs : List Loc) (ls : Array Slot), k146 I A v1 v2 v4 v5 v6 = some z → va_P (dC, dI) vwCl (wM cI cB cJ Q B I A) H → va_D AA (wM cI cB cJ Q B I A) → va_S AA s.heap H locs → lv_has ls 7 [(0, .ref (Q 100)), (1, .int v1), (2, .int v2), (4, .int v4), (5, .int v5), (6, .int v6)] → W p l e (headSpec wsX9_figure ({ frames := 3, cells := 0, slots := 0, locals := 69 })).room s m (([.ref (Q 100), .int x1, .int x2] : List Value).toArray) below meth c H locs 0 0 (MQ below (va_Qi (fun (r : Int32) (u : (Nat → Int32) × (Nat → Nat → Int32)) => (r, u) = z) (atM dC dI cI cB cJ Q B AA) AA) (([.ref (Q 100), .int x1, .int x2] : List Value).toArray) s 0 0 AA) (F0 m 146 ls [])) → ∀ (I : Nat → Int32) (A : Nat → Nat → Int32) (v1 : Int32) (v2 : Int32) (v5 : Int32) (v6 : Int32) (t0 : Int32) (t1 : Int32) (H : Heap) (locs : List Loc) (ls : Array Slot), fX9_figure_175 B k146 I A v1 v2 v5 v6 t0 t1 = some z → va_P (dC, dI) vwCl (wM cI cB cJ Q B I A) H → va_D AA (wM cI cB cJ Q B I A) → va_S AA s.heap H locs → lv_has ls 7 [(0, .ref (Q 100)), (1, .int v1), (2, .int v2), (5, .int v5), (6, .int v6)] → W p l e (headSpec wsX9_figure ({ frames := 3, cells := 0, slots := 0, locals := 69 })).room s m (([.ref (Q 100), .int x1, .int x2] : List Value).toArray) below meth c H locs 0 0 (MQ below (va_Qi (fun (r : Int32) (u : (Nat → Int32) × (Nat → Nat → Int32)) => (r, u) = z) (atM dC dI cI cB cJ Q B AA) AA) (([.ref (Q 100), .int x1, .int x2] : List Value).toArray) s 0 0 AA) (F0 m 175 ls [.int t0, .int t1]) := by
    intro k146 ih146
    intro I A v1 v2 v5 v6 t0 t1 H locs ls hf hP hD hS hl
    unfold fX9_figure_175 at hf
    refine lv_ior hx hb dX9_figure_175 ?_
    refine lv_istore (lv' := [(4, .int (t1 ||| t0)), (0, .ref (Q 100)), (1, .int v1), (2, .int v2), (5, .int v5), (6, .int v6)]) hx hb dX9_figure_176 hl (by decide) rfl (fun ls hl => ?_)
    refine lv_aload_n hx hb dX9_figure_178 rfl (lv_at hl 1 rfl) ?_
    refine lv_iload_n hx hb dX9_figure_179 rfl (lv_at hl 2 rfl) ?_
    obtain ⟨r70, hc71, hf⟩ := of_bind_some hf
    refine W.callR (r := r70) (W.runV (As := [.int v1]) (rest := []) ⟨hx, hb, hml, hown, hts⟩ (mX9_rootOf l dC dI cI cB cJ Q B I A v1 r70 hc71) (cwV 1 hts gX9_figure_X9_rootOf rfl rfl rfl (by decide +kernel) ⟨Nat.le_of_ble_eq_true rfl, Nat.le_of_ble_eq_true rfl⟩) ⟨blindR, va_recv hK hP (ci := 6) (q0 := 0) rfl rfl, fun U hU hW => ⟨rfl, by rw [hU]; exact hP, va_K.moved hW.alike hK⟩⟩ rfl rfl hl.1 rfl (lv_room (Nat.le_of_ble_eq_true rfl)) dX9_figure_180 ⟨Nat.zero_le _, Nat.zero_le _⟩) ?_
    refine W.eq (g2 := F0 m 183 ls [.int r70]) rfl ?_
    refine lv_aload_n hx hb dX9_figure_183 rfl (lv_at hl 1 rfl) ?_
    refine va_get (D := (dC, dI)) (ci := 6) (v := .ref (Q 3)) (C := RX9) (T := TX9) (N := 36) hx hb hts hinX9 hown hK hP 0 rfl rfl 3 (by decide) hk17 (fun _ h9 => h9) rfl dX9_figure_184 ?_
    refine lv_bipush (v := (16 : Int32)) hx hb dX9_figure_187 (by decide) ?_
    refine lv_iload_n hx hb dX9_figure_189 rfl (lv_at hl 2 rfl) ?_
    refine lv_imul hx hb dX9_figure_190 ?_
    refine lv_iload hx hb dX9_figure_191 (lv_at hl 5 rfl) ?_
    refine lv_iadd hx hb dX9_figure_193 ?_
    obtain ⟨g72, hf⟩ := of_ite_some hf
    refine va_iald hx hb hK hP 3 0 (n := 1600) (f := (A 3)) rfl rfl g72 dX9_figure_194 ?_
    refine lv_iadd hx hb dX9_figure_195 ?_
    refine lv_bipush (v := (12 : Int32)) hx hb dX9_figure_196 (by decide) ?_
    refine lv_irem hx hb dX9_figure_198 (by decide) ?_
    refine W.eq (g2 := F0 m 199 ls [.int (jrem (r70 + ((A 3) (((16 : Int32) * v1) + v6).toNatClampNeg)) (12 : Int32))]) rfl ?_
    refine lv_aload_n hx hb dX9_figure_199 rfl (lv_at hl 1 rfl) ?_
    refine lv_iload_n hx hb dX9_figure_200 rfl (lv_at hl 2 rfl) ?_
    obtain ⟨r73, hc74, hf⟩ := of_bind_some hf
    refine W.callR (r := r73) (W.runV (As := [.int v1]) (rest := [.int (jrem (r70 + ((A 3) (((16 : Int32) * v1) + v6).toNatClampNeg)) (12 : Int32))]) ⟨hx, hb, hml, hown, hts⟩ (mX9_bassOf l dC dI cI cB cJ Q B I A v1 r73 hc74) (cwV 1 hts gX9_figure_X9_bassOf rfl rfl rfl (by decide +kernel) ⟨Nat.le_of_ble_eq_true rfl, Nat.le_of_ble_eq_true rfl⟩) ⟨blindR, va_recv hK hP (ci := 6) (q0 := 0) rfl rfl, fun U hU hW => ⟨rfl, by rw [hU]; exact hP, va_K.moved hW.alike hK⟩⟩ rfl rfl hl.1 rfl (lv_room (Nat.le_of_ble_eq_true rfl)) dX9_figure_201 ⟨Nat.zero_le _, Nat.zero_le _⟩) ?_
    refine W.eq (g2 := F0 m 204 ls [.int r73, .int (jrem (r70 + ((A 3) (((16 : Int32) * v1) + v6).toNatClampNeg)) (12 : Int32))]) rfl ?_
    refine lv_icmp_ne (tgt := 222) hx hb dX9_figure_204 (by decide) (fun c75 => ?_) (fun c75 => ?_)
    · have hf := (if_neg c75).symm.trans hf
      refine lv_iload hx hb dX9_figure_222 (lv_at hl 4 rfl) ?_
      refine lv_istore (lv' := [(5, .int v5), (4, .int (t1 ||| t0)), (0, .ref (Q 100)), (1, .int v1), (2, .int v2), (6, .int v6)]) hx hb dX9_figure_224 hl (by decide) rfl (fun ls hl => ?_)
      refine lv_iinc (v := (v6 + (-1 : Int32))) (lv' := [(6, .int (v6 + (-1 : Int32))), (5, .int v5), (4, .int (t1 ||| t0)), (0, .ref (Q 100)), (1, .int v1), (2, .int v2)]) hx hb dX9_figure_226 hl (k := 5) rfl rfl (by decide) rfl (fun ls hl => ?_)
      refine lv_goto (tgt := 146) hx hb dX9_figure_229 (by decide) ?_
      exact ih146 I A v1 v2 (t1 ||| t0) v5 (v6 + (-1 : Int32)) H locs ls hf hP hD hS (lv_sub hl [3, 4, 5, 2, 1, 0] rfl)
    · have hf := (if_pos c75).symm.trans hf
      refine lv_aload_n hx hb dX9_figure_207 rfl (lv_at hl 1 rfl) ?_
      refine va_get (D := (dC, dI)) (ci := 6) (v := .ref (Q 4)) (C := RX9) (T := TX9) (N := 36) hx hb hts hinX9 hown hK hP 0 rfl rfl 4 (by decide) hk20 (fun _ h9 => h9) rfl dX9_figure_208 ?_
      refine lv_bipush (v := (16 : Int32)) hx hb dX9_figure_211 (by decide) ?_
      refine lv_iload_n hx hb dX9_figure_213 rfl (lv_at hl 2 rfl) ?_
      refine lv_imul hx hb dX9_figure_214 ?_
      refine lv_iload hx hb dX9_figure_215 (lv_at hl 5 rfl) ?_
      refine lv_iadd hx hb dX9_figure_217 ?_
      obtain ⟨g76, hf⟩ := of_ite_some hf
      refine va_iald hx hb hK hP 4 0 (n := 1600) (f := (A 4)) rfl rfl g76 dX9_figure_218 ?_
      refine lv_goto (tgt := 224) hx hb dX9_figure_219 (by decide) ?_
      refine lv_istore (lv' := [(5, .int ((A 4) (((16 : Int32) * v1) + v6).toNatClampNeg)), (4, .int (t1 ||| t0)), (0, .ref (Q 100)), (1, .int v1), (2, .int v2), (6, .int v6)]) hx hb dX9_figure_224 hl (by decide) rfl (fun ls hl => ?_)
      refine lv_iinc (v := (v6 + (-1 : Int32))) (lv' := [(6, .int (v6 + (-1 : Int32))), (5, .int ((A 4) (((16 : Int32) * v1) + v6).toNatClampNeg)), (4, .int (t1 ||| t0)), (0, .ref (Q 100)), (1, .int v1), (2, .int v2)]) hx hb dX9_figure_226 hl (k := 5) rfl rfl (by decide) rfl (fun ls hl => ?_)
      refine lv_goto (tgt := 146) hx hb dX9_figure_229 (by decide) ?_
      exact ih146 I A v1 v2 (t1 ||| t0) ((A 4) (((16 : Int32) * v1) + v6).toNatClampNeg) (v6 + (-1 : Int32)) H locs ls hf hP hD hS (lv_sub hl [3, 4, 5, 2, 1, 0] rfl)
  have sg146 : ∀ n : Nat, ∀ (I : Nat → Int32) (A : Nat → Nat → Int32) (v1 : Int32) (v2 : Int32) (v4 : Int32) (v5 : Int32) (v6 : Int32) (H : Heap) (locs : List Loc) (ls : Array Slot), fX9_figure_146 B  n I A v1 v2 v4 v5 v6 = some z → va_P (dC, dI) vwCl (wM cI cB cJ Q B I A) H → va_D AA (wM cI cB cJ Q B I A) → va_S AA s.heap H locs → lv_has ls 7 [(0, .ref (Q 100)), (1, .int v1), (2, .int v2), (4, .int v4), (5, .int v5), (6, .int v6)] → W p l e (headSpec wsX9_figure ({ frames := 3, cells := 0, slots := 0, locals := 69 })).room s m (([.ref (Q 100), .int x1, .int x2] : List Value).toArray) below meth c H locs 0 0 (MQ below (va_Qi (fun (r : Int32) (u : (Nat → Int32) × (Nat → Nat → Int32)) => (r, u) = z) (atM dC dI cI cB cJ Q B AA) AA) (([.ref (Q 100), .int x1, .int x2] : List Value).toArray) s 0 0 AA) (F0 m 146 ls []) := by
    intro n
    induction n with
    | zero => intro I A v1 v2 v4 v5 v6 H locs ls hf hP hD hS hl; exact of_none hf
    | succ n ih146 =>
      intro I A v1 v2 v4 v5 v6 H locs ls hf hP hD hS hl
      change fX9_figure_146B B  (fX9_figure_146 B  n) I A v1 v2 v4 v5 v6 = _ at hf
      unfold fX9_figure_146B at hf
      refine lv_iload hx hb dX9_figure_146 (lv_at hl 5 rfl) ?_
      refine lv_if_lt (tgt := 232) hx hb dX9_figure_148 (by decide) (fun c42 => ?_) (fun c42 => ?_)
      · have hf := (if_pos c42).symm.trans hf
        refine lv_iload hx hb dX9_figure_232 (lv_at hl 4 rfl) ?_
        refine lv_iconst (v := (1 : Int32)) hx hb dX9_figure_234 (by decide) ?_
        refine lv_icmp_eq (tgt := 257) hx hb dX9_figure_235 (by decide) (fun c43 => ?_) (fun c43 => ?_)
        · have hf := (if_pos c43).symm.trans hf
          exact sg257  I A v4 v5 H locs ls hf hP hD hS (lv_sub hl [0, 3, 4] rfl)
        · have hf := (if_neg c43).symm.trans hf
          refine lv_iload hx hb dX9_figure_238 (lv_at hl 4 rfl) ?_
          refine lv_iconst (v := (3 : Int32)) hx hb dX9_figure_240 (by decide) ?_
          refine lv_icmp_eq (tgt := 257) hx hb dX9_figure_241 (by decide) (fun c44 => ?_) (fun c44 => ?_)
          · have hf := (if_pos c44).symm.trans hf
            exact sg257  I A v4 v5 H locs ls hf hP hD hS (lv_sub hl [0, 3, 4] rfl)
          · have hf := (if_neg c44).symm.trans hf
            refine lv_iload hx hb dX9_figure_244 (lv_at hl 4 rfl) ?_
            refine lv_iconst (v := (5 : Int32)) hx hb dX9_figure_246 (by decide) ?_
            refine lv_icmp_eq (tgt := 257) hx hb dX9_figure_247 (by decide) (fun c45 => ?_) (fun c45 => ?_)
            · have hf := (if_pos c45).symm.trans hf
              exact sg257  I A v4 v5 H locs ls hf hP hD hS (lv_sub hl [0, 3, 4] rfl)
            · have hf := (if_neg c45).symm.trans hf
              refine lv_iload hx hb dX9_figure_250 (lv_at hl 4 rfl) ?_
              refine lv_bipush (v := (7 : Int32)) hx hb dX9_figure_252 (by decide) ?_
              refine lv_icmp_ne (tgt := 364) hx hb dX9_figure_254 (by decide) (fun c46 => ?_) (fun c46 => ?_)
              · have hf := (if_neg c46).symm.trans hf
                refine lv_iload hx hb dX9_figure_364 (lv_at hl 3 rfl) ?_
                refine lv_if_eq (tgt := 375) hx hb dX9_figure_366 (by decide) (fun c47 => ?_) (fun c47 => ?_)
                · have hf := (if_pos c47).symm.trans hf
                  exact sg375  I A v1 v2 H locs ls hf hP hD hS (lv_sub hl [0, 1, 2] rfl)
                · have hf := (if_neg c47).symm.trans hf
                  refine lv_aload_n hx hb dX9_figure_369 rfl (lv_at hl 0 rfl) ?_
                  refine lv_bipush (v := (55 : Int32)) hx hb dX9_figure_370 (by decide) ?_
                  obtain ⟨⟨I49, A50⟩, hc48, hf⟩ := of_bind_some hf
                  have hF51 := va_freeAll hD hS hA
                  refine va_callv (va_runV (As := [.int (55 : Int32)]) (rest := []) ⟨hx, hb, hml, hown, hts⟩ (mX9_shows l dC dI cI cB cJ Q B I A (55 : Int32) H.size _ hc48) (cwV 1 hts gX9_figure_X9_shows rfl rfl rfl (by decide +kernel) ⟨Nat.le_of_ble_eq_true rfl, Nat.le_of_ble_eq_true rfl⟩) ⟨blindW, va_recv hK hP (ci := 6) (q0 := 0) rfl rfl, fun U hU hW => ⟨rfl, by rw [hU], by rw [hU]; exact hP, va_K.moved hW.alike hK, hD.weaken (fun _ _ _ _ => trivial)⟩⟩ rfl rfl hl.1 rfl (lv_room (Nat.le_of_ble_eq_true rfl)) dX9_figure_372 ⟨Nat.zero_le _, Nat.zero_le _⟩) hS (fun q _ h => hF51 q h) hF51 (fun u t H locs ht hvm hw hB hz1 hk1 hS => ?_)
                  cases hw
                  obtain ⟨hP, hK9, hD⟩ := hB
                  rw [ht] at hP
                  have hP : va_P (dC, dI) vwCl (wM cI cB cJ Q B I49 A50) H := hP
                  have hD : va_D AA (wM cI cB cJ Q B I49 A50) := hD.weaken (fun _ _ _ h => hF51 _ h)
                  exact sg375  I49 A50 v1 v2 H locs ls hf hP hD hS (lv_sub hl [0, 1, 2] rfl)
              · have hf := (if_pos c46).symm.trans hf
                exact sg257  I A v4 v5 H locs ls hf hP hD hS (lv_sub hl [0, 3, 4] rfl)
      · have hf := (if_neg c42).symm.trans hf
        refine lv_iload hx hb dX9_figure_151 (lv_at hl 3 rfl) ?_
        refine lv_aload_n hx hb dX9_figure_153 rfl (lv_at hl 0 rfl) ?_
        refine va_get (D := (dC, dI)) (ci := 6) (v := .ref (Q 4)) (C := RX9) (T := TX9) (N := 36) hx hb hts hinX9 hown hK hP 0 rfl rfl 4 (by decide) hk20 (fun _ h9 => h9) rfl dX9_figure_154 ?_
        refine lv_bipush (v := (16 : Int32)) hx hb dX9_figure_157 (by decide) ?_
        refine lv_iload_n hx hb dX9_figure_159 rfl (lv_at hl 1 rfl) ?_
        refine lv_imul hx hb dX9_figure_160 ?_
        refine lv_iload hx hb dX9_figure_161 (lv_at hl 5 rfl) ?_
        refine lv_iadd hx hb dX9_figure_163 ?_
        obtain ⟨g52, hf⟩ := of_ite_some hf
        refine va_iald hx hb hK hP 4 0 (n := 1600) (f := (A 4)) rfl rfl g52 dX9_figure_164 ?_
        refine lv_bipush (v := (7 : Int32)) hx hb dX9_figure_165 (by decide) ?_
        refine lv_icmp_ne (tgt := 174) hx hb dX9_figure_167 (by decide) (fun c53 => ?_) (fun c53 => ?_)
        · have hf := (if_neg c53).symm.trans hf
          refine lv_iconst (v := (0 : Int32)) hx hb dX9_figure_174 (by decide) ?_
          exact sg175 _ ih146 I A v1 v2 v5 v6 (0 : Int32) v4 H locs ls hf hP hD hS (lv_sub hl [0, 1, 2, 4, 5] rfl)
        · have hf := (if_pos c53).symm.trans hf
          refine lv_iconst (v := (1 : Int32)) hx hb dX9_figure_170 (by decide) ?_
          refine lv_goto (tgt := 175) hx hb dX9_figure_171 (by decide) ?_
          exact sg175 _ ih146 I A v1 v2 v5 v6 (1 : Int32) v4 H locs ls hf hP hD hS (lv_sub hl [0, 1, 2, 4, 5] rfl)
  have sg129 : ∀ (I : Nat → Int32) (A : Nat → Nat → Int32) (v1 : Int32) (v2 : Int32) (H : Heap) (locs : List Loc) (ls : Array Slot), fX9_figure_129 B  I A v1 v2 = some z → va_P (dC, dI) vwCl (wM cI cB cJ Q B I A) H → va_D AA (wM cI cB cJ Q B I A) → va_S AA s.heap H locs → lv_has ls 7 [(0, .ref (Q 100)), (1, .int v1), (2, .int v2)] → W p l e (headSpec wsX9_figure ({ frames := 3, cells := 0, slots := 0, locals := 69 })).room s m (([.ref (Q 100), .int x1, .int x2] : List Value).toArray) below meth c H locs 0 0 (MQ below (va_Qi (fun (r : Int32) (u : (Nat → Int32) × (Nat → Nat → Int32)) => (r, u) = z) (atM dC dI cI cB cJ Q B AA) AA) (([.ref (Q 100), .int x1, .int x2] : List Value).toArray) s 0 0 AA) (F0 m 129 ls []) := by
    intro I A v1 v2 H locs ls hf hP hD hS hl
    unfold fX9_figure_129 at hf
    refine lv_iconst (v := (0 : Int32)) hx hb dX9_figure_129 (by decide) ?_
    refine lv_istore (lv' := [(4, .int (0 : Int32)), (0, .ref (Q 100)), (1, .int v1), (2, .int v2)]) hx hb dX9_figure_130 hl (by decide) rfl (fun ls hl => ?_)
    refine lv_bipush (v := (-2 : Int32)) hx hb dX9_figure_132 (by decide) ?_
    refine lv_istore (lv' := [(5, .int (-2 : Int32)), (4, .int (0 : Int32)), (0, .ref (Q 100)), (1, .int v1), (2, .int v2)]) hx hb dX9_figure_134 hl (by decide) rfl (fun ls hl => ?_)
    refine lv_aload_n hx hb dX9_figure_136 rfl (lv_at hl 2 rfl) ?_
    refine va_get (D := (dC, dI)) (ci := 6) (v := .ref (Q 5)) (C := RX9) (T := TX9) (N := 36) hx hb hts hinX9 hown hK hP 0 rfl rfl 5 (by decide) hk23 (fun _ h9 => h9) rfl dX9_figure_137 ?_
    refine lv_iload_n hx hb dX9_figure_140 rfl (lv_at hl 3 rfl) ?_
    obtain ⟨g41, hf⟩ := of_ite_some hf
    refine va_iald hx hb hK hP 5 0 (n := 100) (f := (A 5)) rfl rfl g41 dX9_figure_141 ?_
    refine lv_iconst (v := (1 : Int32)) hx hb dX9_figure_142 (by decide) ?_
    refine lv_isub hx hb dX9_figure_143 ?_
    refine lv_istore (lv' := [(6, .int (((A 5) v1.toNatClampNeg) - (1 : Int32))), (5, .int (-2 : Int32)), (4, .int (0 : Int32)), (0, .ref (Q 100)), (1, .int v1), (2, .int v2)]) hx hb dX9_figure_144 hl (by decide) rfl (fun ls hl => ?_)
    exact sg146  FU I A v1 v2 (0 : Int32) (-2 : Int32) (((A 5) v1.toNatClampNeg) - (1 : Int32)) H locs ls hf hP hD hS (lv_sub hl [3, 4, 5, 2, 1, 0] rfl)
  have sg94 : ∀ (I : Nat → Int32) (A : Nat → Nat → Int32) (v1 : Int32) (v2 : Int32) (H : Heap) (locs : List Loc) (ls : Array Slot), fX9_figure_94 B  I A v1 v2 = some z → va_P (dC, dI) vwCl (wM cI cB cJ Q B I A) H → va_D AA (wM cI cB cJ Q B I A) → va_S AA s.heap H locs → lv_has ls 7 [(0, .ref (Q 100)), (1, .int v1), (2, .int v2)] → W p l e (headSpec wsX9_figure ({ frames := 3, cells := 0, slots := 0, locals := 69 })).room s m (([.ref (Q 100), .int x1, .int x2] : List Value).toArray) below meth c H locs 0 0 (MQ below (va_Qi (fun (r : Int32) (u : (Nat → Int32) × (Nat → Nat → Int32)) => (r, u) = z) (atM dC dI cI cB cJ Q B AA) AA) (([.ref (Q 100), .int x1, .int x2] : List Value).toArray) s 0 0 AA) (F0 m 94 ls []) := by
    intro I A v1 v2 H locs ls hf hP hD hS hl
    unfold fX9_figure_94 at hf
    refine lv_aload_n hx hb dX9_figure_94 rfl (lv_at hl 0 rfl) ?_
    refine lv_iload_n hx hb dX9_figure_95 rfl (lv_at hl 1 rfl) ?_
    refine lv_iconst (v := (4 : Int32)) hx hb dX9_figure_96 (by decide) ?_
    obtain ⟨r28, hc29, hf⟩ := of_bind_some hf
    refine W.callR (r := r28) (W.runV (As := [.int v1, .int (4 : Int32)]) (rest := []) ⟨hx, hb, hml, hown, hts⟩ (mX9_hasHalf l dC dI cI cB cJ Q B I A v1 (4 : Int32) r28 hc29) (cwV 2 hts gX9_figure_X9_hasHalf rfl rfl rfl (by decide +kernel) ⟨Nat.le_of_ble_eq_true rfl, Nat.le_of_ble_eq_true rfl⟩) ⟨blindR, va_recv hK hP (ci := 6) (q0 := 0) rfl rfl, fun U hU hW => ⟨rfl, by rw [hU]; exact hP, va_K.moved hW.alike hK⟩⟩ rfl rfl hl.1 rfl (lv_room (Nat.le_of_ble_eq_true rfl)) dX9_figure_97 ⟨Nat.zero_le _, Nat.zero_le _⟩) ?_
    refine W.eq (g2 := F0 m 100 ls [.int r28]) rfl ?_
    refine lv_if_eq (tgt := 129) hx hb dX9_figure_100 (by decide) (fun c30 => ?_) (fun c30 => ?_)
    · have hf := (if_pos c30).symm.trans hf
      exact sg129  I A v1 v2 H locs ls hf hP hD hS (lv_sub hl [0, 1, 2] rfl)
    · have hf := (if_neg c30).symm.trans hf
      refine lv_aload_n hx hb dX9_figure_103 rfl (lv_at hl 0 rfl) ?_
      refine lv_iload_n hx hb dX9_figure_104 rfl (lv_at hl 1 rfl) ?_
      refine lv_bipush (v := (8 : Int32)) hx hb dX9_figure_105 (by decide) ?_
      obtain ⟨r31, hc32, hf⟩ := of_bind_some hf
      refine W.callR (r := r31) (W.runV (As := [.int v1, .int (8 : Int32)]) (rest := []) ⟨hx, hb, hml, hown, hts⟩ (mX9_hasHalf l dC dI cI cB cJ Q B I A v1 (8 : Int32) r31 hc32) (cwV 2 hts gX9_figure_X9_hasHalf rfl rfl rfl (by decide +kernel) ⟨Nat.le_of_ble_eq_true rfl, Nat.le_of_ble_eq_true rfl⟩) ⟨blindR, va_recv hK hP (ci := 6) (q0 := 0) rfl rfl, fun U hU hW => ⟨rfl, by rw [hU]; exact hP, va_K.moved hW.alike hK⟩⟩ rfl rfl hl.1 rfl (lv_room (Nat.le_of_ble_eq_true rfl)) dX9_figure_107 ⟨Nat.zero_le _, Nat.zero_le _⟩) ?_
      refine W.eq (g2 := F0 m 110 ls [.int r31]) rfl ?_
      refine lv_if_eq (tgt := 129) hx hb dX9_figure_110 (by decide) (fun c33 => ?_) (fun c33 => ?_)
      · have hf := (if_pos c33).symm.trans hf
        exact sg129  I A v1 v2 H locs ls hf hP hD hS (lv_sub hl [0, 1, 2] rfl)
      · have hf := (if_neg c33).symm.trans hf
        refine lv_aload_n hx hb dX9_figure_113 rfl (lv_at hl 0 rfl) ?_
        refine lv_iload_n hx hb dX9_figure_114 rfl (lv_at hl 1 rfl) ?_
        refine lv_bipush (v := (7 : Int32)) hx hb dX9_figure_115 (by decide) ?_
        obtain ⟨r34, hc35, hf⟩ := of_bind_some hf
        refine W.callR (r := r34) (W.runV (As := [.int v1, .int (7 : Int32)]) (rest := []) ⟨hx, hb, hml, hown, hts⟩ (mX9_hasHalf l dC dI cI cB cJ Q B I A v1 (7 : Int32) r34 hc35) (cwV 2 hts gX9_figure_X9_hasHalf rfl rfl rfl (by decide +kernel) ⟨Nat.le_of_ble_eq_true rfl, Nat.le_of_ble_eq_true rfl⟩) ⟨blindR, va_recv hK hP (ci := 6) (q0 := 0) rfl rfl, fun U hU hW => ⟨rfl, by rw [hU]; exact hP, va_K.moved hW.alike hK⟩⟩ rfl rfl hl.1 rfl (lv_room (Nat.le_of_ble_eq_true rfl)) dX9_figure_117 ⟨Nat.zero_le _, Nat.zero_le _⟩) ?_
        refine W.eq (g2 := F0 m 120 ls [.int r34]) rfl ?_
        refine lv_if_ne (tgt := 129) hx hb dX9_figure_120 (by decide) (fun c36 => ?_) (fun c36 => ?_)
        · have hf := (if_neg c36).symm.trans hf
          exact sg129  I A v1 v2 H locs ls hf hP hD hS (lv_sub hl [0, 1, 2] rfl)
        · have hf := (if_pos c36).symm.trans hf
          refine lv_aload_n hx hb dX9_figure_123 rfl (lv_at hl 0 rfl) ?_
          refine lv_bipush (v := (43 : Int32)) hx hb dX9_figure_124 (by decide) ?_
          obtain ⟨⟨I38, A39⟩, hc37, hf⟩ := of_bind_some hf
          have hF40 := va_freeAll hD hS hA
          refine va_callv (va_runV (As := [.int (43 : Int32)]) (rest := []) ⟨hx, hb, hml, hown, hts⟩ (mX9_shows l dC dI cI cB cJ Q B I A (43 : Int32) H.size _ hc37) (cwV 1 hts gX9_figure_X9_shows rfl rfl rfl (by decide +kernel) ⟨Nat.le_of_ble_eq_true rfl, Nat.le_of_ble_eq_true rfl⟩) ⟨blindW, va_recv hK hP (ci := 6) (q0 := 0) rfl rfl, fun U hU hW => ⟨rfl, by rw [hU], by rw [hU]; exact hP, va_K.moved hW.alike hK, hD.weaken (fun _ _ _ _ => trivial)⟩⟩ rfl rfl hl.1 rfl (lv_room (Nat.le_of_ble_eq_true rfl)) dX9_figure_126 ⟨Nat.zero_le _, Nat.zero_le _⟩) hS (fun q _ h => hF40 q h) hF40 (fun u t H locs ht hvm hw hB hz1 hk1 hS => ?_)
          cases hw
          obtain ⟨hP, hK9, hD⟩ := hB
          rw [ht] at hP
          have hP : va_P (dC, dI) vwCl (wM cI cB cJ Q B I38 A39) H := hP
          have hD : va_D AA (wM cI cB cJ Q B I38 A39) := hD.weaken (fun _ _ _ h => hF40 _ h)
          exact sg129  I38 A39 v1 v2 H locs ls hf hP hD hS (lv_sub hl [0, 1, 2] rfl)
  have sg61 : ∀ (I : Nat → Int32) (A : Nat → Nat → Int32) (v1 : Int32) (v2 : Int32) (v3 : Int32) (t0 : Int32) (t1 : Int32) (H : Heap) (locs : List Loc) (ls : Array Slot), fX9_figure_61 B  I A v1 v2 v3 t0 t1 = some z → va_P (dC, dI) vwCl (wM cI cB cJ Q B I A) H → va_D AA (wM cI cB cJ Q B I A) → va_S AA s.heap H locs → lv_has ls 7 [(0, .ref (Q 100)), (1, .int v1), (2, .int v2), (3, .int v3)] → W p l e (headSpec wsX9_figure ({ frames := 3, cells := 0, slots := 0, locals := 69 })).room s m (([.ref (Q 100), .int x1, .int x2] : List Value).toArray) below meth c H locs 0 0 (MQ below (va_Qi (fun (r : Int32) (u : (Nat → Int32) × (Nat → Nat → Int32)) => (r, u) = z) (atM dC dI cI cB cJ Q B AA) AA) (([.ref (Q 100), .int x1, .int x2] : List Value).toArray) s 0 0 AA) (F0 m 61 ls [.int t0, .int t1, .ref (Q 100)]) := by
    intro I A v1 v2 v3 t0 t1 H locs ls hf hP hD hS hl
    unfold fX9_figure_61 at hf
    obtain ⟨⟨I14, A15⟩, hc13, hf⟩ := of_bind_some hf
    have hF16 := va_freeAll hD hS hA
    refine va_callv (va_runV (As := [.int t1, .int t0]) (rest := []) ⟨hx, hb, hml, hown, hts⟩ (mX9_showsNumeral l dC dI cI cB cJ Q B I A t1 t0 H.size _ hc13) (cwV 2 hts gX9_figure_X9_showsNumeral rfl rfl rfl (by decide +kernel) ⟨Nat.le_of_ble_eq_true rfl, Nat.le_of_ble_eq_true rfl⟩) ⟨blindW, va_recv hK hP (ci := 6) (q0 := 0) rfl rfl, fun U hU hW => ⟨rfl, by rw [hU], by rw [hU]; exact hP, va_K.moved hW.alike hK, hD.weaken (fun _ _ _ _ => trivial)⟩⟩ rfl rfl hl.1 rfl (lv_room (Nat.le_of_ble_eq_true rfl)) dX9_figure_61 ⟨Nat.zero_le _, Nat.zero_le _⟩) hS (fun q _ h => hF16 q h) hF16 (fun u t H locs ht hvm hw hB hz1 hk1 hS => ?_)
    cases hw
    obtain ⟨hP, hK9, hD⟩ := hB
    rw [ht] at hP
    have hP : va_P (dC, dI) vwCl (wM cI cB cJ Q B I14 A15) H := hP
    have hD : va_D AA (wM cI cB cJ Q B I14 A15) := hD.weaken (fun _ _ _ h => hF16 _ h)
    refine lv_iload_n hx hb dX9_figure_64 rfl (lv_at hl 3 rfl) ?_
    refine lv_if_eq (tgt := 94) hx hb dX9_figure_65 (by decide) (fun c17 => ?_) (fun c17 => ?_)
    · have hf := (if_pos c17).symm.trans hf
      exact sg94  I14 A15 v1 v2 H locs ls hf hP hD hS (lv_sub hl [0, 1, 2] rfl)
    · have hf := (if_neg c17).symm.trans hf
      refine lv_aload_n hx hb dX9_figure_68 rfl (lv_at hl 0 rfl) ?_
      refine lv_iload_n hx hb dX9_figure_69 rfl (lv_at hl 1 rfl) ?_
      refine lv_bipush (v := (6 : Int32)) hx hb dX9_figure_70 (by decide) ?_
      obtain ⟨r18, hc19, hf⟩ := of_bind_some hf
      refine W.callR (r := r18) (W.runV (As := [.int v1, .int (6 : Int32)]) (rest := []) ⟨hx, hb, hml, hown, hts⟩ (mX9_hasHalf l dC dI cI cB cJ Q B I14 A15 v1 (6 : Int32) r18 hc19) (cwV 2 hts gX9_figure_X9_hasHalf rfl rfl rfl (by decide +kernel) ⟨Nat.le_of_ble_eq_true rfl, Nat.le_of_ble_eq_true rfl⟩) ⟨blindR, va_recv hK hP (ci := 6) (q0 := 0) rfl rfl, fun U hU hW => ⟨rfl, by rw [hU]; exact hP, va_K.moved hW.alike hK⟩⟩ rfl rfl hl.1 rfl (lv_room (Nat.le_of_ble_eq_true rfl)) dX9_figure_72 ⟨Nat.zero_le _, Nat.zero_le _⟩) ?_
      refine W.eq (g2 := F0 m 75 ls [.int r18]) rfl ?_
      refine lv_if_eq (tgt := 94) hx hb dX9_figure_75 (by decide) (fun c20 => ?_) (fun c20 => ?_)
      · have hf := (if_pos c20).symm.trans hf
        exact sg94  I14 A15 v1 v2 H locs ls hf hP hD hS (lv_sub hl [0, 1, 2] rfl)
      · have hf := (if_neg c20).symm.trans hf
        refine lv_aload_n hx hb dX9_figure_78 rfl (lv_at hl 0 rfl) ?_
        refine lv_iload_n hx hb dX9_figure_79 rfl (lv_at hl 1 rfl) ?_
        refine lv_bipush (v := (7 : Int32)) hx hb dX9_figure_80 (by decide) ?_
        obtain ⟨r21, hc22, hf⟩ := of_bind_some hf
        refine W.callR (r := r21) (W.runV (As := [.int v1, .int (7 : Int32)]) (rest := []) ⟨hx, hb, hml, hown, hts⟩ (mX9_hasHalf l dC dI cI cB cJ Q B I14 A15 v1 (7 : Int32) r21 hc22) (cwV 2 hts gX9_figure_X9_hasHalf rfl rfl rfl (by decide +kernel) ⟨Nat.le_of_ble_eq_true rfl, Nat.le_of_ble_eq_true rfl⟩) ⟨blindR, va_recv hK hP (ci := 6) (q0 := 0) rfl rfl, fun U hU hW => ⟨rfl, by rw [hU]; exact hP, va_K.moved hW.alike hK⟩⟩ rfl rfl hl.1 rfl (lv_room (Nat.le_of_ble_eq_true rfl)) dX9_figure_82 ⟨Nat.zero_le _, Nat.zero_le _⟩) ?_
        refine W.eq (g2 := F0 m 85 ls [.int r21]) rfl ?_
        refine lv_if_ne (tgt := 94) hx hb dX9_figure_85 (by decide) (fun c23 => ?_) (fun c23 => ?_)
        · have hf := (if_neg c23).symm.trans hf
          exact sg94  I14 A15 v1 v2 H locs ls hf hP hD hS (lv_sub hl [0, 1, 2] rfl)
        · have hf := (if_pos c23).symm.trans hf
          refine lv_aload_n hx hb dX9_figure_88 rfl (lv_at hl 0 rfl) ?_
          refine lv_bipush (v := (111 : Int32)) hx hb dX9_figure_89 (by decide) ?_
          obtain ⟨⟨I25, A26⟩, hc24, hf⟩ := of_bind_some hf
          have hF27 := va_freeAll hD hS hA
          refine va_callv (va_runV (As := [.int (111 : Int32)]) (rest := []) ⟨hx, hb, hml, hown, hts⟩ (mX9_shows l dC dI cI cB cJ Q B I14 A15 (111 : Int32) H.size _ hc24) (cwV 1 hts gX9_figure_X9_shows rfl rfl rfl (by decide +kernel) ⟨Nat.le_of_ble_eq_true rfl, Nat.le_of_ble_eq_true rfl⟩) ⟨blindW, va_recv hK hP (ci := 6) (q0 := 0) rfl rfl, fun U hU hW => ⟨rfl, by rw [hU], by rw [hU]; exact hP, va_K.moved hW.alike hK, hD.weaken (fun _ _ _ _ => trivial)⟩⟩ rfl rfl hl.1 rfl (lv_room (Nat.le_of_ble_eq_true rfl)) dX9_figure_91 ⟨Nat.zero_le _, Nat.zero_le _⟩) hS (fun q _ h => hF27 q h) hF27 (fun u t H locs ht hvm hw hB hz1 hk1 hS => ?_)
          cases hw
          obtain ⟨hP, hK9, hD⟩ := hB
          rw [ht] at hP
          have hP : va_P (dC, dI) vwCl (wM cI cB cJ Q B I25 A26) H := hP
          have hD : va_D AA (wM cI cB cJ Q B I25 A26) := hD.weaken (fun _ _ _ h => hF27 _ h)
          exact sg94  I25 A26 v1 v2 H locs ls hf hP hD hS (lv_sub hl [0, 1, 2] rfl)
  have hl := lv_entry ([.ref (Q 100), .int x1, .int x2]) (n := 7) (Nat.le_of_ble_eq_true rfl)
  rw [lg_entry_eq]
  generalize (lg_sl ([.ref (Q 100), .int x1, .int x2]) ++ List.replicate (7 - (lg_sl ([.ref (Q 100), .int x1, .int x2])).length) Slot.unset).toArray = ls at hl ⊢
  have hl : lv_has ls 7 [(0, .ref (Q 100)), (1, .int x1), (2, .int x2)] := hl
  unfold fX9_figure at hf
  refine lv_aload_n hx hb dX9_figure_0 rfl (lv_at hl 0 rfl) ?_
  refine lv_iload_n hx hb dX9_figure_1 rfl (lv_at hl 1 rfl) ?_
  obtain ⟨r1, hc2, hf⟩ := of_bind_some hf
  refine W.callR (r := r1) (W.runV (As := [.int x1]) (rest := []) ⟨hx, hb, hml, hown, hts⟩ (mX9_isChord l dC dI cI cB cJ Q B I A x1 r1 hc2) (cwV 1 hts gX9_figure_X9_isChord rfl rfl rfl (by decide +kernel) ⟨Nat.le_of_ble_eq_true rfl, Nat.le_of_ble_eq_true rfl⟩) ⟨blindR, va_recv hK hP (ci := 6) (q0 := 0) rfl rfl, fun U hU hW => ⟨rfl, by rw [hU]; exact hP, va_K.moved hW.alike hK⟩⟩ rfl rfl hl.1 rfl (lv_room (Nat.le_of_ble_eq_true rfl)) dX9_figure_2 ⟨Nat.zero_le _, Nat.zero_le _⟩) ?_
  refine W.eq (g2 := F0 m 5 ls [.int r1]) rfl ?_
  refine lv_if_eq (tgt := 18) hx hb dX9_figure_5 (by decide) (fun c3 => ?_) (fun c3 => ?_)
  · have hf := (if_pos c3).symm.trans hf
    refine lv_iconst (v := (-1 : Int32)) hx hb dX9_figure_18 (by decide) ?_
    exact W.iret (v := (-1 : Int32)) hx hb hr (fun t ht hW => ⟨⟨(-1 : Int32), (I, A), rfl, Option.some.inj hf, by rw [ht]; exact hP, va_K.moved hW.alike hK, hD⟩, hS.F ht⟩) hS.2.2 dX9_figure_19
  · have hf := (if_neg c3).symm.trans hf
    refine lv_iload_n hx hb dX9_figure_8 rfl (lv_at hl 2 rfl) ?_
    refine lv_iconst (v := (0 : Int32)) hx hb dX9_figure_9 (by decide) ?_
    refine lv_bipush (v := (11 : Int32)) hx hb dX9_figure_10 (by decide) ?_
    refine W.callR (r := (fX9_isIn x2 (0 : Int32) (11 : Int32))) (W.runS (As := [.int x2, .int (0 : Int32), .int (11 : Int32)]) (rest := []) ⟨hx, hb, hml, hown, hts⟩ (mX9_isIn l x2 (0 : Int32) (11 : Int32) (fX9_isIn x2 (0 : Int32) (11 : Int32)) rfl) (va_cwS 3 hts gX9_figure_X9_isIn rfl rfl rfl (by decide +kernel) ⟨Nat.le_of_ble_eq_true rfl, Nat.le_of_ble_eq_true rfl⟩) ⟨fun _ _ _ _ q => q, fun U hU hW => ⟨rfl, trivial⟩⟩ rfl rfl hl.1 rfl (lv_room (Nat.le_of_ble_eq_true rfl)) dX9_figure_12 ⟨Nat.zero_le _, Nat.zero_le _⟩) ?_
    refine W.eq (g2 := F0 m 15 ls [.int (fX9_isIn x2 (0 : Int32) (11 : Int32))]) rfl ?_
    refine lv_if_ne (tgt := 20) hx hb dX9_figure_15 (by decide) (fun c4 => ?_) (fun c4 => ?_)
    · have hf := (if_neg c4).symm.trans hf
      refine lv_aload_n hx hb dX9_figure_20 rfl (lv_at hl 0 rfl) ?_
      refine lv_iconst (v := (0 : Int32)) hx hb dX9_figure_21 (by decide) ?_
      refine va_put (D := (dC, dI)) (ci := 6) (v := .int (0 : Int32)) (ty := .int) (C := RX9) (T := TX9) (N := 36) hx hb hts hinX9 tyX9 tyX9_ok nmX9 hown hK hP hD hS 0 (fs := (oM Q I)) rfl rfl 8 (by decide) hk304 (fun _ h9 => h9) rfl (by decide +kernel) rfl rfl (Nat.le_of_ble_eq_true rfl) dX9_figure_22 (fun H locs hP hD hS => ?_)
      have hP : va_P (dC, dI) vwCl (wM cI cB cJ Q B (upd I 8 (0 : Int32)) A) H := Eq.mp (congrArg (fun w => va_P (dC, dI) vwCl w H) (wMI_8 cI cB cJ Q B I A (0 : Int32))) hP
      have hD : va_D AA (wM cI cB cJ Q B (upd I 8 (0 : Int32)) A) := Eq.mp (congrArg (fun w => va_D AA w) (wMI_8 cI cB cJ Q B I A (0 : Int32))) hD
      refine lv_aload_n hx hb dX9_figure_25 rfl (lv_at hl 0 rfl) ?_
      refine lv_iload_n hx hb dX9_figure_26 rfl (lv_at hl 1 rfl) ?_
      refine lv_iconst (v := (3 : Int32)) hx hb dX9_figure_27 (by decide) ?_
      obtain ⟨r5, hc6, hf⟩ := of_bind_some hf
      refine W.callR (r := r5) (W.runV (As := [.int x1, .int (3 : Int32)]) (rest := []) ⟨hx, hb, hml, hown, hts⟩ (mX9_hasHalf l dC dI cI cB cJ Q B (upd I 8 (0 : Int32)) A x1 (3 : Int32) r5 hc6) (cwV 2 hts gX9_figure_X9_hasHalf rfl rfl rfl (by decide +kernel) ⟨Nat.le_of_ble_eq_true rfl, Nat.le_of_ble_eq_true rfl⟩) ⟨blindR, va_recv hK hP (ci := 6) (q0 := 0) rfl rfl, fun U hU hW => ⟨rfl, by rw [hU]; exact hP, va_K.moved hW.alike hK⟩⟩ rfl rfl hl.1 rfl (lv_room (Nat.le_of_ble_eq_true rfl)) dX9_figure_28 ⟨Nat.zero_le _, Nat.zero_le _⟩) ?_
      refine W.eq (g2 := F0 m 31 ls [.int r5]) rfl ?_
      refine lv_istore_n (lv' := [(3, .int r5), (0, .ref (Q 100)), (1, .int x1), (2, .int x2)]) hx hb dX9_figure_31 rfl hl (by decide) rfl (fun ls hl => ?_)
      refine lv_aload_n hx hb dX9_figure_32 rfl (lv_at hl 1 rfl) ?_
      refine lv_aload_n hx hb dX9_figure_33 rfl (lv_at hl 1 rfl) ?_
      refine lv_iload_n hx hb dX9_figure_34 rfl (lv_at hl 2 rfl) ?_
      obtain ⟨r7, hc8, hf⟩ := of_bind_some hf
      refine W.callR (r := r7) (W.runV (As := [.int x1]) (rest := [.ref (Q 100)]) ⟨hx, hb, hml, hown, hts⟩ (mX9_rootOf l dC dI cI cB cJ Q B (upd I 8 (0 : Int32)) A x1 r7 hc8) (cwV 1 hts gX9_figure_X9_rootOf rfl rfl rfl (by decide +kernel) ⟨Nat.le_of_ble_eq_true rfl, Nat.le_of_ble_eq_true rfl⟩) ⟨blindR, va_recv hK hP (ci := 6) (q0 := 0) rfl rfl, fun U hU hW => ⟨rfl, by rw [hU]; exact hP, va_K.moved hW.alike hK⟩⟩ rfl rfl hl.1 rfl (lv_room (Nat.le_of_ble_eq_true rfl)) dX9_figure_35 ⟨Nat.zero_le _, Nat.zero_le _⟩) ?_
      refine W.eq (g2 := F0 m 38 ls [.int r7, .ref (Q 100)]) rfl ?_
      refine lv_iload_n hx hb dX9_figure_38 rfl (lv_at hl 3 rfl) ?_
      refine lv_isub hx hb dX9_figure_39 ?_
      refine W.callR (r := (fX9_mod12 (r7 - x2))) (W.runS (As := [.int (r7 - x2)]) (rest := [.ref (Q 100)]) ⟨hx, hb, hml, hown, hts⟩ (mX9_mod12 l (r7 - x2) (fX9_mod12 (r7 - x2)) rfl) (va_cwS 1 hts gX9_figure_X9_mod12 rfl rfl rfl (by decide +kernel) ⟨Nat.le_of_ble_eq_true rfl, Nat.le_of_ble_eq_true rfl⟩) ⟨fun _ _ _ _ q => q, fun U hU hW => ⟨rfl, trivial⟩⟩ rfl rfl hl.1 rfl (lv_room (Nat.le_of_ble_eq_true rfl)) dX9_figure_40 ⟨Nat.zero_le _, Nat.zero_le _⟩) ?_
      refine W.eq (g2 := F0 m 43 ls [.int (fX9_mod12 (r7 - x2)), .ref (Q 100)]) rfl ?_
      refine lv_iload_n hx hb dX9_figure_43 rfl (lv_at hl 0 rfl) ?_
      refine lv_if_eq (tgt := 60) hx hb dX9_figure_44 (by decide) (fun c9 => ?_) (fun c9 => ?_)
      · have hf := (if_pos c9).symm.trans hf
        refine lv_iconst (v := (0 : Int32)) hx hb dX9_figure_60 (by decide) ?_
        exact sg61  (upd I 8 (0 : Int32)) A x1 x2 r5 (0 : Int32) (fX9_mod12 (r7 - x2)) H locs ls hf hP hD hS (lv_sub hl [1, 2, 3, 0] rfl)
      · have hf := (if_neg c9).symm.trans hf
        refine lv_aload_n hx hb dX9_figure_47 rfl (lv_at hl 1 rfl) ?_
        refine lv_iload_n hx hb dX9_figure_48 rfl (lv_at hl 2 rfl) ?_
        refine lv_iconst (v := (4 : Int32)) hx hb dX9_figure_49 (by decide) ?_
        obtain ⟨r10, hc11, hf⟩ := of_bind_some hf
        refine W.callR (r := r10) (W.runV (As := [.int x1, .int (4 : Int32)]) (rest := [.int (fX9_mod12 (r7 - x2)), .ref (Q 100)]) ⟨hx, hb, hml, hown, hts⟩ (mX9_hasHalf l dC dI cI cB cJ Q B (upd I 8 (0 : Int32)) A x1 (4 : Int32) r10 hc11) (cwV 2 hts gX9_figure_X9_hasHalf rfl rfl rfl (by decide +kernel) ⟨Nat.le_of_ble_eq_true rfl, Nat.le_of_ble_eq_true rfl⟩) ⟨blindR, va_recv hK hP (ci := 6) (q0 := 0) rfl rfl, fun U hU hW => ⟨rfl, by rw [hU]; exact hP, va_K.moved hW.alike hK⟩⟩ rfl rfl hl.1 rfl (lv_room (Nat.le_of_ble_eq_true rfl)) dX9_figure_50 ⟨Nat.zero_le _, Nat.zero_le _⟩) ?_
        refine W.eq (g2 := F0 m 53 ls [.int r10, .int (fX9_mod12 (r7 - x2)), .ref (Q 100)]) rfl ?_
        refine lv_if_ne (tgt := 60) hx hb dX9_figure_53 (by decide) (fun c12 => ?_) (fun c12 => ?_)
        · have hf := (if_neg c12).symm.trans hf
          refine lv_iconst (v := (0 : Int32)) hx hb dX9_figure_60 (by decide) ?_
          exact sg61  (upd I 8 (0 : Int32)) A x1 x2 r5 (0 : Int32) (fX9_mod12 (r7 - x2)) H locs ls hf hP hD hS (lv_sub hl [1, 2, 3, 0] rfl)
        · have hf := (if_pos c12).symm.trans hf
          refine lv_iconst (v := (1 : Int32)) hx hb dX9_figure_56 (by decide) ?_
          refine lv_goto (tgt := 61) hx hb dX9_figure_57 (by decide) ?_
          exact sg61  (upd I 8 (0 : Int32)) A x1 x2 r5 (1 : Int32) (fX9_mod12 (r7 - x2)) H locs ls hf hP hD hS (lv_sub hl [1, 2, 3, 0] rfl)
    · have hf := (if_pos c4).symm.trans hf
      refine lv_iconst (v := (-1 : Int32)) hx hb dX9_figure_18 (by decide) ?_
      exact W.iret (v := (-1 : Int32)) hx hb hr (fun t ht hW => ⟨⟨(-1 : Int32), (I, A), rfl, Option.some.inj hf, by rw [ht]; exact hP, va_K.moved hW.alike hK, hD⟩, hS.F ht⟩) hS.2.2 dX9_figure_19
