def pzKf (b : Nat → Nat) (n p : Nat) (o : Option Nat) : Option Nat := if o = some 0 ∧ p + 2 < n ∧ b (p + 1) = 97 ∧ b (p + 2) = 106 then none else o
set_option maxRecDepth 10000 in
theorem pz_loLe {b : Nat → Nat} {n p i : Nat} {o : Option Nat} (h : pzLo b n p i o) (hp : p ≤ n) : p + pzLw i o ≤ n := by
  cases o with
  | none => exact hp
  | some j => exact (pzSt_iff.mp h.2.1).1
set_option maxRecDepth 10000 in
theorem pz_tcUp {I : Nat → Int32} {A : Nat → Nat → Int32} {b : Nat → Nat} {n p q : Nat} (h : pzTc I A b n p) (hq : q ≤ n) : pzTc (upd I 2 (pzN q)) A b n q := ⟨h.1, hq, by rw [pz_upd_ne _ _ (by decide)]; exact h.2.2.1, pz_upd_eq _ _ _, h.2.2.2.2⟩
set_option maxRecDepth 10000 in
theorem pz_m60 : (pzTw 6 0).length = 1 := by decide +kernel
set_option maxRecDepth 10000 in
theorem pz_cKind {I : Nat → Int32} {A : Nat → Nat → Int32} {b : Nat → Nat} {n p : Nat} (h : pzTc I A b n p) {o : Option Nat} (ho : pzLo b n p 6 o) :
    ∃ I', fX5_readKind I A = some (pzO1 (pzKf b n p o), I', A) ∧ pzTc I' A b n (p + pzLw 6 (pzKf b n p o)) ∧ ∀ j, j ≠ 2 → I' j = I j := by
  obtain ⟨o', ho', e⟩ := pz_cLongest h (i := 6) (by omega) (by omega)
  have := pzLo_uniq (by omega) (by omega) ho ho'
  subst this
  have hle := pz_loLe ho h.2.1
  have h40 := h.1
  unfold fX5_readKind
  rw [e]
  simp only [Option.bind_some]
  have T1 := pz_tcUp h hle
  by_cases h0 : o = some 0
  · subst h0
    have hl1 : pzLw 6 (some 0) = 1 := pz_m60
    rw [hl1] at T1 hle
    rw [if_pos (show pzO1 (some 0) = 0 from rfl), pz_upd_eq, hl1, pz_byteAt T1 (by omega), Option.bind_some, pzN_suc, pz_byteAt T1 (by omega), Option.bind_some]
    unfold pzKf
    by_cases c1 : p + 1 < n
    · have hb := (h.2.2.2.2 (p + 1) c1).2
      rw [if_pos c1]
      have e97 : (pzN (b (p + 1)) = 97) ↔ b (p + 1) = 97 := pzN_inj (b := 97) (by omega) (by omega)
      by_cases c2 : b (p + 1) = 97
      · rw [if_pos (e97.mpr c2)]
        by_cases c3 : p + 1 + 1 < n
        · have hb2 := (h.2.2.2.2 (p + 1 + 1) c3).2
          have e106 : (pzN (b (p + 1 + 1)) = 106) ↔ b (p + 1 + 1) = 106 := pzN_inj (b := 106) (by omega) (by omega)
          rw [if_pos c3]
          by_cases c4 : b (p + 1 + 1) = 106
          · rw [if_pos (e106.mpr c4), if_pos ⟨rfl, c3, c2, c4⟩]
            refine ⟨_, rfl, ?_, fun j hj => ?_⟩
            · rw [h.2.2.2.1]
              exact pz_tcUp T1 h.2.1
            · rw [pz_upd_ne _ _ hj, pz_upd_ne _ _ hj]
          · rw [if_neg (fun q => c4 (e106.mp q)), if_neg (fun q => c4 q.2.2.2)]
            exact ⟨_, rfl, by rw [hl1]; exact T1, fun j hj => pz_upd_ne _ _ hj⟩
        · rw [if_neg c3, if_neg (show ¬ (-1 : Int32) = 106 by decide), if_neg (fun q => c3 q.2.1)]
          exact ⟨_, rfl, by rw [hl1]; exact T1, fun j hj => pz_upd_ne _ _ hj⟩
      · rw [if_neg (fun q => c2 (e97.mp q)), if_neg (fun q => c2 q.2.2.1)]
        exact ⟨_, rfl, by rw [hl1]; exact T1, fun j hj => pz_upd_ne _ _ hj⟩
    · rw [if_neg c1, if_neg (show ¬ (-1 : Int32) = 97 by decide), if_neg (fun q => c1 (by omega))]
      exact ⟨_, rfl, by rw [hl1]; exact T1, fun j hj => pz_upd_ne _ _ hj⟩
  · have hk : pzKf b n p o = o := by unfold pzKf; rw [if_neg (fun q => h0 q.1)]
    have hne : ¬ pzO1 o = 0 := by
      cases o with
      | none => decide
      | some j =>
        have : j < 7 := by have := ho.1; have e : pzTm 6 = 7 := pz_wr16.1; omega
        intro q
        have : j = 0 := (pzN_inj (a := j) (b := 0) (by omega) (by omega)).mp q
        exact h0 (by rw [this])
    rw [if_neg hne, hk]
    exact ⟨_, rfl, T1, fun j hj => pz_upd_ne _ _ hj⟩
/-! kinds and sizes -/
def pzKm (k : Option Nat) : Nat := match k with
  | none => 73
  | some j => [69, 69, 37, 37, 137, 137, 65].getD j 0
def pzZm (o : Option Nat) : Nat := match o with
  | none => 0
  | some j => [256, 8448, 1024, 2048, 2048, 9216, 10240, 10240, 41984, 43008, 43008, 304128, 305152, 305152].getD j 0
def pzDb2 (k : Option Nat) : Bool := k == some 2 || k == some 3
def pzMs (k o : Option Nat) : Nat := if k = some 6 then pzKm k else pzKm k ||| (if pzDb2 k = true ∧ ¬ pzZm o &&& 1024 = 0 then pzZm o ^^^ 1536 else pzZm o)
def pzLs (k o : Option Nat) : List Nat := if k = some 6 then pzKl k else pzKl k ++ pzSl (pzDb2 k) (o.map (pzPm 5))
def pzDe (m k : Nat) : Option Nat := if k < m then some k else none
set_option maxRecDepth 10000 in
theorem pz_lsChk : ∀ k, k < 8 → ∀ o, o < 15 → (decide (pzMs (pzDe 7 k) (pzDe 14 o) < 524288) && (List.range 19).all (fun i => (pzMs (pzDe 7 k) (pzDe 14 o)).testBit i == (pzLs (pzDe 7 k) (pzDe 14 o)).contains i) && (List.range (pzLs (pzDe 7 k) (pzDe 14 o)).length).all (fun i => decide ((pzLs (pzDe 7 k) (pzDe 14 o)).getD i 0 < 19) && (List.range (pzLs (pzDe 7 k) (pzDe 14 o)).length).all (fun j => i == j || !((pzLs (pzDe 7 k) (pzDe 14 o)).getD i 0 == (pzLs (pzDe 7 k) (pzDe 14 o)).getD j 0))) && !((pzMs (pzDe 7 k) (pzDe 14 o)).testBit 2 && (pzMs (pzDe 7 k) (pzDe 14 o)).testBit 3) && !((pzMs (pzDe 7 k) (pzDe 14 o)).testBit 5 && (pzMs (pzDe 7 k) (pzDe 14 o)).testBit 6) && !((pzMs (pzDe 7 k) (pzDe 14 o)).testBit 5 && (pzMs (pzDe 7 k) (pzDe 14 o)).testBit 7) && !((pzMs (pzDe 7 k) (pzDe 14 o)).testBit 6 && (pzMs (pzDe 7 k) (pzDe 14 o)).testBit 7) && decide ((pzKl (pzDe 7 k)).length ≤ 3)) = true := by decide +kernel
set_option maxRecDepth 10000 in
theorem pz_ls {k o : Option Nat} (hk : ∀ j, k = some j → j < 7) (ho : ∀ j, o = some j → j < 14) : pzMm (pzLs k o) (pzMs k o) ∧ pzNd (pzLs k o) ∧ pzOk (pzMs k o) ∧ (pzKl k).length ≤ 3 := by
  have ek : ∃ a, a < 8 ∧ pzDe 7 a = k := by
    cases k with
    | none => exact ⟨7, by omega, rfl⟩
    | some j => exact ⟨j, by have := hk j rfl; omega, by unfold pzDe; rw [if_pos (hk j rfl)]⟩
  have eo : ∃ a, a < 15 ∧ pzDe 14 a = o := by
    cases o with
    | none => exact ⟨14, by omega, rfl⟩
    | some j => exact ⟨j, by have := ho j rfl; omega, by unfold pzDe; rw [if_pos (ho j rfl)]⟩
  obtain ⟨a, ha, rfl⟩ := ek
  obtain ⟨c, hc, rfl⟩ := eo
  have h := pz_lsChk a ha c hc
  simp only [Bool.and_eq_true, decide_eq_true_eq, List.all_eq_true, List.mem_range, Bool.or_eq_true, Bool.not_eq_true', beq_iff_eq] at h
  obtain ⟨⟨⟨⟨⟨⟨⟨h1, h2⟩, h3⟩, h4⟩, h5⟩, h6⟩, h7⟩, h8⟩ := h
  have nn : ∀ x y : Bool, (x && y) = false → ¬ (x = true ∧ y = true) := by intro x y h q; rw [q.1, q.2] at h; cases h
  refine ⟨⟨h1, fun i hi => ?_⟩, ⟨fun i j hi hj e => ?_, fun i hi => (h3 i hi).1⟩, ⟨h1, nn _ _ h4, nn _ _ h5, nn _ _ h6, nn _ _ h7⟩, h8⟩
  · rw [h2 i hi, List.contains_iff_mem]
  · rcases (h3 i hi).2 j hj with q | q
    · exact q
    · rw [e] at q
      simp at q
set_option maxRecDepth 10000 in
theorem pz_kTab : ∀ j, j < 7 → fX8_entry (sN 5) (sF 5) (pzN j) = some (pzN (pzKm (some j))) := by decide +kernel
set_option maxRecDepth 10000 in
theorem pz_zTab : (∀ j, j < 14 → fX8_entry (sN 7) (sF 7) (pzN j) = some (pzN (pzZm (some j))) ∧ pzZm (some j) < 524288) ∧ fX8_entry (sN 7) (sF 7) (-1) = some (pzN (pzZm none)) := by decide +kernel
set_option maxRecDepth 10000 in
theorem pz_map6 (o : Option Nat) : o.map (pzPm 6) = o := by cases o <;> rfl
set_option maxRecDepth 10000 in
theorem pz_map7 (o : Option Nat) : o.map (pzPm 7) = o := by cases o <;> rfl
set_option maxRecDepth 10000 in
theorem pz_start {I : Nat → Int32} {A : Nat → Nat → Int32} {Ic : Nat → Int32} {Ac : Nat → Nat → Int32} {b : Nat → Nat} {n p : Nat} (hr : pzTr I A b n p) (hc : pzTc Ic Ac b n p) :
    ∃ (p2 : Nat) (l : List Nat) (s : Nat) (I1 : Nat → Int32) (A1 : Nat → Nat → Int32) (Ic1 : Nat → Int32), fX9_readBody BM I A = ((fX9_word_vchanges BM I1 A1).bind fun r => fX9_readBody_341 BM FU I1 A1 r) ∧ pzTr I1 A1 b n p2 ∧ pzLi I1 A1 l ∧ pzNd l ∧ pzMm l s ∧ pzOk s ∧ pzFc I A I1 A1 ∧ fX5_readKindAndSize Ic Ac = some (pzN s, Ic1, Ac) ∧ pzTc Ic1 Ac b n p2 ∧ (∀ j, j ≠ 2 → Ic1 j = Ic j) ∧ p ≤ p2 := by
  obtain ⟨h40, hpn, r22, r23, r21⟩ := id hr
  obtain ⟨o, ho, _⟩ := pz_cLongest hc (i := 6) (by omega) (by omega)
  obtain ⟨Ik, ek, Tk, Fk⟩ := pz_cKind hc ho
  have o7 : ∀ j, o = some j → j < 7 := fun j hj => by subst hj; have := ho.1; have e : pzTm 6 = 7 := pz_wr16.1; omega
  have k7 : ∀ j, pzKf b n p o = some j → j < 7 := by
    intro j hj
    unfold pzKf at hj
    split at hj
    · cases hj
    · exact o7 j hj
  -- the reference's kind
  obtain ⟨I0, A0, e0, L0, F0⟩ := pz_come (I := upd I 26 0) (A := A) (l := []) ⟨by rw [pz_upd_eq]; rfl, fun k hk => by simp at hk⟩ (by simp) 0 (d := 1) (g := 0) rfl rfl
  have i22 : I0 22 = pzN n := by rw [F0.1 22 (by decide), pz_upd_ne _ _ (by decide)]; exact r22
  have i23 : I0 23 = pzN p := by rw [F0.1 23 (by decide), pz_upd_ne _ _ (by decide)]; exact r23
  have a21 : A0 21 = A 21 := F0.2 21 (by decide) (by decide)
  have T0 : pzTr I0 A0 b n p := ⟨h40, hpn, i22, i23, by rw [a21]; exact r21⟩
  have FI0 : pzFc I A I0 A0 := ⟨fun j j1 j2 => (F0.1 j j1).trans (pz_upd_ne _ _ j1), F0.2⟩
  rw [List.nil_append] at L0
  have eK : fX9_readBody BM I A = fX9_readBody_72 BM I0 A0 (pzO3 (pzKf b n p o)) := by
    unfold fX9_readBody
    rw [e0]
    simp only [Option.bind_some]
    rw [pz_wordK T0 ho, Option.bind_some, pz_map6, i22, i23]
    simp only [show (2 : Int32) = pzN 2 from rfl, pzN_suc, pzN_add]
    by_cases h0 : o = some 0
    · subst h0
      rw [if_pos (show pzO3 (some 0) = 0 from rfl)]
      unfold pzKf
      by_cases c1 : p + 2 < n
      · obtain ⟨w1, w2⟩ := r21 (p + 1) (by omega)
        obtain ⟨w3, w4⟩ := r21 (p + 2) c1
        rw [if_neg (by rw [pzN_le (by omega) (by omega)]; omega), pz_gd2 (by omega) (by omega), pz_gd2 (by omega) (by omega), pzN_clamp (n := p + 1) (by omega), pzN_clamp (n := p + 2) (by omega), a21, w1, w3]
        have m97 : ((pzN (b (p + 1))).toInt8.toInt32 = 97) ↔ b (p + 1) = 97 := pz_s8 (c := 97) w2 (by omega)
        have m106 : ((pzN (b (p + 2))).toInt8.toInt32 = 106) ↔ b (p + 2) = 106 := pz_s8 (c := 106) w4 (by omega)
        by_cases c2 : b (p + 1) = 97
        · rw [if_pos (m97.mpr c2)]
          by_cases c3 : b (p + 2) = 106
          · rw [if_pos (m106.mpr c3), if_pos ⟨rfl, c1, c2, c3⟩]
            rfl
          · rw [if_neg (fun q => c3 (m106.mp q)), if_neg (fun q => c3 q.2.2.2)]
        · rw [if_neg (fun q => c2 (m97.mp q)), if_neg (fun q => c2 q.2.2.1)]
      · rw [if_pos (by rw [pzN_le (by omega) (by omega)]; omega), if_neg (fun q => c1 q.2.1)]
    · have hk : pzKf b n p o = o := by unfold pzKf; rw [if_neg (fun q => h0 q.1)]
      have hne : ¬ pzO3 o = 0 := by
        cases o with
        | none => decide
        | some j =>
          have := o7 j rfl
          intro q
          have : j = 0 := (pzN_inj (a := j) (b := 0) (by omega) (by omega)).mp q
          exact h0 (by rw [this])
      rw [if_neg hne, hk]
  obtain ⟨I1, A1, e1, L1, p1, F1⟩ := pz_stK (p := p) L0 i23 (pzKf b n p o) k7
  have hp1 : p + pzLw 6 (pzKf b n p o) ≤ n := Tk.2.1
  have T1 : pzTr I1 A1 b n (p + pzLw 6 (pzKf b n p o)) := ⟨h40, hp1, (F1.1 22 (by decide) (by decide)).trans i22, p1, by rw [F1.2 21 (by decide) (by decide), a21]; exact r21⟩
  generalize hkk : pzKf b n p o = k at *
  have hdim : pzDi k = pzSm (pzDb2 k) := by
    unfold pzDi pzDb2
    by_cases q : k = some 2 ∨ k = some 3
    · rw [if_pos q]
      rcases q with rfl | rfl <;> rfl
    · rw [if_neg q]
      have : (k == some 2 || k == some 3) = false := by
        rw [Bool.or_eq_false_iff]
        exact ⟨beq_eq_false_iff_ne.mpr (fun e => q (Or.inl e)), beq_eq_false_iff_ne.mpr (fun e => q (Or.inr e))⟩
      rw [this]; rfl
  have kne : ∀ j, j < 7 → (pzO1 k = pzN j ↔ k = some j) := by
    intro j hj
    cases k with
    | none => exact ⟨fun q => absurd q.symm (pzN_ne1 (by omega)), fun q => by cases q⟩
    | some i =>
      have := k7 i rfl
      show pzN i = pzN j ↔ _
      rw [pzN_inj (by omega) (by omega)]
      exact ⟨fun q => by rw [q], fun q => Option.some.inj q⟩
  -- the class's kind
  have eC : fX5_readKindAndSize Ic Ac = fX5_readKindAndSize_22 Ik Ac (pzO1 k) (pzN (pzKm k)) := by
    unfold fX5_readKindAndSize
    rw [ek]
    simp only [Option.bind_some]
    cases k with
    | none => rw [if_pos (show pzO1 none = -1 from rfl)]; rfl
    | some j =>
      have := k7 j rfl
      rw [if_neg (show ¬ pzO1 (some j) = -1 from pzN_ne1 (by omega)), show pzO1 (some j) = pzN j from rfl, pz_kTab j this, Option.bind_some]
  by_cases k6 : k = some 6
  · rw [if_pos k6] at e1
    obtain ⟨ls1, ls2, ls3, ls4⟩ := pz_ls (k := k) (o := none) k7 (fun j hj => by cases hj)
    rw [hdim] at e1
    have hL : pzLs k none = pzKl k := by unfold pzLs; rw [if_pos k6]
    have hM : pzMs k none = pzKm k := by unfold pzMs; rw [if_pos k6]
    rw [hL, hM] at ls1
    rw [hL] at ls2
    rw [hM] at ls3
    obtain ⟨I2, A2, e2, L2, p2, F2⟩ := pz_stS L1 ls4 p1 (pzDb2 k) none (fun j hj => by cases hj)
    refine ⟨p + pzLw 6 k, pzKl k, pzKm k, I2, A2, Ik, ?_, ⟨h40, hp1, (F2.1 22 (by decide) (by decide)).trans T1.2.2.1, p2, by rw [F2.2 21 (by decide) (by decide)]; exact T1.2.2.2.2⟩, by simpa [pzSl] using L2, ls2, ls1, ls3, pzFc_trans FI0 (pzFc_trans F1 F2), ?_, Tk, Fk, by omega⟩
    · rw [eK, e1]; exact e2
    · rw [eC]
      unfold fX5_readKindAndSize_22
      rw [if_pos (show pzO1 k = 6 from (kne 6 (by omega)).mpr k6)]
  · rw [if_neg k6] at e1
    obtain ⟨o2, ho2, ec2⟩ := pz_cLongest Tk (i := 5) (by omega) (by omega)
    have o14 : ∀ j, o2 = some j → j < 14 := fun j hj => by subst hj; have := ho2.1; have e : pzTm 5 = 14 := pz_wr17.1; omega
    have om14 : ∀ j, o2.map (pzPm 5) = some j → j < 14 := by
      intro j hj
      cases o2 with
      | none => cases hj
      | some i =>
        have := (pz_pm 5 (by omega) (by omega)).1 i (by rw [pz_wr17.1]; exact o14 i rfl)
        rw [pz_wr17.1] at this
        simp only [Option.map_some, Option.some.injEq] at hj
        omega
    have mm2 : (o2.map (pzPm 5)).map (pzPm 5) = o2 := by
      cases o2 with
      | none => rfl
      | some i =>
        have := (pz_pm 5 (by omega) (by omega)).1 i (by rw [pz_wr17.1]; exact o14 i rfl)
        simp only [Option.map_some, this.2]
    obtain ⟨ls1, ls2, ls3, ls4⟩ := pz_ls (k := k) (o := o2) k7 o14
    have hL : pzLs k o2 = pzKl k ++ pzSl (pzDb2 k) (o2.map (pzPm 5)) := by unfold pzLs; rw [if_neg k6]
    have hp2 := pz_loLe ho2 hp1
    rw [hdim] at e1
    obtain ⟨I2, A2, e2, L2, p2, F2⟩ := pz_stS L1 ls4 p1 (pzDb2 k) (o2.map (pzPm 5)) om14
    rw [mm2] at p2
    rw [← hL] at L2
    refine ⟨p + pzLw 6 k + pzLw 5 o2, pzLs k o2, pzMs k o2, I2, A2, upd Ik 2 (pzN (p + pzLw 6 k + pzLw 5 o2)), ?_, ⟨h40, hp2, (F2.1 22 (by decide) (by decide)).trans T1.2.2.1, p2, by rw [F2.2 21 (by decide) (by decide)]; exact T1.2.2.2.2⟩, L2, ls2, ls1, ls3, pzFc_trans FI0 (pzFc_trans F1 F2), ?_, pz_tcUp Tk hp2, fun j hj => (pz_upd_ne _ _ hj).trans (Fk j hj), by omega⟩
    · rw [eK, e1, pz_wordS T1 ho2, Option.bind_some]; exact e2
    · rw [eC]
      unfold fX5_readKindAndSize_22
      rw [if_neg (show ¬ pzO1 k = 6 from fun q => k6 ((kne 6 (by omega)).mp q)), ec2]
      simp only [Option.bind_some]
      have hz : fX8_entry (sN 7) (sF 7) (pzO1 o2) = some (pzN (pzZm o2)) ∧ pzZm o2 < 524288 := by
        cases o2 with
        | none => exact ⟨pz_zTab.2, by decide⟩
        | some j => exact pz_zTab.1 j (o14 j rfl)
      rw [hz.1, Option.bind_some]
      have hms : pzMs k o2 = pzKm k ||| (if pzDb2 k = true ∧ ¬ pzZm o2 &&& 1024 = 0 then pzZm o2 ^^^ 1536 else pzZm o2) := by unfold pzMs; rw [if_neg k6]
      rw [hms]
      have e59 : ∀ t : Bool, t = pzDb2 k → fX5_readKindAndSize_59 (upd Ik 2 (pzN (p + pzLw 6 k + pzLw 5 o2))) Ac (pzN (pzKm k)) (pzN (pzZm o2)) (pzSm t) = some (pzN (pzKm k ||| (if pzDb2 k = true ∧ ¬ pzZm o2 &&& 1024 = 0 then pzZm o2 ^^^ 1536 else pzZm o2)), upd Ik 2 (pzN (p + pzLw 6 k + pzLw 5 o2)), Ac) := by
        intro t ht
        unfold fX5_readKindAndSize_59
        rw [← ht]
        cases t with
        | false => rw [if_pos (show pzSm false = 0 from rfl), pzN_or, if_neg (fun q => by cases q.1)]
        | true =>
          have hb : pzZm o2 &&& 1024 < 524288 := Nat.lt_of_le_of_lt Nat.and_le_left hz.2
          rw [if_neg (show ¬ pzSm true = 0 by decide), show (1024 : Int32) = pzN 1024 from rfl, pzN_and, show (1536 : Int32) = pzN 1536 from rfl, pzN_xor, pzN_or, pzN_or]
          have z : (pzN (pzZm o2 &&& 1024) = 0) ↔ pzZm o2 &&& 1024 = 0 := pzN_inj (b := 0) (by omega) (by omega)
          by_cases hq : pzZm o2 &&& 1024 = 0
          · rw [if_pos (z.mpr hq), if_neg (fun q => q.2 hq)]
          · rw [if_neg (fun q => hq (z.mp q)), if_pos ⟨rfl, hq⟩]
      by_cases q2 : k = some 2
      · rw [if_pos (show pzO1 k = 2 from (kne 2 (by omega)).mpr q2)]
        exact e59 true (by rw [q2]; rfl)
      · rw [if_neg (show ¬ pzO1 k = 2 from fun q => q2 ((kne 2 (by omega)).mp q))]
        by_cases q3 : k = some 3
        · rw [if_pos (show pzO1 k = 3 from (kne 3 (by omega)).mpr q3)]
          exact e59 true (by rw [q3]; rfl)
        · rw [if_neg (show ¬ pzO1 k = 3 from fun q => q3 ((kne 3 (by omega)).mp q))]
          refine e59 false ?_
          unfold pzDb2
          rw [beq_eq_false_iff_ne.mpr q2, beq_eq_false_iff_ne.mpr q3]; rfl
set_option maxRecDepth 10000 in
theorem pz_c7len : ∀ c, c < 13 → 2 ≤ (pzTw 7 c).length := by decide +kernel
/-- what the changes come to, on both sides -/
def pzOut (b : Nat → Nat) (n : Nat) (I : Nat → Int32) (A : Nat → Nat → Int32) (Ic : Nat → Int32) (Ac : Nat → Nat → Int32) (rm : Option (Int32 × (Nat → Int32) × (Nat → Nat → Int32))) (rc : Option (Int32 × (Nat → Int32) × (Nat → Nat → Int32))) : Prop :=
  (∃ (p : Nat) (l : List Nat) (s : Nat) (I' : Nat → Int32) (A' : Nat → Nat → Int32) (Ic' : Nat → Int32), rm = some (-2, I', A') ∧ rc = some (1, Ic', Ac) ∧ pzTr I' A' b n p ∧ pzTc Ic' Ac b n p ∧ Ic' 3 = pzN s ∧ pzLi I' A' l ∧ pzNd l ∧ pzMm l s ∧ pzOk s ∧ pzFc I A I' A' ∧ ∀ j, j ≠ 2 → j ≠ 3 → Ic' j = Ic j) ∨
  (∃ (p : Nat) (I' : Nat → Int32) (A' : Nat → Nat → Int32) (Ic' : Nat → Int32), rm = some (pzN p, I', A') ∧ rc = some (0, Ic', Ac) ∧ p ≤ n ∧ Ic' 2 = pzN p ∧ pzFc I A I' A' ∧ ∀ j, j ≠ 2 → j ≠ 3 → Ic' j = Ic j)
set_option maxRecDepth 10000 in
theorem pz_chLoop {b : Nat → Nat} {n : Nat} {Ac : Nat → Nat → Int32} : ∀ m p l s (I : Nat → Int32) (A : Nat → Nat → Int32) (Ic : Nat → Int32) v f f', n - p ≤ m → m < f → m < f' → pzTr I A b n p → pzLi I A l → pzNd l → pzMm l s → pzOk s → pzTc Ic Ac b n p → Ic 3 = pzN s → 2 * v ≤ p →
    pzOut b n I A Ic Ac ((fX9_word_vchanges BM I A).bind fun r => fX9_readBody_341 BM f I A r) (fX5_readChanges_2 f' Ic Ac (pzN v))
  | m, p, l, s, I, A, Ic, v, 0, f', _, h1, _, _, _, _, _, _, _, _, _ => by omega
  | m, p, l, s, I, A, Ic, v, f + 1, 0, _, _, h1, _, _, _, _, _, _, _, _ => by omega
  | m, p, l, s, I, A, Ic, v, f + 1, f' + 1, hm, hf, hf', hr, hL, hN, hM, hS, hc, h3, hv => by
    obtain ⟨h40, hpn, r22, r23, r21⟩ := id hr
    obtain ⟨o, ho, ec⟩ := pz_cLongest hc (i := 7) (by omega) (by omega)
    have hle := pz_loLe ho hpn
    have hw := pz_wordC hr ho
    rw [pz_map7] at hw
    rw [hw, Option.bind_some]
    show pzOut b n I A Ic Ac (fX9_readBody_341B BM (fX9_readBody_341 BM f) I A (pzO3 o)) (fX5_readChanges_2B (fX5_readChanges_2 f') Ic Ac (pzN v))
    unfold fX5_readChanges_2B fX9_readBody_341B
    rw [if_neg (show ¬ (40 : Int32) ≤ pzN v by rw [show (40 : Int32) = pzN 40 from rfl, pzN_le (by omega) (by omega)]; omega), ec]
    simp only [Option.bind_some]
    have T1 := pz_tcUp hc hle
    cases o with
    | none =>
      rw [if_pos (show pzO3 none = -2 from rfl), if_pos (show pzO1 none = -1 from rfl)]
      exact Or.inl ⟨p, l, s, I, A, _, rfl, rfl, hr, T1, by rw [pz_upd_ne _ _ (by decide)]; exact h3, hL, hN, hM, hS, pzFc_refl I A, fun j j2 j3 => pz_upd_ne _ _ j2⟩
    | some c =>
      have hc13 : c < 13 := by have := ho.1; have e : pzTm 7 = 13 := pz_wr18.1; omega
      have hlen := (pz_wr18.2 c hc13).1
      rw [show pzPm 7 c = c from rfl] at hlen
      have h2 := pz_c7len c hc13
      have hle2 : p + (pzTw 7 c).length ≤ n := hle
      have T1' : pzTc (upd Ic 2 (pzN (p + (pzTw 7 c).length))) Ac b n (p + (pzTw 7 c).length) := T1
      rw [show pzLw 7 (some c) = (pzTw 7 c).length from rfl]
      rw [if_neg (show ¬ pzO3 (some c) = -2 from pzN_ne2 (by omega)), if_neg (show ¬ pzO1 (some c) = -1 from pzN_ne1 (by omega)), show pzO3 (some c) = pzN c from rfl, show pzO1 (some c) = pzN c from rfl]
      have i3 : upd Ic 2 (pzN (p + (pzTw 7 c).length)) 3 = pzN s := by rw [pz_upd_ne _ _ (by decide)]; exact h3
      rw [pz_isWrong i3 hM.1 hc13, Option.bind_some]
      rcases pz_changes hc13 hL hN hM hS with ⟨hb, I', A', e, F⟩ | ⟨hb, I', A', l', e, L', N', M', S', F⟩
      · rw [e, hb, if_neg (show ¬ pzSm true = 0 by decide)]
        simp only [Option.bind_some]
        rw [if_pos trivial]
        refine Or.inr ⟨p, I', A', _, ?_, rfl, hpn, ?_, pzFb_fc F, fun j j2 j3 => ?_⟩
        · rw [F.1 23 (by decide), r23]
        · rw [pz_upd_eq]; exact hc.2.2.2.1
        · rw [pz_upd_ne _ _ j2, pz_upd_ne _ _ j2]
      · rw [e, hb, if_pos (show pzSm false = 0 from rfl)]
        simp only [Option.bind_some]
        obtain ⟨t1, t2, t3, t4, t5, t6⟩ := pz_tab c hc13
        rw [if_neg (show ¬ (1 : Int32) = 0 by decide), pz_gd2 (by omega) (by omega), pzN_clamp (by omega), hlen, Option.bind_some, t2, Option.bind_some, t3, Option.bind_some, i3, pz_m1, pzN_xor, pzN_and, pzN_or, pzN_suc, F.1 23 (by decide), r23, pzN_add]
        have hr2 : pzTr (upd I' 23 (pzN (p + (pzTw 7 c).length))) A' b n (p + (pzTw 7 c).length) := ⟨h40, hle2, by rw [pz_upd_ne _ _ (by decide), F.1 22 (by decide)]; exact r22, pz_upd_eq _ _ _, by rw [F.2 21 (by decide) (by decide)]; exact r21⟩
        have hc2 : pzTc (upd (upd Ic 2 (pzN (p + (pzTw 7 c).length))) 3 (pzN (pzNx c s))) Ac b n (p + (pzTw 7 c).length) := ⟨T1'.1, T1'.2.1, by rw [pz_upd_ne _ _ (by decide)]; exact T1'.2.2.1, by rw [pz_upd_ne _ _ (by decide)]; exact T1'.2.2.2.1, T1'.2.2.2.2⟩
        cases m with
        | zero => omega
        | succ m =>
          have ih := pz_chLoop m (p + (pzTw 7 c).length) l' (pzNx c s) (upd I' 23 (pzN (p + (pzTw 7 c).length))) A' (upd (upd Ic 2 (pzN (p + (pzTw 7 c).length))) 3 (pzN (pzNx c s))) (v + 1) f f' (by omega) (by omega) (by omega) hr2 (pzLi_up L' _) N' M' S' hc2 (pz_upd_eq _ _ _) (by omega)
          have fr : pzFc I A (upd I' 23 (pzN (p + (pzTw 7 c).length))) A' := pzFc_trans (pzFb_fc F) (pzFc_up _ _ _)
          have fc : ∀ j, j ≠ 2 → j ≠ 3 → upd (upd Ic 2 (pzN (p + (pzTw 7 c).length))) 3 (pzN (pzNx c s)) j = Ic j := fun j j2 j3 => by rw [pz_upd_ne _ _ j3, pz_upd_ne _ _ j2]
          rcases ih with ⟨p', l2, s2, I2, A2, Ic2, q1, q2, q3, q4, q5, q6, q7, q8, q9, q10, q11⟩ | ⟨p', I2, A2, Ic2, q1, q2, q3, q4, q5, q6⟩
          · exact Or.inl ⟨p', l2, s2, I2, A2, Ic2, q1, q2, q3, q4, q5, q6, q7, q8, q9, pzFc_trans fr q10, fun j j2 j3 => (q11 j j2 j3).trans (fc j j2 j3)⟩
          · exact Or.inr ⟨p', I2, A2, Ic2, q1, q2, q3, q4, pzFc_trans fr q5, fun j j2 j3 => (q6 j j2 j3).trans (fc j j2 j3)⟩
/-! the tape is copied -/
set_option maxRecDepth 10000 in
theorem pz_nar8 : ∀ v, v < 256 → vp_nar .byte ((pzN v).toInt8.toInt32) = (pzN v).toInt8.toInt32 := by decide +kernel
set_option maxRecDepth 10000 in
theorem pz_cpText {n : Nat} {b : Nat → Nat} (hn : n ≤ 40) (I : Nat → Int32) (hI : I 1 = pzN n) : ∀ d k f (A : Nat → Nat → Int32), k + d = n → d < f → (∀ j, j < n → A 0 j = (pzN (b j)).toInt8.toInt32 ∧ b j < 256) → (∀ j, j < k → A 21 j = (pzN (b j)).toInt8.toInt32) →
    ∃ A', fX9_chord_10 BM f I A (pzN k) = fX9_chord_10B BM (fun _ _ _ => none) I A' (pzN n) ∧ (∀ j, j < n → A' 21 j = (pzN (b j)).toInt8.toInt32) ∧ ∀ j, j ≠ 21 → A' j = A j
  | d, k, 0, A, _, hf, _, _ => by omega
  | 0, k, f + 1, A, e, hf, h0, h21 => by
    have : k = n := by omega
    subst this
    refine ⟨A, ?_, h21, fun _ _ => rfl⟩
    show fX9_chord_10B BM (fX9_chord_10 BM f) I A (pzN k) = _
    have hle : I 1 ≤ pzN k := by rw [hI]; exact (pzN_le (by omega) (by omega)).mpr (Nat.le_refl _)
    unfold fX9_chord_10B
    rw [if_pos hle, if_pos hle]
  | d + 1, k, f + 1, A, e, hf, h0, h21 => by
    obtain ⟨v1, v2⟩ := h0 k (by omega)
    obtain ⟨A', g1, g2, g3⟩ := pz_cpText hn I hI d (k + 1) f (va_up A 21 (upd (A 21) k ((pzN (b k)).toInt8.toInt32))) (by omega) (by omega) (by rw [pz_va_ne _ _ (by decide)]; exact h0) (by
      intro j hj
      rw [pz_va_eq]
      by_cases ej : j = k
      · subst ej; rw [pz_upd_eq]
      · rw [pz_upd_ne _ _ ej, h21 j (by omega)])
    refine ⟨A', ?_, g2, fun j hj => (g3 j hj).trans (pz_va_ne _ _ hj)⟩
    rw [← g1]
    show fX9_chord_10B BM (fX9_chord_10 BM f) I A (pzN k) = _
    have hgt : ¬ I 1 ≤ pzN k := by rw [hI, pzN_le (by omega) (by omega)]; omega
    unfold fX9_chord_10B
    rw [if_neg hgt, pz_gd2 (by omega) (by omega), pz_gd2 (by omega) (by omega), pzN_clamp (by omega), v1, pz_nar8 _ v2, pzN_suc]
/-! the steps are copied -/
set_option maxRecDepth 10000 in
theorem pz_cp197 {I : Nat → Int32} {nC : Nat} (hn : nC < 100) (hI : I 6 = pzN nC) {len : Nat} (hl : len ≤ 16) (h26 : I 26 = pzN len) (v1 v2 v4 : Int32) : ∀ d k f (A : Nat → Nat → Int32), k + d = len → d < f → (∀ j, j < k → A 3 (16 * nC + j) = A 24 j ∧ A 4 (16 * nC + j) = A 25 j) →
    ∃ A', fX9_chord_197 BM f I A v1 v2 v4 (pzN k) = fX9_chord_197B BM (fun _ _ _ _ _ _ => none) I A' v1 v2 v4 (pzN len) ∧ (∀ j, j < len → A' 3 (16 * nC + j) = A 24 j ∧ A' 4 (16 * nC + j) = A 25 j) ∧ (∀ j, j < 16 * nC → A' 3 j = A 3 j ∧ A' 4 j = A 4 j) ∧ ∀ j, j ≠ 3 → j ≠ 4 → A' j = A j
  | d, k, 0, A, _, hf, _ => by omega
  | 0, k, f + 1, A, e, hf, hA => by
    have : k = len := by omega
    subst this
    refine ⟨A, ?_, hA, fun _ _ => ⟨rfl, rfl⟩, fun _ _ _ => rfl⟩
    show fX9_chord_197B BM (fX9_chord_197 BM f) I A v1 v2 v4 (pzN k) = _
    have hle : I 26 ≤ pzN k := by rw [h26]; exact (pzN_le (by omega) (by omega)).mpr (Nat.le_refl _)
    unfold fX9_chord_197B
    rw [if_pos hle, if_pos hle]
  | d + 1, k, f + 1, A, e, hf, hA => by
    obtain ⟨A', g1, g2, g3, g4⟩ := pz_cp197 hn hI hl h26 v1 v2 v4 d (k + 1) f (va_up (va_up A 3 (upd (A 3) (16 * nC + k) (A 24 k))) 4 (upd (A 4) (16 * nC + k) (A 25 k))) (by omega) (by omega) (by
      intro j hj
      rw [pz_va_eq, pz_va_ne _ _ (show 3 ≠ 4 by decide), pz_va_eq, pz_va_ne _ _ (show 24 ≠ 4 by decide), pz_va_ne _ _ (show 24 ≠ 3 by decide), pz_va_ne _ _ (show 25 ≠ 4 by decide), pz_va_ne _ _ (show 25 ≠ 3 by decide)]
      by_cases ej : j = k
      · subst ej; rw [pz_upd_eq, pz_upd_eq]; exact ⟨rfl, rfl⟩
      · rw [pz_upd_ne _ _ (by omega), pz_upd_ne _ _ (by omega)]; exact hA j (by omega))
    refine ⟨A', ?_, fun j hj => ?_, fun j hj => ?_, fun j h3 h4 => ?_⟩
    · rw [← g1]
      show fX9_chord_197B BM (fX9_chord_197 BM f) I A v1 v2 v4 (pzN k) = _
      have hgt : ¬ I 26 ≤ pzN k := by rw [h26, pzN_le (by omega) (by omega)]; omega
      unfold fX9_chord_197B
      rw [if_neg hgt, hI]
      simp only [show (16 : Int32) = pzN 16 from rfl, pzN_mul, pzN_add, pzN_suc]
      rw [pz_gd2 (by omega) (by omega), pz_gd2 (by omega) (by omega), pz_gd2 (by omega) (by omega), pz_gd2 (by omega) (by omega), pzN_clamp (n := 16 * nC + k) (by omega), pzN_clamp (n := k) (by omega)]
    · have := g2 j hj
      rw [pz_va_ne _ _ (show 24 ≠ 4 by decide), pz_va_ne _ _ (show 24 ≠ 3 by decide), pz_va_ne _ _ (show 25 ≠ 4 by decide), pz_va_ne _ _ (show 25 ≠ 3 by decide)] at this
      exact this
    · have := g3 j hj
      rw [pz_va_eq, pz_va_ne _ _ (show 3 ≠ 4 by decide), pz_va_eq, pz_upd_ne _ _ (by omega), pz_upd_ne _ _ (by omega)] at this
      exact this
    · rw [g4 j h3 h4, pz_va_ne _ _ h4, pz_va_ne _ _ h3]
set_option maxRecDepth 10000 in
/-- the reference keeps a chord that was read, or has no room -/
theorem pz_m159 {I : Nat → Int32} {A : Nat → Nat → Int32} {b : Nat → Nat} {n p nC t bt z s : Nat} {l : List Nat} (hr : pzTr I A b n p) (hL : pzLi I A l) (hN : pzNd l) (hM : pzMm l s) (hS : pzOk s) (hI : I 6 = pzN nC) (hn : nC ≤ 100) (ht : t < 35) (hb : bt < 35) (hz : z ≤ 1) (h27 : I 27 = pzN (bt / 5)) (h28 : I 28 = pzSg bt) :
    if p < n then fX9_chord_159 BM I A (pzN (t / 5)) (pzSg t) (pzN z) = some (-10 - pzN p, I, A) else if nC = 100 then fX9_chord_159 BM I A (pzN (t / 5)) (pzSg t) (pzN z) = some (-3, I, A) else
      ∃ A', fX9_chord_159 BM I A (pzN (t / 5)) (pzSg t) (pzN z) = some (pzN nC, upd I 6 (pzN (nC + 1)), A') ∧ pzC A' nC t s bt z ∧ (∀ j, j < 5 * nC → A' 2 j = A 2 j) ∧ (∀ j, j < 16 * nC → A' 3 j = A 3 j) ∧ (∀ j, j < 16 * nC → A' 4 j = A 4 j) ∧ (∀ j, j < nC → A' 5 j = A 5 j) ∧ ∀ j, j ≠ 2 → j ≠ 3 → j ≠ 4 → j ≠ 5 → j ≠ 24 → j ≠ 25 → A' j = A j := by
  obtain ⟨h40, hpn, r22, r23, r21⟩ := id hr
  unfold fX9_chord_159
  rw [r22, r23, hI]
  by_cases hp : p < n
  · rw [if_pos hp, if_neg (by rw [pzN_le (by omega) (by omega)]; omega)]
  · rw [if_neg hp, if_pos (show pzN n ≤ pzN p by rw [pzN_le (by omega) (by omega)]; omega)]
    by_cases hfull : nC = 100
    · rw [if_pos hfull, if_pos (by rw [hfull]; rfl)]
    · rw [if_neg hfull, if_neg (show ¬ pzN nC = 100 by rw [show (100 : Int32) = pzN 100 from rfl, pzN_inj (by omega) (by omega)]; exact hfull)]
      obtain ⟨A1, e1, L1, F1⟩ := pz_sort hL hN hM hS
      have hl := pz_len16 hS
      obtain ⟨A2, g1, g2, g3, g4⟩ := pz_cp197 (I := I) (by omega) hI hl L1.1 (pzN (t / 5)) (pzSg t) (pzN z) (pzP s).length 0 FU A1 (by omega) (by unfold FU; omega) (fun j hj => by omega)
      obtain ⟨A3, j1, j2, j3, j4, j5, j6, j7, j8⟩ := pz_laid (A := va_up A2 5 (upd (A2 5) nC (pzN (pzP s).length))) (show nC < 100 by omega) hz hI (pzN (t / 5)) (pzSg t) (pzN (bt / 5)) (pzSg bt)
      rw [e1]
      refine ⟨A3, ?_, ⟨ht, hb, hS, hz, j2, j3, j4, j5, j6, ?_, fun k hk => ?_⟩, fun j hj => ?_, fun j hj => ?_, fun j hj => ?_, fun j hj => ?_, fun j n2 n3 n4 n5 n24 n25 => ?_⟩
      · show fX9_chord_197 BM FU I A1 (pzN (t / 5)) (pzSg t) (pzN z) 0 = _
        refine g1.trans ?_
        have hle : I 26 ≤ pzN (pzP s).length := by rw [L1.1]; exact (pzN_le (by omega) (by omega)).mpr (Nat.le_refl _)
        unfold fX9_chord_197B
        rw [if_pos hle, hI, pz_gd2 (by omega) (by omega), pzN_clamp (by omega), L1.1, h27, h28, j1]
        rfl
      · rw [j8 5 (by decide), pz_va_eq, pz_upd_eq]
      · rw [j8 3 (by decide), j8 4 (by decide), pz_va_ne _ _ (by decide), pz_va_ne _ _ (by decide), (g2 k hk).1, (g2 k hk).2]
        exact L1.2 k hk
      · rw [j7 j hj, pz_va_ne _ _ (by decide), g4 2 (by decide) (by decide), F1 2 (by decide) (by decide)]
      · rw [j8 3 (by decide), pz_va_ne _ _ (by decide), (g3 j hj).1, F1 3 (by decide) (by decide)]
      · rw [j8 4 (by decide), pz_va_ne _ _ (by decide), (g3 j hj).2, F1 4 (by decide) (by decide)]
      · rw [j8 5 (by decide), pz_va_eq, pz_upd_ne _ _ (by omega), g4 5 (by decide) (by decide), F1 5 (by decide) (by decide)]
      · rw [j8 j n2, pz_va_ne _ _ n5, g4 j n3 n4, F1 j n24 n25]
def pzFh (I : Nat → Int32) (A : Nat → Nat → Int32) (I' : Nat → Int32) (A' : Nat → Nat → Int32) : Prop := (∀ j, j ≠ 1 → j ≠ 22 → j ≠ 23 → j ≠ 26 → j ≠ 27 → j ≠ 28 → I' j = I j) ∧ ∀ j, j ≠ 21 → j ≠ 24 → j ≠ 25 → A' j = A j
set_option maxRecDepth 10000 in
theorem pzFh_trans {I A I' A' I'' A''} (h : pzFh I A I' A') (g : pzFh I' A' I'' A'') : pzFh I A I'' A'' := ⟨fun j a b c d e f => (g.1 j a b c d e f).trans (h.1 j a b c d e f), fun j a b c => (g.2 j a b c).trans (h.2 j a b c)⟩
set_option maxRecDepth 10000 in
theorem pzFc_fh {I A I' A'} (h : pzFc I A I' A') : pzFh I A I' A' := ⟨fun j a b c d e f => h.1 j d c, fun j a b c => h.2 j b c⟩
set_option maxRecDepth 10000 in
theorem pz_relNo {c : CS} {u : MSt} (h : pzRel c u) {I2 : Nat → Int32} {A2 : Nat → Nat → Int32} {I' : Nat → Int32} {A' : Nat → Nat → Int32} (h1 : I2 1 = 0) (hi : I' 1 = 0) (hF : pzFh u.1 u.2 I' A') :
    pzRel (c.1, c.2.1, va_up c.2.2.1 1 I2, va_up c.2.2.2.1 1 A2, c.2.2.2.2) (I', A') := by
  obtain ⟨r0, r1, r2, r3, r4, r5, r6⟩ := h
  have fi : ∀ j, j ≠ 1 → j ≠ 22 → j ≠ 23 → j ≠ 26 → j ≠ 27 → j ≠ 28 → I' j = u.1 j := hF.1
  have fa : ∀ j, j ≠ 21 → j ≠ 24 → j ≠ 25 → A' j = u.2 j := hF.2
  unfold pzRel
  dsimp only
  rw [pz_va_ne _ _ (show 0 ≠ 1 by decide), pz_va_eq, pz_va_ne _ _ (show 2 ≠ 1 by decide), pz_va_ne _ _ (show 3 ≠ 1 by decide), pz_va_ne _ _ (show 4 ≠ 1 by decide), pz_va_eq, pz_va_ne _ _ (show 2 ≠ 1 by decide), pz_va_ne _ _ (show 3 ≠ 1 by decide), pz_va_ne _ _ (show 4 ≠ 1 by decide)]
  rw [fi 6 (by decide) (by decide) (by decide) (by decide) (by decide) (by decide), fi 10 (by decide) (by decide) (by decide) (by decide) (by decide) (by decide), fi 12 (by decide) (by decide) (by decide) (by decide) (by decide) (by decide), fi 8 (by decide) (by decide) (by decide) (by decide) (by decide) (by decide), fa 9 (by decide) (by decide) (by decide), fa 11 (by decide) (by decide) (by decide), fa 7 (by decide) (by decide) (by decide), h1, hi]
  exact ⟨pzR0_congr r0 (fa 2 (by decide) (by decide) (by decide)) (fa 3 (by decide) (by decide) (by decide)) (fa 4 (by decide) (by decide) (by decide)) (fa 5 (by decide) (by decide) (by decide)), ⟨0, by omega, rfl, rfl, fun k hk => by omega⟩, r2, r3, r4, pzB_congr r5 (fa 13 (by decide) (by decide) (by decide)) (fa 14 (by decide) (by decide) (by decide)) (fa 15 (by decide) (by decide) (by decide)), r6⟩
/-- what both do once a chord's parts are read -/
def pzFin (c : CS) (u : MSt) (rc : Option (Int32 × CS)) (rm : Option (Int32 × MSt)) : Prop := ∃ (r : Int32) (c2 : CS) (u2 : MSt), rc = some (r, c2) ∧ rm = some (r, u2) ∧ pzRel c2 u2
set_option maxRecDepth 10000 in
theorem pz_keepFin {c : CS} {u : MSt} (h : pzRel c u) {b : Nat → Nat} {n p t bt z s : Nat} {l : List Nat} {I : Nat → Int32} {A : Nat → Nat → Int32} {I2 : Nat → Int32} {A2 : Nat → Nat → Int32} (hF : pzFh u.1 u.2 I A) (hi : I 1 = 0) (h1 : I2 1 = 0)
    (hr : pzTr I A b n p) (hp : ¬ p < n) (hL : pzLi I A l) (hN : pzNd l) (hM : pzMm l s) (hS : pzOk s) (ht : t < 35) (hb : bt < 35) (hz : z ≤ 1) (h27 : I 27 = pzN (bt / 5)) (h28 : I 28 = pzSg bt) :
    pzFin c u ((fX8_keep c.1 c.2.1 (va_up c.2.2.1 1 I2) (mkc (pzN t) (pzN s) (pzN bt) (pzN z))).bind fun (r, n2, ck2, J2) => some (r, n2, ck2, J2, va_up c.2.2.2.1 1 A2, c.2.2.2.2)) (fX9_chord_159 BM I A (pzN (t / 5)) (pzSg t) (pzN z)) := by
  obtain ⟨r0, r1, r2, r3, r4, r5, r6⟩ := id h
  obtain ⟨hn, hJ, hI, hall⟩ := id r0
  have i6 : I 6 = pzN c.1 := (hF.1 6 (by decide) (by decide) (by decide) (by decide) (by decide) (by decide)).trans hI
  have hm := pz_m159 (t := t) hr hL hN hM hS i6 hn ht hb hz h27 h28
  rw [if_neg hp] at hm
  have hJ1 : (va_up c.2.2.1 1 I2) 0 5 = pzN c.1 := by rw [pz_va_ne _ _ (by decide)]; exact hJ
  rw [pz_keep hJ1 hn]
  by_cases hfull : c.1 = 100
  · rw [if_pos hfull] at hm
    rw [if_neg (by omega), hm]
    exact ⟨-3, _, _, rfl, rfl, pz_relNo h h1 hi hF⟩
  · rw [if_neg hfull] at hm
    obtain ⟨A', y1, y2, y3, y4, y5, y6, y7⟩ := hm
    rw [if_pos (by omega), y1]
    refine ⟨pzN c.1, (c.1 + 1, va_up c.2.1 c.1 (mkc (pzN t) (pzN s) (pzN bt) (pzN z)), va_up (va_up c.2.2.1 1 I2) 0 (upd (va_up c.2.2.1 1 I2 0) 5 (pzN (c.1 + 1))), va_up c.2.2.2.1 1 A2, c.2.2.2.2), (upd I 6 (pzN (c.1 + 1)), A'), rfl, rfl, ?_⟩
    have fi : ∀ j, j ≠ 6 → j ≠ 1 → j ≠ 22 → j ≠ 23 → j ≠ 26 → j ≠ 27 → j ≠ 28 → upd I 6 (pzN (c.1 + 1)) j = u.1 j := fun j n6 a b c d e f => (pz_upd_ne _ _ n6).trans (hF.1 j a b c d e f)
    have fa : ∀ j, j ≠ 2 → j ≠ 3 → j ≠ 4 → j ≠ 5 → j ≠ 24 → j ≠ 25 → j ≠ 21 → A' j = u.2 j := fun j a b c d e f g => (y7 j a b c d e f).trans (hF.2 j g e f)
    unfold pzRel
    dsimp only
    rw [pz_va_eq, pz_upd_eq, pz_va_ne _ _ (show 1 ≠ 0 by decide), pz_va_eq, pz_va_ne _ _ (show 2 ≠ 0 by decide), pz_va_ne _ _ (show 2 ≠ 1 by decide), pz_va_ne _ _ (show 3 ≠ 0 by decide), pz_va_ne _ _ (show 3 ≠ 1 by decide), pz_va_ne _ _ (show 4 ≠ 0 by decide), pz_va_ne _ _ (show 4 ≠ 1 by decide), pz_va_eq, pz_va_ne _ _ (show 2 ≠ 1 by decide), pz_va_ne _ _ (show 3 ≠ 1 by decide), pz_va_ne _ _ (show 4 ≠ 1 by decide)]
    rw [pz_upd_eq, pz_upd_ne _ _ (show 1 ≠ 6 by decide), hi, h1, fi 10 (by decide) (by decide) (by decide) (by decide) (by decide) (by decide) (by decide), fi 12 (by decide) (by decide) (by decide) (by decide) (by decide) (by decide) (by decide), fi 8 (by decide) (by decide) (by decide) (by decide) (by decide) (by decide) (by decide), fa 9 (by decide) (by decide) (by decide) (by decide) (by decide) (by decide) (by decide), fa 11 (by decide) (by decide) (by decide) (by decide) (by decide) (by decide) (by decide), fa 7 (by decide) (by decide) (by decide) (by decide) (by decide) (by decide) (by decide)]
    refine ⟨pz_new r0 (by omega) (fun j hj => ?_) (fun j hj => ?_) (fun j hj => ?_) (fun j hj => ?_) ⟨rfl, rfl, rfl, rfl⟩ y2, ⟨0, by omega, rfl, rfl, fun k hk => by omega⟩, r2, r3, r4, pzB_congr r5 (fa 13 (by decide) (by decide) (by decide) (by decide) (by decide) (by decide) (by decide)) (fa 14 (by decide) (by decide) (by decide) (by decide) (by decide) (by decide) (by decide)) (fa 15 (by decide) (by decide) (by decide) (by decide) (by decide) (by decide) (by decide)), r6⟩
    · rw [y3 j hj, hF.2 2 (by decide) (by decide) (by decide)]
    · rw [y4 j hj, hF.2 3 (by decide) (by decide) (by decide)]
    · rw [y5 j hj, hF.2 4 (by decide) (by decide) (by decide)]
    · rw [y6 j hj, hF.2 5 (by decide) (by decide) (by decide)]
set_option maxRecDepth 10000 in
theorem pzTn_lt {v : Nat} {b : Nat → Nat} {n p : Nat} : pzTn v (pzSi b n p).1 < 35 := by
  have h7 : (v - 60) % 7 < 7 := Nat.mod_lt _ (by omega)
  have so : (pzSi b n p).1 = none ∨ ∃ j, j < 5 ∧ (pzSi b n p).1 = some j := by
    unfold pzSi
    split
    · exact Or.inr ⟨0, by omega, rfl⟩
    · split
      · exact Or.inr ⟨1, by omega, rfl⟩
      · split
        · exact Or.inr ⟨4, by omega, rfl⟩
        · split
          · exact Or.inr ⟨3, by omega, rfl⟩
          · exact Or.inl rfl
  unfold pzTn
  rcases so with so | ⟨j, hj, so⟩
  · rw [so]; show 5 * ((v - 60) % 7) + 2 < 35; omega
  · rw [so]; show 5 * ((v - 60) % 7) + j < 35; omega
set_option maxRecDepth 10000 in
theorem pzSi_le {b : Nat → Nat} {n p : Nat} (hp : p ≤ n) : p + (pzSi b n p).2 ≤ n := by
  unfold pzSi
  split
  · rename_i h; have := (pz_st2.mp h).1; show p + 2 ≤ n; omega
  · split
    · rename_i h; have := (pz_st1.mp h).1; show p + 1 ≤ n; omega
    · split
      · rename_i h; have := (pz_st2.mp h).1; show p + 2 ≤ n; omega
      · split
        · rename_i h; have := (pz_st1.mp h).1; show p + 1 ≤ n; omega
        · exact hp
set_option maxRecDepth 10000 in
theorem pz_hS1 : hS1 pzRel := by
  intro c u h
  obtain ⟨r0, ⟨n, h40, t1, t2, t3⟩, r2, r3, r4, r5, r6⟩ := id h
  -- the bytes
  obtain ⟨b, hb⟩ : ∃ b : Nat → Nat, ∀ k, k < n → b k < 256 ∧ c.2.2.2.1 1 0 k = pzN (b k) ∧ u.2 0 k = (pzN (b k)).toInt8.toInt32 := by
    refine ⟨fun k => (c.2.2.2.1 1 0 k).toNatClampNeg, fun k hk => ?_⟩
    obtain ⟨v, v1, v2, v3⟩ := t3 k hk
    dsimp only
    rw [v2, pzN_clamp (by omega)]
    exact ⟨v1, rfl, v3⟩
  show pzFin c u (cS1 c) (mS1 u)
  unfold cS1 mS1 fX8_chord fX9_chord fX5_read
  -- the class at the start
  have Tc0 : pzTc (upd (c.2.2.1 1) 2 (pzN 0)) (c.2.2.2.1 1) b n 0 := ⟨h40, by omega, by rw [pz_upd_ne _ _ (by decide)]; exact t1, pz_upd_eq _ _ _, fun k hk => ⟨(hb k hk).2.1, (hb k hk).1⟩⟩
  have hcn := pz_cNote Tc0
  rw [show pzN 0 = (0 : Int32) from rfl] at hcn
  -- the reference at the start
  obtain ⟨A1, g1, g2, g3⟩ := pz_cpText (b := b) h40 (upd u.1 22 (u.1 1)) (by rw [pz_upd_ne _ _ (by decide)]; exact t2) n 0 FU u.2 (by omega) (by unfold FU; omega) (fun j hj => ⟨(hb j hj).2.2, (hb j hj).1⟩) (fun j hj => by omega)
  rw [show pzN 0 = (0 : Int32) from rfl] at g1
  rw [g1]
  generalize hI0 : upd (upd (upd u.1 22 (u.1 1)) 1 0) 23 0 = I0
  have z1 : I0 1 = 0 := by rw [← hI0, pz_upd_ne _ _ (by decide), pz_upd_eq]
  have z22 : I0 22 = pzN n := by rw [← hI0, pz_upd_ne _ _ (by decide), pz_upd_ne _ _ (by decide), pz_upd_eq]; exact t2
  have z23 : I0 23 = pzN 0 := by rw [← hI0, pz_upd_eq]; rfl
  have F0 : pzFh u.1 u.2 I0 A1 := ⟨fun j a b c d e f => by rw [← hI0, pz_upd_ne _ _ c, pz_upd_ne _ _ a, pz_upd_ne _ _ b], fun j a b c => g3 j a⟩
  have Tr0 : pzTr I0 A1 b n 0 := ⟨h40, by omega, z22, z23, fun k hk => ⟨g2 k hk, (hb k hk).1⟩⟩
  have hmn := pz_mNote Tr0
  have hle : (upd u.1 22 (u.1 1)) 1 ≤ pzN n := by rw [pz_upd_ne _ _ (by decide), t2]; exact (pzN_le (by omega) (by omega)).mpr (Nat.le_refl _)
  unfold fX9_chord_10B
  rw [if_pos hle, hI0, hcn]
  by_cases hn0 : 0 < n ∧ 65 ≤ b 0 ∧ b 0 ≤ 71
  · rw [if_pos hn0] at hmn ⊢
    obtain ⟨I3, m1, m27, m28, m23, mo⟩ := hmn
    have ht := pzTn_lt (v := b 0) (b := b) (n := n) (p := 0 + 1)
    have hsz := pzSi_le (b := b) (n := n) (p := 0 + 1) (by omega)
    generalize hT : pzTn (b 0) (pzSi b n (0 + 1)).1 = t at *
    generalize hP : 0 + 1 + (pzSi b n (0 + 1)).2 = p1 at *
    rw [m1]
    simp only [Option.bind_some]
    rw [if_neg (show ¬ (1 : Int32) = 0 by decide), if_neg (pzN_ne1 (by omega))]
    have Tr1 : pzTr I3 A1 b n p1 := ⟨h40, hsz, (mo 22 (by decide) (by decide) (by decide)).trans z22, m23, Tr0.2.2.2.2⟩
    have F1 : pzFh u.1 u.2 I3 A1 := pzFh_trans F0 ⟨fun j a b c d e f => mo j e f c, fun _ _ _ _ => rfl⟩
    have i31 : I3 1 = 0 := (mo 1 (by decide) (by decide) (by decide)).trans z1
    generalize hIc1 : upd (upd (upd (c.2.2.1 1) 2 0) 2 (pzN (0 + 1))) 2 (pzN p1) = Ic1
    have Tc1 : pzTc Ic1 (c.2.2.2.1 1) b n p1 := ⟨h40, hsz, by rw [← hIc1, pz_upd_ne _ _ (by decide), pz_upd_ne _ _ (by decide), pz_upd_ne _ _ (by decide)]; exact t1, by rw [← hIc1, pz_upd_eq], Tc0.2.2.2.2⟩
    obtain ⟨p2, l, s, I4, A4, Ic4, e1, Tr4, L4, N4, M4, S4, F4, e2, Tc4, Fc4, hpp⟩ := pz_start Tr1 Tc1
    rw [e1, e2]
    simp only [Option.bind_some]
    have Tc5 : pzTc (upd Ic4 3 (pzN s)) (c.2.2.2.1 1) b n p2 := ⟨Tc4.1, Tc4.2.1, by rw [pz_upd_ne _ _ (by decide)]; exact Tc4.2.2.1, by rw [pz_upd_ne _ _ (by decide)]; exact Tc4.2.2.2.1, Tc4.2.2.2.2⟩
    have hout := pz_chLoop (b := b) (n := n) (Ac := c.2.2.2.1 1) (n - p2) p2 l s I4 A4 (upd Ic4 3 (pzN s)) 0 FU FU (Nat.le_refl _) (by unfold FU; omega) (by unfold FU; omega) Tr4 L4 N4 M4 S4 Tc5 (pz_upd_eq _ _ _) (by omega)
    have F14 : pzFh u.1 u.2 I4 A4 := pzFh_trans F1 (pzFc_fh F4)
    have keep27 : ∀ (I' : Nat → Int32) (A' : Nat → Nat → Int32), pzFc I4 A4 I' A' → I' 1 = 0 := fun I' A' F => (F.1 1 (by decide) (by decide)).trans ((F4.1 1 (by decide) (by decide)).trans i31)
    unfold fX5_readChanges
    rw [show pzN 0 = (0 : Int32) from rfl] at hout
    rcases hout with ⟨p', l', s', I', A', Ic', q1, q2, Tr', Tc', i3', L', N', M', S', F', Fc'⟩ | ⟨p', I', A', Ic', q1, q2, hp', i2', F', Fc'⟩
    · rw [q1, q2]
      simp only [Option.bind_some]
      rw [if_neg (show ¬ (1 : Int32) = 0 by decide), if_pos trivial]
      obtain ⟨_, hpn', r22', r23', r21'⟩ := id Tr'
      have FF : pzFh u.1 u.2 I' A' := pzFh_trans F14 (pzFc_fh F')
      have iz := keep27 I' A' F'
      rw [r22', r23', Tc'.2.2.1, Tc'.2.2.2.1]
      have clr1 : ∀ I : Nat → Int32, (upd I 1 0) 1 = 0 := fun I => by rw [pz_upd_eq]
      -- without a bass
      have noBass : fX9_chord_117 BM I' A' (I3 27) (I3 28) 0 = fX9_chord_159 BM (upd (upd I' 27 (pzN (t / 5))) 28 (pzSg t)) A' (pzN (t / 5)) (pzSg t) (pzN 0) := by
        unfold fX9_chord_117
        rw [if_pos (show (0 : Int32) = 0 from rfl), m27, m28]
        rfl
      generalize hI6 : upd (upd I' 27 (pzN (t / 5))) 28 (pzSg t) = I6 at noBass
      have k1 : I6 1 = 0 := by rw [← hI6, pz_upd_ne _ _ (by decide), pz_upd_ne _ _ (by decide)]; exact iz
      have FF6 : pzFh u.1 u.2 I6 A' := pzFh_trans FF ⟨fun j a b c d e f => by rw [← hI6, pz_upd_ne _ _ f, pz_upd_ne _ _ e], fun _ _ _ _ => rfl⟩
      have Tr6 : pzTr I6 A' b n p' := ⟨h40, hpn', by rw [← hI6, pz_upd_ne _ _ (by decide), pz_upd_ne _ _ (by decide)]; exact r22', by rw [← hI6, pz_upd_ne _ _ (by decide), pz_upd_ne _ _ (by decide)]; exact r23', r21'⟩
      have L6 : pzLi I6 A' l' := ⟨by rw [← hI6, pz_upd_ne _ _ (by decide), pz_upd_ne _ _ (by decide)]; exact L'.1, L'.2⟩
      have i627 : I6 27 = pzN (t / 5) := by rw [← hI6, pz_upd_ne _ _ (by decide), pz_upd_eq]
      have i628 : I6 28 = pzSg t := by rw [← hI6, pz_upd_eq]
      have i66 : I6 6 = pzN c.1 := (FF6.1 6 (by decide) (by decide) (by decide) (by decide) (by decide) (by decide)).trans r0.2.2.1
      by_cases hend : p' = n
      · rw [if_pos (show pzN n ≤ pzN p' by rw [pzN_le (by omega) (by omega)]; omega), if_pos (show pzN p' = pzN n by rw [hend]), i3']
        simp only [Option.bind_some]
        rw [noBass]
        exact pz_keepFin (z := 0) (I2 := upd Ic' 1 0) (A2 := c.2.2.2.1 1) h FF6 k1 (clr1 Ic') Tr6 (by omega) L6 N' M' S' ht ht (by omega) i627 i628
      · have hlt : p' < n := by omega
        have hbp := (hb p' hlt).1
        rw [if_neg (show ¬ pzN n ≤ pzN p' by rw [pzN_le (by omega) (by omega)]; omega), if_neg (show ¬ pzN p' = pzN n by rw [pzN_inj (by omega) (by omega)]; exact hend), pz_byteAt Tc' (by omega), Option.bind_some, if_pos hlt, pz_gd2 (by omega) (by omega), pzN_clamp (by omega), (r21' p' hlt).1]
        have m47 : ((pzN (b p')).toInt8.toInt32 = 47) ↔ b p' = 47 := pz_s8 (c := 47) hbp (by omega)
        have c47 : (pzN (b p') = 47) ↔ b p' = 47 := pzN_inj (b := 47) (by omega) (by omega)
        by_cases h47 : b p' = 47
        · rw [if_pos (m47.mpr h47), if_pos (c47.mpr h47)]
          -- a bass
          have Tr7 : pzTr (upd I' 23 (pzN (p' + 1))) A' b n (p' + 1) := ⟨h40, by omega, by rw [pz_upd_ne _ _ (by decide)]; exact r22', pz_upd_eq _ _ _, r21'⟩
          have Tc7 : pzTc (upd Ic' 2 (pzN (p' + 1))) (c.2.2.2.1 1) b n (p' + 1) := pz_tcUp Tc' (by omega)
          have hm7 := pz_mNote Tr7
          have hc7 := pz_cNote Tc7
          have e117 : fX9_chord_117 BM I' A' (I3 27) (I3 28) 1 = ((fX9_note BM (upd I' 23 (pzN (p' + 1))) A').bind fun (r23, I21, A22) => (if r23 = 0 then (some (((-10 : Int32) - (I21 23)), (I21, A22))) else (fX9_chord_159 BM I21 A22 (I3 27) (I3 28) 1))) := by
            unfold fX9_chord_117
            rw [if_neg (show ¬ (1 : Int32) = 0 by decide), r23', pzN_suc]
          rw [e117, pzN_suc, hc7]
          by_cases hbn : p' + 1 < n ∧ 65 ≤ b (p' + 1) ∧ b (p' + 1) ≤ 71
          · rw [if_pos hbn] at hm7 ⊢
            obtain ⟨I8, y1, y27, y28, y23, yo⟩ := hm7
            have hbt := pzTn_lt (v := b (p' + 1)) (b := b) (n := n) (p := p' + 1 + 1)
            have hsz8 := pzSi_le (b := b) (n := n) (p := p' + 1 + 1) (by omega)
            generalize pzTn (b (p' + 1)) (pzSi b n (p' + 1 + 1)).1 = bt at *
            generalize p' + 1 + 1 + (pzSi b n (p' + 1 + 1)).2 = p8 at *
            rw [y1]
            simp only [Option.bind_some]
            rw [if_neg (show ¬ (1 : Int32) = 0 by decide), if_neg (pzN_ne1 (by omega)), m27, m28]
            generalize hI9 : upd (upd (upd Ic' 2 (pzN (p' + 1))) 2 (pzN (p' + 1 + 1))) 2 (pzN p8) = Ic9
            have x1 : Ic9 1 = pzN n := by rw [← hI9, pz_upd_ne _ _ (by decide), pz_upd_ne _ _ (by decide), pz_upd_ne _ _ (by decide)]; exact Tc'.2.2.1
            have x2 : Ic9 2 = pzN p8 := by rw [← hI9, pz_upd_eq]
            have x3 : Ic9 3 = pzN s' := by rw [← hI9, pz_upd_ne _ _ (by decide), pz_upd_ne _ _ (by decide), pz_upd_ne _ _ (by decide)]; exact i3'
            have FI8 : pzFh I' A' I8 A' := ⟨fun j a b c d e f => (yo j e f c).trans (pz_upd_ne _ _ c), fun _ _ _ _ => rfl⟩
            have FF8 := pzFh_trans FF FI8
            have i81 : I8 1 = 0 := ((yo 1 (by decide) (by decide) (by decide)).trans (pz_upd_ne _ _ (by decide))).trans iz
            have Tr8 : pzTr I8 A' b n p8 := ⟨h40, hsz8, ((yo 22 (by decide) (by decide) (by decide)).trans (pz_upd_ne _ _ (by decide))).trans r22', y23, r21'⟩
            have L8 : pzLi I8 A' l' := ⟨((yo 26 (by decide) (by decide) (by decide)).trans (pz_upd_ne _ _ (by decide))).trans L'.1, L'.2⟩
            rw [x1, x2]
            by_cases h8 : p8 < n
            · rw [if_neg (by rw [pzN_le (by omega) (by omega)]; omega)]
              have i86 : I8 6 = pzN c.1 := (FF8.1 6 (by decide) (by decide) (by decide) (by decide) (by decide) (by decide)).trans r0.2.2.1
              have hm := pz_m159 (t := t) (z := 1) Tr8 L8 N' M' S' i86 r0.1 ht hbt (by omega) y27 y28
              rw [if_pos h8] at hm
              rw [show (1 : Int32) = pzN 1 from rfl, hm]
              exact ⟨_, _, _, by simp only [Option.bind_some]; rw [x2]; rfl, rfl, pz_relNo h (clr1 _) i81 FF8⟩
            · rw [if_pos (by rw [pzN_le (by omega) (by omega)]; omega), x3]
              simp only [Option.bind_some]
              exact pz_keepFin (z := 1) (I2 := upd Ic9 1 0) (A2 := c.2.2.2.1 1) h FF8 i81 (clr1 Ic9) Tr8 h8 L8 N' M' S' ht hbt (by omega) y27 y28
          · rw [if_neg hbn] at hm7 ⊢
            rw [hm7]
            simp only [Option.bind_some]
            rw [if_pos trivial, if_pos trivial]
            refine ⟨_, _, _, by simp only [Option.bind_some]; rw [pz_upd_eq]; rfl, by rw [pz_upd_eq], pz_relNo h (clr1 _) ?_ (pzFh_trans FF ⟨fun j a b c d e f => pz_upd_ne _ _ c, fun _ _ _ _ => rfl⟩)⟩
            rw [pz_upd_ne _ _ (by decide)]; exact iz
        · rw [if_neg (fun q => h47 (m47.mp q)), if_neg (fun q => h47 (c47.mp q)), noBass]
          have hm := pz_m159 (t := t) (z := 0) Tr6 L6 N' M' S' i66 r0.1 ht ht (by omega) i627 i628
          rw [if_pos hlt] at hm
          rw [hm]
          exact ⟨_, _, _, by simp only [Option.bind_some]; rw [Tc'.2.2.2.1]; rfl, rfl, pz_relNo h (clr1 _) k1 FF6⟩
    · rw [q1, q2]
      simp only [Option.bind_some]
      rw [if_pos trivial, if_neg (pzN_ne2 (by omega))]
      refine ⟨_, _, _, by simp only [Option.bind_some]; rw [i2']; rfl, rfl, pz_relNo h ?_ (keep27 I' A' F') (pzFh_trans F14 (pzFc_fh F'))⟩
      show (upd Ic' 1 0) 1 = 0
      rw [pz_upd_eq]
  · rw [if_neg hn0] at hmn ⊢
    rw [hmn]
    simp only [Option.bind_some]
    rw [if_pos trivial, if_pos trivial]
    refine ⟨_, _, _, by simp only [Option.bind_some]; rw [pz_upd_eq]; rfl, by rw [z23]; rfl, pz_relNo h ?_ z1 F0⟩
    show (upd (upd (c.2.2.1 1) 2 0) 1 0) 1 = 0
    rw [pz_upd_eq]
