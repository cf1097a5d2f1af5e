/-! LeadSheets: its world: G k the addresses of object k (0 itself, 1 tape, 2 names, 3 voicing, 4 text), J k its ints, E k its arrays, L the voicing's long, nC chords at ca with fields ck -/
def cfA (nC : Nat) (ca : Nat → Nat) : Nat → Option Nat := fun j => if j < nC then some (ca j) else none
def oL (G : Nat → Nat → Nat) (J : Nat → Nat → Int32) : List Value := [.ref (G 1 100), .ref (G 0 1), .ref (G 2 100), .ref (G 3 100), .ref (G 4 100), .int (J 0 5)]
def kc (ca : Nat → Nat) (ck : Nat → Nat → Int32) (i : Nat) : Nat × va_E := (ca i, .inr (0, oK (fun _ => ca i) (ck i)))
def wKs (nC : Nat) (ca : Nat → Nat) (ck : Nat → Nat → Int32) : va_W := (List.range nC).map (kc ca ck)
def wL0 (cC : ClassId) (G : Nat → Nat → Nat) (ca : Nat → Nat) (nC : Nat) (J : Nat → Nat → Int32) : va_W := [(G 0 100, .inr (5, oL G J)), (G 0 1, .inl (cC, 100, .inr (.inr (.inr (.inr (cfA nC ca))))))]
abbrev t8 (cI cC : ClassId) : List (ClassId × FieldType) := [(cI, .int), (cC, .object "LeadSheets$Chord")]
def wC (cI cC : ClassId) (G : Nat → Nat → Nat) (ca : Nat → Nat) (nC : Nat) (ck : Nat → Nat → Int32) (J : Nat → Nat → Int32) (E : Nat → Nat → Nat → Int32) (L : Nat → Int64) : va_W := wL0 cC G ca nC J ++ ((wT cI (G 1) (J 1) (E 1)) ++ ((wN cI (G 2) (J 2) (E 2)) ++ ((wV cI (G 3) (J 3) L (E 3)) ++ ((wX cI (G 4) (J 4) (E 4)) ++ wKs nC ca ck))))
def x8_tape (cI cC : ClassId) (G : Nat → Nat → Nat) (ca : Nat → Nat) (nC : Nat) (ck : Nat → Nat → Int32) (J : Nat → Nat → Int32) (E : Nat → Nat → Nat → Int32) (L : Nat → Int64) : va_W := wL0 cC G ca nC J
def y8_tape (cI cC : ClassId) (G : Nat → Nat → Nat) (ca : Nat → Nat) (nC : Nat) (ck : Nat → Nat → Int32) (J : Nat → Nat → Int32) (E : Nat → Nat → Nat → Int32) (L : Nat → Int64) : va_W := (wN cI (G 2) (J 2) (E 2)) ++ ((wV cI (G 3) (J 3) L (E 3)) ++ ((wX cI (G 4) (J 4) (E 4)) ++ wKs nC ca ck))
theorem wC_s_tape (cI cC : ClassId) (G : Nat → Nat → Nat) (ca : Nat → Nat) (nC : Nat) (ck : Nat → Nat → Int32) (J : Nat → Nat → Int32) (E : Nat → Nat → Nat → Int32) (L : Nat → Int64) : wC cI cC G ca nC ck J E L = x8_tape cI cC G ca nC ck J E L ++ ((wT cI (G 1) (J 1) (E 1)) ++ y8_tape cI cC G ca nC ck J E L) := rfl
theorem wC_j_tape (cI cC : ClassId) (G : Nat → Nat → Nat) (ca : Nat → Nat) (nC : Nat) (ck : Nat → Nat → Int32) (J : Nat → Nat → Int32) (E : Nat → Nat → Nat → Int32) (L : Nat → Int64) (I1 : Nat → Int32) (A1 : Nat → Nat → Int32) : x8_tape cI cC G ca nC ck J E L ++ ((wT cI (G 1) I1 A1) ++ y8_tape cI cC G ca nC ck J E L) = wC cI cC G ca nC ck (va_up J 1 I1) (va_up E 1 A1) L := rfl
def x8_names (cI cC : ClassId) (G : Nat → Nat → Nat) (ca : Nat → Nat) (nC : Nat) (ck : Nat → Nat → Int32) (J : Nat → Nat → Int32) (E : Nat → Nat → Nat → Int32) (L : Nat → Int64) : va_W := wL0 cC G ca nC J ++ (wT cI (G 1) (J 1) (E 1))
def y8_names (cI cC : ClassId) (G : Nat → Nat → Nat) (ca : Nat → Nat) (nC : Nat) (ck : Nat → Nat → Int32) (J : Nat → Nat → Int32) (E : Nat → Nat → Nat → Int32) (L : Nat → Int64) : va_W := (wV cI (G 3) (J 3) L (E 3)) ++ ((wX cI (G 4) (J 4) (E 4)) ++ wKs nC ca ck)
theorem wC_s_names (cI cC : ClassId) (G : Nat → Nat → Nat) (ca : Nat → Nat) (nC : Nat) (ck : Nat → Nat → Int32) (J : Nat → Nat → Int32) (E : Nat → Nat → Nat → Int32) (L : Nat → Int64) : wC cI cC G ca nC ck J E L = x8_names cI cC G ca nC ck J E L ++ ((wN cI (G 2) (J 2) (E 2)) ++ y8_names cI cC G ca nC ck J E L) := rfl
theorem wC_j_names (cI cC : ClassId) (G : Nat → Nat → Nat) (ca : Nat → Nat) (nC : Nat) (ck : Nat → Nat → Int32) (J : Nat → Nat → Int32) (E : Nat → Nat → Nat → Int32) (L : Nat → Int64) (I1 : Nat → Int32) (A1 : Nat → Nat → Int32) : x8_names cI cC G ca nC ck J E L ++ ((wN cI (G 2) I1 A1) ++ y8_names cI cC G ca nC ck J E L) = wC cI cC G ca nC ck (va_up J 2 I1) (va_up E 2 A1) L := rfl
def x8_voicing (cI cC : ClassId) (G : Nat → Nat → Nat) (ca : Nat → Nat) (nC : Nat) (ck : Nat → Nat → Int32) (J : Nat → Nat → Int32) (E : Nat → Nat → Nat → Int32) (L : Nat → Int64) : va_W := wL0 cC G ca nC J ++ ((wT cI (G 1) (J 1) (E 1)) ++ (wN cI (G 2) (J 2) (E 2)))
def y8_voicing (cI cC : ClassId) (G : Nat → Nat → Nat) (ca : Nat → Nat) (nC : Nat) (ck : Nat → Nat → Int32) (J : Nat → Nat → Int32) (E : Nat → Nat → Nat → Int32) (L : Nat → Int64) : va_W := (wX cI (G 4) (J 4) (E 4)) ++ wKs nC ca ck
theorem wC_s_voicing (cI cC : ClassId) (G : Nat → Nat → Nat) (ca : Nat → Nat) (nC : Nat) (ck : Nat → Nat → Int32) (J : Nat → Nat → Int32) (E : Nat → Nat → Nat → Int32) (L : Nat → Int64) : wC cI cC G ca nC ck J E L = x8_voicing cI cC G ca nC ck J E L ++ ((wV cI (G 3) (J 3) L (E 3)) ++ y8_voicing cI cC G ca nC ck J E L) := rfl
theorem wC_j_voicing (cI cC : ClassId) (G : Nat → Nat → Nat) (ca : Nat → Nat) (nC : Nat) (ck : Nat → Nat → Int32) (J : Nat → Nat → Int32) (E : Nat → Nat → Nat → Int32) (L : Nat → Int64) (I1 : Nat → Int32) (A1 : Nat → Nat → Int32) (L1 : Nat → Int64) : x8_voicing cI cC G ca nC ck J E L ++ ((wV cI (G 3) I1 L1 A1) ++ y8_voicing cI cC G ca nC ck J E L) = wC cI cC G ca nC ck (va_up J 3 I1) (va_up E 3 A1) L1 := rfl
def x8_text (cI cC : ClassId) (G : Nat → Nat → Nat) (ca : Nat → Nat) (nC : Nat) (ck : Nat → Nat → Int32) (J : Nat → Nat → Int32) (E : Nat → Nat → Nat → Int32) (L : Nat → Int64) : va_W := wL0 cC G ca nC J ++ ((wT cI (G 1) (J 1) (E 1)) ++ ((wN cI (G 2) (J 2) (E 2)) ++ (wV cI (G 3) (J 3) L (E 3))))
def y8_text (cI cC : ClassId) (G : Nat → Nat → Nat) (ca : Nat → Nat) (nC : Nat) (ck : Nat → Nat → Int32) (J : Nat → Nat → Int32) (E : Nat → Nat → Nat → Int32) (L : Nat → Int64) : va_W := wKs nC ca ck
theorem wC_s_text (cI cC : ClassId) (G : Nat → Nat → Nat) (ca : Nat → Nat) (nC : Nat) (ck : Nat → Nat → Int32) (J : Nat → Nat → Int32) (E : Nat → Nat → Nat → Int32) (L : Nat → Int64) : wC cI cC G ca nC ck J E L = x8_text cI cC G ca nC ck J E L ++ ((wX cI (G 4) (J 4) (E 4)) ++ y8_text cI cC G ca nC ck J E L) := rfl
theorem wC_j_text (cI cC : ClassId) (G : Nat → Nat → Nat) (ca : Nat → Nat) (nC : Nat) (ck : Nat → Nat → Int32) (J : Nat → Nat → Int32) (E : Nat → Nat → Nat → Int32) (L : Nat → Int64) (I1 : Nat → Int32) (A1 : Nat → Nat → Int32) : x8_text cI cC G ca nC ck J E L ++ ((wX cI (G 4) I1 A1) ++ y8_text cI cC G ca nC ck J E L) = wC cI cC G ca nC ck (va_up J 4 I1) (va_up E 4 A1) L := rfl
abbrev st8 : Type := (Nat → Nat → Int32) × (Nat → Nat → Nat → Int32) × (Nat → Int64)
abbrev at8 (dC : Nat → ClassId) (dI : Nat → Nat → Nat) (cI cC : ClassId) (G : Nat → Nat → Nat) (ca : Nat → Nat) (nC : Nat) (ck : Nat → Nat → Int32) (AA : Nat → Prop) (u : (Nat → Nat → Int32) × (Nat → Nat → Nat → Int32) × (Nat → Int64)) (t : State) : Prop :=
  va_P (dC, dI) vwCl (wC cI cC G ca nC ck u.1 u.2.1 u.2.2) t.heap ∧ va_K (dC, dI) vwCl (t8 cI cC) t ∧ va_D AA (wC cI cC G ca nC ck u.1 u.2.1 u.2.2)
theorem wKs_get (nC : Nat) (ca : Nat → Nat) (ck : Nat → Nat → Int32) {i : Nat} (h : i < nC) : (wKs nC ca ck)[i]? = some (kc ca ck i) := by
  unfold wKs
  simp [h]
theorem wC_get (cI cC : ClassId) (G : Nat → Nat → Nat) (ca : Nat → Nat) (nC : Nat) (ck : Nat → Nat → Int32) (J : Nat → Nat → Int32) (E : Nat → Nat → Nat → Int32) (L : Nat → Int64) {i : Nat} (h : i < nC) : (wC cI cC G ca nC ck J E L)[13 + i]? = some (kc ca ck i) := by
  rw [← wKs_get nC ca ck h]
  have e : wC cI cC G ca nC ck J E L = (x8_text cI cC G ca nC ck J E L ++ (wX cI (G 4) (J 4) (E 4))) ++ wKs nC ca ck := rfl
  rw [e, List.getElem?_append_right (by show 13 ≤ 13 + i; omega)]
  have e2 : (x8_text cI cC G ca nC ck J E L ++ (wX cI (G 4) (J 4) (E 4))).length = 13 := rfl
  rw [e2, Nat.add_sub_cancel_left]
theorem wC_k {D : va_G} {cl : List vw_C} {H : Heap} {cI cC : ClassId} {G : Nat → Nat → Nat} {ca : Nat → Nat} {nC : Nat} {ck : Nat → Nat → Int32} {J : Nat → Nat → Int32} {E : Nat → Nat → Nat → Int32} {L : Nat → Int64} (hP : va_P D cl (wC cI cC G ca nC ck J E L) H) {i : Nat} (h : i < nC) : va_P D cl (wK cI (fun _ => ca i) (ck i)) H := by
  intro k q hk
  have hg := hP (13 + i) _ (wC_get cI cC G ca nC ck J E L h)
  match k, hk with
  | 0, hk => cases hk; exact hg
  | k + 1, hk => cases hk
theorem va_freeMid {A0 : Nat → Prop} {X wc Y : va_W} {H0 H : Heap} {locs : List Loc} (hD : va_D A0 (X ++ (wc ++ Y))) (hS : va_S A0 H0 H locs) (hA : ∀ q, H0.size ≤ q → A0 q) : ∀ q, va_A wc H.size q → A0 q := by
  intro q h
  rcases h with ⟨k, e, hk⟩ | h
  · obtain ⟨j, hj⟩ := List.getElem?_of_mem (show (q, e) ∈ X ++ (wc ++ Y) from List.mem_append_right _ (List.mem_append_left _ (List.mem_of_getElem? hk)))
    exact hD.2 j _ hj
  · exact hA q (Nat.le_trans hS.1 h)
theorem va_D.mid {A0 : Nat → Prop} {X wc Y : va_W} (hD : va_D A0 (X ++ (wc ++ Y))) : va_D A0 wc := by
  refine ⟨fun i j p q hi hj e => ?_, fun k q hk => ?_⟩
  · have h := fun (n : Nat) (z : Nat × va_E) (hz : wc[n]? = some z) => (show (X ++ (wc ++ Y))[X.length + n]? = some z by
      rw [List.getElem?_append_right (by omega), Nat.add_sub_cancel_left, List.getElem?_append_left (List.getElem?_eq_some_iff.mp hz).1]; exact hz)
    have := hD.1 _ _ p q (h i p hi) (h j q hj) e
    omega
  · obtain ⟨j, hj⟩ := List.getElem?_of_mem (show q ∈ X ++ (wc ++ Y) from List.mem_append_right _ (List.mem_append_left _ (List.mem_of_getElem? hk)))
    exact hD.2 j _ hj
theorem va_P.mid {D : va_G} {cl : List vw_C} {X wc Y : va_W} {H : Heap} (hP : va_P D cl (X ++ (wc ++ Y)) H) : va_P D cl wc H := by
  intro k q hk
  obtain ⟨j, hj⟩ := List.getElem?_of_mem (show q ∈ X ++ (wc ++ Y) from List.mem_append_right _ (List.mem_append_left _ (List.mem_of_getElem? hk)))
  exact hP j q hj
/-- what was put back in the middle of a list stands beside the rest, which is as it was -/
theorem va_joinMid {A0 : Nat → Prop} {D : va_G} {cl : List vw_C} {X wc Y w1 : va_W} {H H1 : Heap} (hP : va_P D cl (X ++ (wc ++ Y)) H) (hD : va_D A0 (X ++ (wc ++ Y))) (hk : ∀ q : Nat, q < H.size → ¬ va_A wc H.size q → H1[q]? = H[q]?) (hF : ∀ q, va_A wc H.size q → A0 q) (hP1 : va_P D cl w1 H1) (hD1 : va_D (va_A wc H.size) w1) : va_P D cl (X ++ (w1 ++ Y)) H1 ∧ va_D A0 (X ++ (w1 ++ Y)) := by
  have old : ∀ (n : Nat) (z : Nat × va_E), (X ++ (wc ++ Y))[n]? = some z → (n < X.length ∨ X.length + wc.length ≤ n) → z.1 < H.size ∧ ¬ va_A wc H.size z.1 := by
    intro n z hz hn
    have hlt := (hP n z hz).lt
    refine ⟨hlt, fun h => ?_⟩
    rcases h with ⟨k, e, hk2⟩ | h
    · have hm : (X ++ (wc ++ Y))[X.length + k]? = some (z.1, e) := by
        rw [List.getElem?_append_right (by omega), Nat.add_sub_cancel_left, List.getElem?_append_left (List.getElem?_eq_some_iff.mp hk2).1]; exact hk2
      have e1 := hD.1 _ _ _ _ hz hm rfl
      have hl := (List.getElem?_eq_some_iff.mp hk2).1
      omega
    · omega
  -- a place in the new list: in X, in w1, or in Y
  have cas : ∀ (n : Nat) (z : Nat × va_E), (X ++ (w1 ++ Y))[n]? = some z → (n < X.length ∧ X[n]? = some z) ∨ (X.length ≤ n ∧ n < X.length + w1.length ∧ w1[n - X.length]? = some z) ∨ (X.length + w1.length ≤ n ∧ Y[n - X.length - w1.length]? = some z) := by
    intro n z hz
    rcases Nat.lt_or_ge n X.length with h | h
    · rw [List.getElem?_append_left h] at hz; exact Or.inl ⟨h, hz⟩
    · rw [List.getElem?_append_right h] at hz
      rcases Nat.lt_or_ge (n - X.length) w1.length with h2 | h2
      · rw [List.getElem?_append_left h2] at hz; exact Or.inr (Or.inl ⟨h, by omega, hz⟩)
      · rw [List.getElem?_append_right h2] at hz; exact Or.inr (Or.inr ⟨by omega, hz⟩)
  have inX : ∀ (n : Nat) (z : Nat × va_E), X[n]? = some z → (X ++ (wc ++ Y))[n]? = some z := by
    intro n z hz
    rw [List.getElem?_append_left (List.getElem?_eq_some_iff.mp hz).1]; exact hz
  have inY : ∀ (n : Nat) (z : Nat × va_E), Y[n]? = some z → (X ++ (wc ++ Y))[X.length + wc.length + n]? = some z := by
    intro n z hz
    rw [List.getElem?_append_right (by omega), List.getElem?_append_right (by omega)]
    rw [show X.length + wc.length + n - X.length - wc.length = n by omega]; exact hz
  refine ⟨fun n z hz => ?_, fun i j p q hi hj e => ?_, fun n z hz => ?_⟩
  · rcases cas n z hz with ⟨h, h2⟩ | ⟨h, h1, h2⟩ | ⟨h, h2⟩
    · obtain ⟨a, b⟩ := old n z (inX n z h2) (Or.inl h)
      exact (hP n z (inX n z h2)).kept (hk _ a b)
    · exact hP1 _ z h2
    · have hz2 := inY _ z h2
      obtain ⟨a, b⟩ := old _ z hz2 (Or.inr (by omega))
      exact (hP _ z hz2).kept (hk _ a b)
  · rcases cas i p hi with ⟨h, h2⟩ | ⟨h, h1, h2⟩ | ⟨h, h2⟩ <;> rcases cas j q hj with ⟨g, g2⟩ | ⟨g, g1, g2⟩ | ⟨g, g2⟩
    · exact hD.1 i j p q (inX _ _ h2) (inX _ _ g2) e
    · exact absurd (e ▸ hD1.2 _ q g2) (old i p (inX _ _ h2) (Or.inl h)).2
    · have := hD.1 _ _ p q (inX _ _ h2) (inY _ _ g2) e
      omega
    · exact absurd (e ▸ hD1.2 _ p h2) (old j q (inX _ _ g2) (Or.inl g)).2
    · have := hD1.1 _ _ p q h2 g2 e
      omega
    · exact absurd (e ▸ hD1.2 _ p h2) (old _ q (inY _ _ g2) (Or.inr (by omega))).2
    · have := hD.1 _ _ p q (inY _ _ h2) (inX _ _ g2) e
      omega
    · exact absurd (e ▸ hD1.2 _ q g2) (old _ p (inY _ _ h2) (Or.inr (by omega))).2
    · have := hD.1 _ _ p q (inY _ _ h2) (inY _ _ g2) e
      omega
  · rcases cas n z hz with ⟨h, h2⟩ | ⟨h, h1, h2⟩ | ⟨h, h2⟩
    · exact hD.2 n z (inX n z h2)
    · exact hF _ (hD1.2 _ z h2)
    · exact hD.2 _ z (inY _ z h2)
def ckAt {α : Type} (nC : Nat) (J : Nat → Nat → Int32) (x : Int32) (a b : Option α) : Option α :=
  if x < 0 then b else if J 0 5 ≤ x then b else if gd x 100 then (if x.toNatClampNeg < nC then a else b) else none
def fX8_chordAt (ca : Nat → Nat) (nC : Nat) (J : Nat → Nat → Int32) (x : Int32) : Option (Option Nat) :=
  if x < 0 then some none else if J 0 5 ≤ x then some none else if gd x 100 then some (cfA nC ca x.toNatClampNeg) else none
theorem of_ckAt {α : Type} (ca : Nat → Nat) {nC : Nat} {J : Nat → Nat → Int32} {x : Int32} {a b : Option α} {z : α} (h : ckAt nC J x a b = some z) : (fX8_chordAt ca nC J x = some none ∧ b = some z) ∨ (x.toNatClampNeg < nC ∧ fX8_chordAt ca nC J x = some (some (ca x.toNatClampNeg)) ∧ a = some z) := by
  unfold ckAt at h
  unfold fX8_chordAt cfA
  by_cases h1 : x < 0
  · rw [if_pos h1] at h ⊢; exact Or.inl ⟨rfl, h⟩
  · rw [if_neg h1] at h ⊢
    by_cases h2 : J 0 5 ≤ x
    · rw [if_pos h2] at h ⊢; exact Or.inl ⟨rfl, h⟩
    · rw [if_neg h2] at h ⊢
      by_cases h3 : gd x 100
      · rw [if_pos h3] at h ⊢
        by_cases h4 : x.toNatClampNeg < nC
        · rw [if_pos h4] at h ⊢; exact Or.inr ⟨h4, rfl, h⟩
        · rw [if_neg h4] at h ⊢; exact Or.inl ⟨rfl, h⟩
      · rw [if_neg h3] at h; cases h
set_option maxRecDepth 100000 in
set_option maxHeartbeats 4000000 in
theorem mX8_chordAt (l : Launch) (dC : Nat → ClassId) (dI : Nat → Nat → Nat) (cI cC : ClassId) (G : Nat → Nat → Nat) (ca : Nat → Nat) (nC : Nat) (ck : Nat → Nat → Int32) (J : Nat → Nat → Int32) (E : Nat → Nat → Nat → Int32) (L : Nat → Int64) (x1 : Int32) (r : Option Nat) (hf : fX8_chordAt ca nC J x1 = some r) : Met l yX8_chordAt wsX8_chordAt ({ frames := 0, cells := 0, slots := 0, locals := 0 }) (va_Pc [.ref (G 0 100), .int x1] (fun U => va_P (dC, dI) vwCl (wC cI cC G ca nC ck J E L) U.heap ∧ va_K (dC, dI) vwCl (t8 cI cC) U)) (va_Sq (fun q => q = r)) 0 0 (fun _ => False) := by
  refine Met.ofW (cc := cX8_chordAt) (maxL := 2) (ret := (some (.object "LeadSheets$Chord"))) (by decide) rfl ?_
  intro p e s m args below meth c s₁ BL hml hv
  obtain ⟨rfl, hP, hK⟩ := hv
  have hx := BL.exec
  have hb := BL.bytes
  have hr := BL.returns
  have hts := atoms_spec (ws := wsX8_chordAt) BL.pre
  have hown : s.vm.findClass RX8 = some m.cls := findClass_of_methodNamed BL.named
  have hlocks := BL.notSynchronized
  have hinX8 : ∀ w ∈ u_ws RX8 TX8 6, w ∈ wsX8_chordAt := by decide +kernel
  have hk146 := hts (.fieldLink RX8 146 "LeadSheets" "chordCount" "I") (by decide +kernel)
  have hk18 := hts (.fieldLink RX8 18 "LeadSheets" "chords" "[LLeadSheets$Chord;") (by decide +kernel)
  have hl := lv_entry ([.ref (G 0 100), .int x1]) (n := 2) (Nat.le_of_ble_eq_true rfl)
  rw [lg_entry_eq]
  generalize (lg_sl ([.ref (G 0 100), .int x1]) ++ List.replicate (2 - (lg_sl ([.ref (G 0 100), .int x1])).length) Slot.unset).toArray = ls at hl ⊢
  have hl : lv_has ls 2 [(0, .ref (G 0 100)), (1, .int x1)] := hl
  unfold fX8_chordAt at hf
  refine lv_iload_n hx hb dX8_chordAt_0 rfl (lv_at hl 1 rfl) ?_
  refine lv_if_lt (tgt := 21) hx hb dX8_chordAt_1 (by decide) (fun c1 => ?_) (fun c1 => ?_)
  · have hf := (if_pos c1).symm.trans hf
    refine lv_null hx hb dX8_chordAt_21 ?_
    exact W.aret hx hb hr (Or.inl ⟨_, rfl⟩) (Or.inl rfl) (fun t ht hW => ⟨none, rfl, Option.some.inj hf, ht⟩) (fun _ h => nomatch h) dX8_chordAt_22
  · have hf := (if_neg c1).symm.trans hf
    refine lv_iload_n hx hb dX8_chordAt_4 rfl (lv_at hl 1 rfl) ?_
    refine lv_aload_n hx hb dX8_chordAt_5 rfl (lv_at hl 0 rfl) ?_
    refine va_get (D := (dC, dI)) (ci := 5) (v := .int (J 0 5)) (C := RX8) (T := TX8) (N := 6) hx hb hts hinX8 hown hK hP 0 rfl rfl 5 (by decide) hk146 (fun _ h9 => h9) rfl dX8_chordAt_6 ?_
    refine lv_icmp_ge (tgt := 21) hx hb dX8_chordAt_9 (by decide) (fun c2 => ?_) (fun c2 => ?_)
    · have hf := (if_pos c2).symm.trans hf
      refine lv_null hx hb dX8_chordAt_21 ?_
      exact W.aret hx hb hr (Or.inl ⟨_, rfl⟩) (Or.inl rfl) (fun t ht hW => ⟨none, rfl, Option.some.inj hf, ht⟩) (fun _ h => nomatch h) dX8_chordAt_22
    · have hf := (if_neg c2).symm.trans hf
      obtain ⟨g1, hf⟩ := of_ite_some hf
      refine lv_aload_n hx hb dX8_chordAt_12 rfl (lv_at hl 0 rfl) ?_
      refine va_get (D := (dC, dI)) (ci := 5) (v := .ref (G 0 1)) (C := RX8) (T := TX8) (N := 6) hx hb hts hinX8 hown hK hP 0 rfl rfl 1 (by decide) hk18 (fun _ h9 => h9) rfl dX8_chordAt_13 ?_
      refine lv_iload_n hx hb dX8_chordAt_16 rfl (lv_at hl 1 rfl) ?_
      refine va_aldq hx hb hK hP 1 1 (n := 100) (f := cfA nC ca) rfl rfl g1 dX8_chordAt_17 ?_
      refine lv_goto (tgt := 22) hx hb dX8_chordAt_18 (by decide) ?_
      exact W.aret hx hb hr (Or.inl ⟨_, rfl⟩) (va_rf_or _) (fun t ht hW => ⟨cfA nC ca x1.toNatClampNeg, rfl, Option.some.inj hf, ht⟩) (fun _ h => nomatch h) dX8_chordAt_22
