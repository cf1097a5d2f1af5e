/-! keeping a chord -/
theorem va_P.mem {D : va_G} {cl : List vw_C} {ws ws' : va_W} {H : Heap} (h : va_P D cl ws H) (hs : ∀ q ∈ ws', q ∈ ws) : va_P D cl ws' H := by
  intro k q hk
  obtain ⟨j, hj⟩ := List.getElem?_of_mem (hs q (List.mem_of_getElem? hk))
  exact h j q hj
theorem va_D.nd {A : Nat → Prop} {ws : va_W} : va_D A ws ↔ (ws.map (fun q => q.1)).Nodup ∧ ∀ q ∈ ws, A q.1 := by
  constructor
  · intro h
    refine ⟨?_, fun q hq => ?_⟩
    · rw [List.Nodup, List.pairwise_iff_getElem]
      intro i j hi hj hij e
      have hi' : i < ws.length := by simpa using hi
      have hj' : j < ws.length := by simpa using hj
      have e' : (ws[i]).1 = (ws[j]).1 := by simpa using e
      have := h.1 i j ws[i] ws[j] (List.getElem?_eq_getElem hi') (List.getElem?_eq_getElem hj') e'
      omega
    · obtain ⟨j, hj⟩ := List.getElem?_of_mem hq
      exact h.2 j q hj
  · intro h
    refine ⟨fun i j p q hi hj e => ?_, fun k q hk => h.2 q (List.mem_of_getElem? hk)⟩
    obtain ⟨hi', ei⟩ := List.getElem?_eq_some_iff.mp hi
    obtain ⟨hj', ej⟩ := List.getElem?_eq_some_iff.mp hj
    have hp := h.1
    rw [List.Nodup, List.pairwise_iff_getElem] at hp
    rcases Nat.lt_trichotomy i j with q1 | q1 | q1
    · refine absurd ?_ (hp i j (by simpa using hi') (by simpa using hj') q1)
      rw [List.getElem_map, List.getElem_map, ei, ej]; exact e
    · exact q1
    · refine absurd ?_ (hp j i (by simpa using hj') (by simpa using hi') q1)
      rw [List.getElem_map, List.getElem_map, ei, ej]; exact e.symm
theorem va_D.perm {A : Nat → Prop} {ws ws' : va_W} (h : va_D A ws) (hp : ws.Perm ws') : va_D A ws' := by
  rw [va_D.nd] at h ⊢
  exact ⟨(hp.map _).nodup_iff.mp h.1, fun q hq => h.2 q (hp.mem_iff.mpr hq)⟩
theorem va_P.perm {D : va_G} {cl : List vw_C} {ws ws' : va_W} {H : Heap} (h : va_P D cl ws H) (hp : ws.Perm ws') : va_P D cl ws' H := h.mem (fun q hq => hp.mem_iff.mpr hq)
theorem va_D.left {A : Nat → Prop} {a b : va_W} (h : va_D A (a ++ b)) : va_D A a := by
  rw [va_D.nd] at h ⊢
  rw [List.map_append, List.nodup_append] at h
  exact ⟨h.1.1, fun q hq => h.2 q (List.mem_append_left _ hq)⟩
theorem va_P.left {D : va_G} {cl : List vw_C} {a b : va_W} {H : Heap} (h : va_P D cl (a ++ b) H) : va_P D cl a H := h.mem (fun _ hq => List.mem_append_left _ hq)
theorem cfA_succ (nC : Nat) (ca : Nat → Nat) (q : Nat) : va_up (cfA nC ca) nC (some q) = cfA (nC + 1) (va_up ca nC q) := by
  funext j
  unfold va_up cfA
  by_cases h : j = nC
  · simp [h]
  · by_cases h2 : j < nC
    · simp [h, h2, Nat.lt_succ_of_lt h2]
    · have : ¬ j < nC + 1 := by omega
      simp [h, h2, this]
theorem wKs_succ (nC : Nat) (ca : Nat → Nat) (ck : Nat → Nat → Int32) (q : Nat) (cv : Nat → Int32) : wKs (nC + 1) (va_up ca nC q) (va_up ck nC cv) = wKs nC ca ck ++ [(q, .inr (0, oK (fun _ => q) cv))] := by
  unfold wKs
  rw [List.range_succ, List.map_append]
  congr 1
  · refine List.map_congr_left (fun i hi => ?_)
    have hne : i ≠ nC := Nat.ne_of_lt (List.mem_range.mp hi)
    unfold kc va_up
    simp [hne]
  · simp [kc, va_up]
def fX8_keep (nC : Nat) (ck : Nat → Nat → Int32) (J : Nat → Nat → Int32) (cv : Nat → Int32) : Option (Int32 × Nat × (Nat → Nat → Int32) × (Nat → Nat → Int32)) :=
  if J 0 5 < 100 then (if gd (J 0 5) 100 then (if (J 0 5).toNatClampNeg = nC then some ((J 0 5 + 1) - 1, nC + 1, va_up ck nC cv, va_up J 0 (upd (J 0) 5 (J 0 5 + 1))) else none) else none) else some (-3, nC, ck, J)
/-- the world when the array and the count have been written -/
theorem wC_kept (cI cC : ClassId) (G : Nat → Nat → Nat) (ca : Nat → Nat) (nC : Nat) (ck : Nat → Nat → Int32) (J : Nat → Nat → Int32) (E : Nat → Nat → Nat → Int32) (L : Nat → Int64) (q : Nat) (cv : Nat → Int32) (x : Int32) :
    (([(q, .inr (0, oK (fun _ => q) cv))] : va_W) ++ (((G 0 100, .inr (5, [.ref (G 1 100), .ref (G 0 1), .ref (G 2 100), .ref (G 3 100), .ref (G 4 100), .int x])) :: (G 0 1, .inl (cC, 100, .inr (.inr (.inr (.inr (va_up (cfA nC ca) nC (some q))))))) :: (wT cI (G 1) (J 1) (E 1) ++ (wN cI (G 2) (J 2) (E 2) ++ (wV cI (G 3) (J 3) L (E 3) ++ (wX cI (G 4) (J 4) (E 4) ++ wKs nC ca ck)))) : va_W))).Perm (wC cI cC G (va_up ca nC q) (nC + 1) (va_up ck nC cv) (va_up J 0 (upd (J 0) 5 x)) E L) := by
  have e : wC cI cC G (va_up ca nC q) (nC + 1) (va_up ck nC cv) (va_up J 0 (upd (J 0) 5 x)) E L = (((G 0 100, .inr (5, [.ref (G 1 100), .ref (G 0 1), .ref (G 2 100), .ref (G 3 100), .ref (G 4 100), .int x])) :: (G 0 1, .inl (cC, 100, .inr (.inr (.inr (.inr (cfA (nC + 1) (va_up ca nC q))))))) :: (wT cI (G 1) (J 1) (E 1) ++ (wN cI (G 2) (J 2) (E 2) ++ (wV cI (G 3) (J 3) L (E 3) ++ (wX cI (G 4) (J 4) (E 4) ++ wKs (nC + 1) (va_up ca nC q) (va_up ck nC cv))))) : va_W)) := rfl
  rw [e, wKs_succ, cfA_succ]
  refine List.perm_append_comm.trans (List.Perm.of_eq ?_)
  simp only [List.cons_append, List.append_assoc]
set_option maxRecDepth 100000 in
set_option maxHeartbeats 4000000 in
theorem mX8_keep (l : Launch) (dC : Nat → ClassId) (dI : Nat → Nat → Nat) (cI cC : ClassId) (G : Nat → Nat → Nat) (ca : Nat → Nat) (nC : Nat) (ck : Nat → Nat → Int32) (J : Nat → Nat → Int32) (E : Nat → Nat → Nat → Int32) (L : Nat → Int64) (q : Nat) (cv : Nat → Int32) (sz : Nat) (z : Int32 × Nat × (Nat → Nat → Int32) × (Nat → Nat → Int32)) (hf : fX8_keep nC ck J cv = some z) : Met l yX8_keep wsX8_keep ({ frames := 0, cells := 0, slots := 0, locals := 0 }) (va_Pc [.ref (G 0 100), .ref q] (fun U => U.heap.size = sz ∧ va_P (dC, dI) vwCl (wC cI cC G ca nC ck J E L ++ nwc (some q) (some cv)) U.heap ∧ va_K (dC, dI) vwCl (t8 cI cC) U ∧ va_D (fun _ => True) (wC cI cC G ca nC ck J E L ++ nwc (some q) (some cv)))) (va_Qi (fun (r : Int32) (u : Nat × (Nat → Nat → Int32) × (Nat → Nat → Int32)) => (r, u) = z) (fun (u : Nat × (Nat → Nat → Int32) × (Nat → Nat → Int32)) (t : State) => ∃ ca2 : Nat → Nat, va_P (dC, dI) vwCl (wC cI cC G ca2 u.1 u.2.1 u.2.2 E L) t.heap ∧ va_K (dC, dI) vwCl (t8 cI cC) t ∧ va_D (va_A (wC cI cC G ca nC ck J E L ++ nwc (some q) (some cv)) sz) (wC cI cC G ca2 u.1 u.2.1 u.2.2 E L)) (va_A (wC cI cC G ca nC ck J E L ++ nwc (some q) (some cv)) sz)) 0 0 (va_A (wC cI cC G ca nC ck J E L ++ nwc (some q) (some cv)) sz) := by
  refine Met.ofW (cc := cX8_keep) (maxL := 2) (ret := (some .int)) (by decide) rfl ?_
  intro p e s m args below meth c s₁ BL hml hv
  obtain ⟨rfl, hsz, hP, hK, hD0⟩ := hv
  have hx := BL.exec
  have hb := BL.bytes
  have hr := BL.returns
  have hts := atoms_spec (ws := wsX8_keep) BL.pre
  have hown : s.vm.findClass RX8 = some m.cls := findClass_of_methodNamed BL.named
  have hlocks := BL.notSynchronized
  have hinX8 : ∀ w ∈ u_ws RX8 TX8 6, w ∈ wsX8_keep := by decide +kernel
  have hk146 := hts (.fieldLink RX8 146 "LeadSheets" "chordCount" "I") (by decide +kernel)
  have hk18 := hts (.fieldLink RX8 18 "LeadSheets" "chords" "[LLeadSheets$Chord;") (by decide +kernel)
  subst hsz
  have hD := hD0.self (sz := s.heap.size)
  generalize hAe : va_A (wC cI cC G ca nC ck J E L ++ nwc (some q) (some cv)) s.heap.size = AA at hD ⊢
  have hA : ∀ q : Nat, s.heap.size ≤ q → AA q := fun q h => by rw [← hAe]; exact Or.inr h
  have hS : va_S AA s.heap s.heap [] := va_S.rf
  have hP0 := hP.left
  have hD0 := hD.left
  have hP : va_P (dC, dI) vwCl ([(q, .inr (0, oK (fun _ => q) cv))] ++ wC cI cC G ca nC ck J E L) s.heap := hP.perm List.perm_append_comm
  have hD : va_D AA ([(q, .inr (0, oK (fun _ => q) cv))] ++ wC cI cC G ca nC ck J E L) := hD.perm List.perm_append_comm
  have hl := lv_entry ([.ref (G 0 100), .ref q]) (n := 2) (Nat.le_of_ble_eq_true rfl)
  rw [lg_entry_eq]
  generalize (lg_sl ([.ref (G 0 100), .ref q]) ++ List.replicate (2 - (lg_sl ([.ref (G 0 100), .ref q])).length) Slot.unset).toArray = ls at hl ⊢
  have hl : lv_has ls 2 [(0, .ref (G 0 100)), (1, .ref q)] := hl
  unfold fX8_keep at hf
  refine lv_aload_n hx hb dX8_keep_0 rfl (lv_at hl 0 rfl) ?_
  refine va_get (D := (dC, dI)) (ci := 5) (v := .int (J 0 5)) (C := RX8) (T := TX8) (N := 6) hx hb hts hinX8 hown hK hP 1 rfl rfl 5 (by decide) hk146 (fun _ h9 => h9) rfl dX8_keep_1 ?_
  refine lv_bipush (v := (100 : Int32)) hx hb dX8_keep_4 (by decide) ?_
  refine lv_icmp_lt (tgt := 12) hx hb dX8_keep_6 (by decide) (fun c1 => ?_) (fun c1 => ?_)
  · have hf := (if_pos c1).symm.trans hf
    obtain ⟨g1, hf⟩ := of_ite_some hf
    obtain ⟨g2, hf⟩ := of_ite_some hf
    refine lv_aload_n hx hb dX8_keep_12 rfl (lv_at hl 0 rfl) ?_
    refine va_get (D := (dC, dI)) (ci := 5) (v := .ref (G 0 1)) (C := RX8) (T := TX8) (N := 6) hx hb hts hinX8 hown hK hP 1 rfl rfl 1 (by decide) hk18 (fun _ h9 => h9) rfl dX8_keep_13 ?_
    refine lv_aload_n hx hb dX8_keep_16 rfl (lv_at hl 0 rfl) ?_
    refine va_get (D := (dC, dI)) (ci := 5) (v := .int (J 0 5)) (C := RX8) (T := TX8) (N := 6) hx hb hts hinX8 hown hK hP 1 rfl rfl 5 (by decide) hk146 (fun _ h9 => h9) rfl dX8_keep_17 ?_
    refine lv_aload_n hx hb dX8_keep_20 rfl (lv_at hl 1 rfl) ?_
    refine va_astq hx hb hK hP hD hS 2 1 0 0 (n := 100) (f := cfA nC ca) (r := (RX1, TX1, 4)) rfl rfl rfl rfl g1 dX8_keep_21 (fun H locs hP hD hS => ?_)
    rw [g2] at hP hD
    refine lv_aload_n hx hb dX8_keep_22 rfl (lv_at hl 0 rfl) ?_
    refine lv_dup hx hb dX8_keep_23 rfl ?_
    have hP : va_P (dC, dI) vwCl ([(q, .inr (0, oK (fun _ => q) cv))] ++ ((G 0 100, .inr (5, oL G J)) :: (G 0 1, .inl (cC, 100, .inr (.inr (.inr (.inr (va_up (cfA nC ca) nC (some q))))))) :: (wT cI (G 1) (J 1) (E 1) ++ (wN cI (G 2) (J 2) (E 2) ++ (wV cI (G 3) (J 3) L (E 3) ++ (wX cI (G 4) (J 4) (E 4) ++ wKs nC ca ck)))))) H := hP
    have hD : va_D AA ([(q, .inr (0, oK (fun _ => q) cv))] ++ ((G 0 100, .inr (5, oL G J)) :: (G 0 1, .inl (cC, 100, .inr (.inr (.inr (.inr (va_up (cfA nC ca) nC (some q))))))) :: (wT cI (G 1) (J 1) (E 1) ++ (wN cI (G 2) (J 2) (E 2) ++ (wV cI (G 3) (J 3) L (E 3) ++ (wX cI (G 4) (J 4) (E 4) ++ wKs nC ca ck)))))) := hD
    refine va_get (D := (dC, dI)) (ci := 5) (v := .int (J 0 5)) (C := RX8) (T := TX8) (N := 6) hx hb hts hinX8 hown hK hP 1 rfl rfl 5 (by decide) hk146 (fun _ h9 => h9) rfl dX8_keep_24 ?_
    refine lv_iconst (v := (1 : Int32)) hx hb dX8_keep_27 (by decide) ?_
    refine lv_iadd hx hb dX8_keep_28 ?_
    refine va_put (D := (dC, dI)) (ci := 5) (v := .int (J 0 5 + 1)) (ty := .int) (C := RX8) (T := TX8) (N := 6) hx hb hts hinX8 tyX8 tyX8_ok nmX8 hown hK hP hD hS 1 (fs := oL G J) rfl rfl 5 (by decide) hk146 (fun _ h9 => h9) rfl (by decide +kernel) rfl rfl (Nat.le_of_ble_eq_true rfl) dX8_keep_29 (fun H locs hP hD hS => ?_)
    have hP := va_P.perm hP (wC_kept cI cC G ca nC ck J E L q cv (J 0 5 + 1))
    have hD := va_D.perm hD (wC_kept cI cC G ca nC ck J E L q cv (J 0 5 + 1))
    refine lv_aload_n hx hb dX8_keep_32 rfl (lv_at hl 0 rfl) ?_
    refine va_get (D := (dC, dI)) (ci := 5) (v := .int (J 0 5 + 1)) (C := RX8) (T := TX8) (N := 6) hx hb hts hinX8 hown hK hP 0 rfl rfl 5 (by decide) hk146 (fun _ h9 => h9) rfl dX8_keep_33 ?_
    refine lv_iconst (v := (1 : Int32)) hx hb dX8_keep_36 (by decide) ?_
    refine lv_isub hx hb dX8_keep_37 ?_
    exact W.iret (v := (J 0 5 + 1) - 1) hx hb hr (fun t ht hW => ⟨⟨(J 0 5 + 1) - 1, (nC + 1, va_up ck nC cv, va_up J 0 (upd (J 0) 5 (J 0 5 + 1))), rfl, Option.some.inj hf, va_up ca nC q, by rw [ht]; exact hP, va_K.moved hW.alike hK, hD⟩, hS.F ht⟩) hS.2.2 dX8_keep_38
  · have hf := (if_neg c1).symm.trans hf
    refine lv_bipush (v := (-3 : Int32)) hx hb dX8_keep_9 (by decide) ?_
    exact W.iret (v := (-3 : Int32)) hx hb hr (fun t ht hW => ⟨⟨(-3 : Int32), (nC, ck, J), rfl, Option.some.inj hf, ca, by rw [ht]; exact hP0, va_K.moved hW.alike hK, hD0⟩, hS.F ht⟩) hS.2.2 dX8_keep_11
