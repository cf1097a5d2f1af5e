theorem def9 : ∀ j, j < 36 → defaultValue (tyX9 j) = vp_V (oG oF0) j := by
  intro j hj
  rcases (show j = 0 ∨ j = 1 ∨ j = 2 ∨ j = 3 ∨ j = 4 ∨ j = 5 ∨ j = 6 ∨ j = 7 ∨ j = 8 ∨ j = 9 ∨ j = 10 ∨ j = 11 ∨ j = 12 ∨ j = 13 ∨ j = 14 ∨ j = 15 ∨ j = 16 ∨ j = 17 ∨ j = 18 ∨ j = 19 ∨ j = 20 ∨ j = 21 ∨ j = 22 ∨ j = 23 ∨ j = 24 ∨ j = 25 ∨ j = 26 ∨ j = 27 ∨ j = 28 ∨ j = 29 ∨ j = 30 ∨ j = 31 ∨ j = 32 ∨ j = 33 ∨ j = 34 ∨ j = 35 by omega) with rfl | rfl | rfl | rfl | rfl | rfl | rfl | rfl | rfl | rfl | rfl | rfl | rfl | rfl | rfl | rfl | rfl | rfl | rfl | rfl | rfl | rfl | rfl | rfl | rfl | rfl | rfl | rfl | rfl | rfl | rfl | rfl | rfl | rfl | rfl | rfl <;> rfl
/-! the law from its entry: both constructors, then the loop, over any relation that holds at the start and that every call keeps -/
set_option maxRecDepth 100000 in
set_option maxHeartbeats 8000000 in
theorem law_start (Rel : CS → MSt → Prop) (hH : hAll Rel) (zN : (Nat → Int32) × (Nat → Nat → Int32)) (hN : fX2_init = some zN) (zM : MSt) (hM : fX9_init = some zM) (hR0 : Rel (0, (fun _ _ => 0), va_up (fun _ _ => 0) 2 zN.1, va_up (fun _ _ _ => 0) 2 zN.2, (fun _ => 0)) zM) {p : Program} {e : Env} {s : State} {m : MethodId} {below : List Frame} {meth : Method} {c : Code} (l : Launch) {b L : Nat} {xs : Nat → Int32} (hL : L ≤ 2048) (C0 : lw_At p s m meth c b L xs) : W p l e room_1 s m #[Value.ref b] below meth c s.heap [] 0 0 (lw_Z below #[Value.ref b] s) (entryFrame m ([Value.ref b] : List Value).toArray 4) := by
  obtain ⟨hx, hb, hr, hml, hown, hts0, hX, hbl, hlocks, hgv⟩ := id C0
  have hts := hts0
  have hA : ∀ q : Nat, s.heap.size ≤ q → (fun q : Nat => s.heap.size ≤ q) q := fun _ h => h
  obtain ⟨en, hE⟩ := cE_start (flat_of_before _ hgv) hts0
  have hAO : va_AO RX1 s := va_AO.of (hts0 (.arrayOver (.object RX1)) (by decide +kernel))
  obtain ⟨c0, iS0, hKn0⟩ := u_known (C := RX1) (T := TX1) (N := 4) (n := 4) hts0 lwi_wsX10 (hts0 (.instantiable RX1 4) (by decide +kernel))
  obtain ⟨c1, iS1, hKn1⟩ := u_known (C := RX2) (T := TX2) (N := 4) (n := 4) hts0 lwi_wsX20 (hts0 (.instantiable RX2 4) (by decide +kernel))
  obtain ⟨c2, iS2, hKn2⟩ := u_known (C := RX5) (T := TX5) (N := 4) (n := 4) hts0 lwi_wsX50 (hts0 (.instantiable RX5 4) (by decide +kernel))
  obtain ⟨c3, iS3, hKn3⟩ := u_known (C := RX6) (T := TX6) (N := 2) (n := 2) hts0 lwi_wsX60 (hts0 (.instantiable RX6 2) (by decide +kernel))
  obtain ⟨c4, iS4, hKn4⟩ := u_known (C := RX7) (T := TX7) (N := 6) (n := 6) hts0 lwi_wsX70 (hts0 (.instantiable RX7 6) (by decide +kernel))
  obtain ⟨c5, iS5, hKn5⟩ := u_known (C := RX8) (T := TX8) (N := 6) (n := 6) hts0 lwi_wsX80 (hts0 (.instantiable RX8 6) (by decide +kernel))
  obtain ⟨c6, iS6, hKn6⟩ := u_known (C := RX9) (T := TX9) (N := 36) (n := 36) hts0 lwi_wsX90 (hts0 (.instantiable RX9 36) (by decide +kernel))
  obtain ⟨dC, dI, hKc⟩ : ∃ (dC : Nat → ClassId) (dI : Nat → Nat → Nat), ∀ (k : Nat) (q : vw_C), vwCl[k]? = some q → u_Kn s q.1 q.2.1 q.2.2 (dC k) (dI k) := by
    refine ⟨fun k => if k = 0 then c0 else if k = 1 then c1 else if k = 2 then c2 else if k = 3 then c3 else if k = 4 then c4 else if k = 5 then c5 else c6, fun k => if k = 0 then iS0 else if k = 1 then iS1 else if k = 2 then iS2 else if k = 3 then iS3 else if k = 4 then iS4 else if k = 5 then iS5 else iS6, ?_⟩
    intro k q hq
    match k, hq with
    | 0, hq => cases hq; exact hKn0
    | 1, hq => cases hq; exact hKn1
    | 2, hq => cases hq; exact hKn2
    | 3, hq => cases hq; exact hKn3
    | 4, hq => cases hq; exact hKn4
    | 5, hq => cases hq; exact hKn5
    | 6, hq => cases hq; exact hKn6
    | k + 7, hq => simp [vwCl] at hq
  have hS : va_S (fun q : Nat => s.heap.size ≤ q) s.heap s.heap [] := va_S.rf
  have hK : va_K (dC, dI) vwCl [] s := ⟨hKc, fun k q h => by simp at h⟩
  have hP : va_P (dC, dI) vwCl [] s.heap := fun k q h => by simp at h
  have hD : va_D (fun q : Nat => s.heap.size ≤ q) [] := ⟨fun i j p q h => by simp at h, fun k q h => by simp at h⟩
  have hl := lv_entry ([.ref b]) (n := 4) (Nat.le_of_ble_eq_true rfl)
  rw [lg_entry_eq]
  generalize (lg_sl ([.ref b]) ++ List.replicate (4 - (lg_sl ([.ref b])).length) Slot.unset).toArray = ls at hl ⊢
  have hl : lv_has ls 4 [(0, .ref b)] := hl
  refine va_new (ci := 5) (fs := [.null, .null, .null, .null, .null, .int 0]) (C := RX8) (T := TX8) (N := 6) hx hb hts0 lwi_wsX80 tyX8 tyX8_ok hown (hts0 (.classLink RL 7 RX8) (by decide +kernel)) (hts0 (.instantiable RX8 6) (by decide +kernel)) (hts0 (.initialized RX8) (by decide +kernel)) hK hP hD hS hA rfl (fun j hj => by rcases (show j = 0 ∨ j = 1 ∨ j = 2 ∨ j = 3 ∨ j = 4 ∨ j = 5 by omega) with rfl | rfl | rfl | rfl | rfl | rfl <;> rfl) (by decide +kernel) (by decide +kernel) dL_law_0 (fun q0 H hP hD hS => ?_)
  have hPs : va_P (dC, dI) vwCl ([] ++ ([(q0, .inr (5, [.null, .null, .null, .null, .null, .int 0]))] ++ [])) H := hP
  have hDs : va_D (fun q : Nat => s.heap.size ≤ q) ([] ++ ([(q0, .inr (5, [.null, .null, .null, .null, .null, .int 0]))] ++ [])) := hD
  refine W.cs (cells' := 1) (slots' := 6) rfl rfl ?_
  refine lv_dup hx hb dL_law_3 rfl ?_
  have hF := va_freeMid hDs hS hA
  refine va_callv (va_runI (As := []) (rest := [.ref q0]) ⟨hx, hb, hml, hown, hts⟩ (mX8_init l en dC dI q0 H.size zN hN) (cwI 0 hts gW_X8_init rfl rfl rfl (hts0 (.initialized RX8) (by decide +kernel)) (hts0 (.methodLink RL 9 yX8_init) (by decide +kernel)) (hts0 (.instanceMethod yX8_init) (by decide +kernel)) rfl (by decide +kernel) ⟨Nat.le_of_ble_eq_true rfl, Nat.le_of_ble_eq_true rfl⟩) ⟨blindI, fun U hU hW => ⟨rfl, by rw [hU], by rw [hU]; exact hPs.mid, va_K.moved hW.alike hK, hDs.mid.weaken (fun _ _ _ _ => trivial), cE_sub hE hS hW hU hF, va_AO.moved hW.alike hAO⟩⟩ rfl rfl hl.1 rfl (lv_room (Nat.le_of_ble_eq_true rfl)) dL_law_4 ⟨by decide +kernel, by decide +kernel⟩) hS (fun q _ h => hF q h) hF (fun u t H locs ht hvm hw hB hz1 hk1 hS => ?_)
  obtain ⟨cI, cC, G, ca, hG, hP1, hK1, hD1⟩ := hB
  rw [ht] at hP1
  have hK1 := va_K.moved hvm.symm hK1
  have hD1 := hD1.weaken (fun _ _ _ h => hF _ h)
  clear hPs hDs hk1 hF hP hD
  have hP := hP1
  have hD := hD1
  have hK := hK1
  clear hP1 hD1 hK1
  refine W.cs (cells' := 13) (slots' := 586) rfl rfl ?_
  refine W.eq (g2 := F0 m 7 ls [.ref (G 0 100)]) (by rw [hG]) ?_
  refine lv_astore_n (lv' := [(1, .ref (G 0 100)), (0, .ref b)]) hx hb dL_law_7 rfl hl (by decide) rfl (fun ls hl => ?_)
  refine va_new (ci := 6) (fs := oG oF0) (C := RX9) (T := TX9) (N := 36) hx hb hts0 lwi_wsX90 tyX9 tyX9_ok hown (hts0 (.classLink RL 10 RX9) (by decide +kernel)) (hts0 (.instantiable RX9 36) (by decide +kernel)) (hts0 (.initialized RX9) (by decide +kernel)) hK hP hD hS hA rfl (fun j hj => def9 j hj) (by decide +kernel) (by decide +kernel) dL_law_8 (fun q1 H hP hD hS => ?_)
  have hPs : va_P (dC, dI) vwCl (wC cI cC G ca 0 (fun _ _ => 0) (va_up (fun _ _ => 0) 2 zN.1) (va_up (fun _ _ _ => 0) 2 zN.2) (fun _ => 0) ++ ([(q1, .inr (6, oG oF0))] ++ [])) H := hP
  have hDs : va_D (fun q : Nat => s.heap.size ≤ q) (wC cI cC G ca 0 (fun _ _ => 0) (va_up (fun _ _ => 0) 2 zN.1) (va_up (fun _ _ _ => 0) 2 zN.2) (fun _ => 0) ++ ([(q1, .inr (6, oG oF0))] ++ [])) := hD
  refine W.cs (cells' := 14) (slots' := 622) rfl rfl ?_
  refine lv_dup hx hb dL_law_11 rfl ?_
  have hF := va_freeMid hDs hS hA
  refine va_callv (va_runI (As := []) (rest := [.ref q1]) ⟨hx, hb, hml, hown, hts⟩ (mX9_init l dC dI q1 H.size zM hM) (cwI 0 hts gW_X9_init rfl rfl rfl (hts0 (.initialized RX9) (by decide +kernel)) (hts0 (.methodLink RL 12 yX9_init) (by decide +kernel)) (hts0 (.instanceMethod yX9_init) (by decide +kernel)) rfl (by decide +kernel) ⟨Nat.le_of_ble_eq_true rfl, Nat.le_of_ble_eq_true rfl⟩) ⟨blindW, fun U hU hW => ⟨rfl, by rw [hU], by rw [hU]; exact hPs.mid, va_K.moved hW.alike (hK.sub [] rfl), hDs.mid.weaken (fun _ _ _ _ => trivial)⟩⟩ rfl rfl hl.1 rfl (lv_room (Nat.le_of_ble_eq_true rfl)) dL_law_12 ⟨by decide +kernel, by decide +kernel⟩) hS (fun q _ h => hF q h) hF (fun u t H locs ht hvm hw hB hz1 hk1 hS => ?_)
  cases hw
  obtain ⟨cI2, cB, cJ, Q, hQ, hP1, hK1, hD1⟩ := hB
  rw [ht] at hP1
  have hK1 := va_K.moved hvm.symm hK1
  obtain ⟨hP, hD⟩ := va_joinMid hPs hDs hk1 hF hP1 hD1
  have hK := hK.app hK1
  have hP : va_P (dC, dI) vwCl (wC cI cC G ca 0 (fun _ _ => 0) (va_up (fun _ _ => 0) 2 zN.1) (va_up (fun _ _ _ => 0) 2 zN.2) (fun _ => 0) ++ wM cI2 cB cJ Q BM zM.1 zM.2) H := hP
  have hD : va_D (fun q : Nat => s.heap.size ≤ q) (wC cI cC G ca 0 (fun _ _ => 0) (va_up (fun _ _ => 0) 2 zN.1) (va_up (fun _ _ _ => 0) 2 zN.2) (fun _ => 0) ++ wM cI2 cB cJ Q BM zM.1 zM.2) := hD
  clear hPs hDs hk1 hF hP1 hD1
  refine W.cs (cells' := 38) (slots' := 10108) rfl rfl ?_
  refine W.eq (g2 := F0 m 15 ls [.ref (Q 100)]) (by rw [hQ]) ?_
  refine lv_astore_n (lv' := [(2, .ref (Q 100)), (1, .ref (G 0 100)), (0, .ref b)]) hx hb dL_law_15 rfl hl (by decide) rfl (fun ls hl => ?_)
  refine lv_iconst (v := (0 : Int32)) hx hb dL_law_16 (by decide) ?_
  refine lv_istore_n (lv' := [(3, .int (0 : Int32)), (2, .ref (Q 100)), (1, .ref (G 0 100)), (0, .ref b)]) hx hb dL_law_17 rfl hl (by decide) rfl (fun ls hl => ?_)
  exact law_loop hL C0 hE Rel hH (L + 1) 0 0 0 _ _ _ _ zM.1 zM.2 (Nat.zero_le L) (by omega) rfl hR0 cI cC cI2 cB cJ G ca Q H locs 38 10108 (by omega) (by omega) hK hP hD hS ls (lv_sub hl [3, 2, 1, 0] rfl)
