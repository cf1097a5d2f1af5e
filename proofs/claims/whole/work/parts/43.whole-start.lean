/-! the law from its entry, over the relation of the pure part -/
theorem whole_start {p : Program} {e : Env} {s : State} {m : MethodId} {below : List Frame} {meth : Method} {c : Code} (l : Launch) {b L : Nat} {xs : Nat → Int32} (hL : L ≤ 2048) (C0 : lw_At p s m meth c b L xs) : W p l e room_1 s m #[Value.ref b] below meth c s.heap [] 0 0 (lw_Z below #[Value.ref b] s) (entryFrame m ([Value.ref b] : List Value).toArray 4) := by
  obtain ⟨zM, hM, m1, m6, m8, m10, m12, mb⟩ := pz_startM
  obtain ⟨zN, hN, n2, nb⟩ := pz_startN
  exact law_start pzRel pz_all zN hN zM hM (pz_relStart n2 nb m1 m6 m8 m10 m12 mb) l hL C0
