/-! the class, at the start -/
theorem en_M : ∀ q ∈ nestM, Cond.methodLinkNest q.1 q.2.1 q.2.2.1 q.2.2.2 ∈ lw_tbl := by decide +kernel
theorem en_F : ∀ q ∈ nestF, Cond.fieldLinkNest q.1 q.2.1 q.2.2.1 q.2.2.2.1 q.2.2.2.2.1 q.2.2.2.2.2 ∈ lw_tbl := by decide +kernel
set_option maxRecDepth 100000 in
theorem cE_start {args : Array Value} {s : State} (hs : ∀ c ∈ (flatC (Jvm.Cond.and given_1 narrow_1)), c.before args s = true) (ht : ∀ w ∈ lw_tbl, w.before args s = true) : ∃ en : Nat → Nat, cE en (fun q : Nat => s.heap.size ≤ q) s s.heap := by
  obtain ⟨a0, p0⟩ := es_0 hs ht
  obtain ⟨a1, p1⟩ := es_1 hs ht
  obtain ⟨a2, p2⟩ := es_2 hs ht
  obtain ⟨a3, p3⟩ := es_3 hs ht
  obtain ⟨a4, p4⟩ := es_4 hs ht
  obtain ⟨a5, p5⟩ := es_5 hs ht
  obtain ⟨a6, p6⟩ := es_6 hs ht
  obtain ⟨a7, p7⟩ := es_7 hs ht
  obtain ⟨a8, p8⟩ := es_8 hs ht
  obtain ⟨b0, d0, q0⟩ := et_0 hs ht
  obtain ⟨b1, d1, q1⟩ := et_1 hs ht
  obtain ⟨b2, d2, q2⟩ := et_2 hs ht
  obtain ⟨b3, d3, q3⟩ := et_3 hs ht
  obtain ⟨b4, d4, q4⟩ := et_4 hs ht
  obtain ⟨b5, d5, q5⟩ := et_5 hs ht
  obtain ⟨b6, d6, q6⟩ := et_6 hs ht
  obtain ⟨b7, d7, q7⟩ := et_7 hs ht
  obtain ⟨b8, d8, q8⟩ := et_8 hs ht
  obtain ⟨b9, d9, q9⟩ := et_9 hs ht
  refine ⟨(va_up (va_up (va_up (va_up (va_up (va_up (va_up (va_up (va_up (va_up (va_up (va_up (va_up (va_up (va_up (va_up (va_up (va_up (va_up (va_up (va_up (va_up (va_up (va_up (va_up (va_up (va_up (va_up (va_up (fun _ => 0) 0 a0) 1 a1) 2 a2) 3 a3) 4 a4) 5 a5) 6 a6) 7 a7) 8 a8) 100 b0) 200 d0) 101 b1) 201 d1) 102 b2) 202 d2) 103 b3) 203 d3) 104 b4) 204 d4) 105 b5) 205 d5) 106 b6) 206 d6) 107 b7) 207 d7) 108 b8) 208 d8) 109 b9) 209 d9), ?_, ?_, ?_, ?_, fun q hq => va_Nw.of rfl (ht _ (en_M q hq)), fun q hq => va_Nw.of rfl (ht _ (en_F q hq))⟩
  · intro k hk
    match k, hk with
    | 0, _ => exact p0
    | 1, _ => exact p1
    | 2, _ => exact p2
    | 3, _ => exact p3
    | 4, _ => exact p4
    | 5, _ => exact p5
    | 6, _ => exact p6
    | 7, _ => exact p7
    | 8, _ => exact p8
    | k + 9, hk => omega
  · intro i hi
    match i, hi with
    | 0, _ => exact q0
    | 1, _ => exact q1
    | 2, _ => exact q2
    | 3, _ => exact q3
    | 4, _ => exact q4
    | 5, _ => exact q5
    | 6, _ => exact q6
    | 7, _ => exact q7
    | 8, _ => exact q8
    | 9, _ => exact q9
    | i + 10, hi => omega
  · exact va_Zof (ht (.laysStatic "java/lang/String" "COMPACT_STRINGS" "Z") (by decide +kernel)) (ht (.initialized "java/lang/String") (by decide +kernel)) (va_eqi (hs (.eq (.static "java/lang/String" "COMPACT_STRINGS" "Z") (.int 1)) (List.mem_of_getElem? (show ((flatC (Jvm.Cond.and given_1 narrow_1)))[49]? = some (Cond.eq (.static "java/lang/String" "COMPACT_STRINGS" "Z") (.int 1)) by decide +kernel)))) (fun a h => Nat.not_le.mpr h)
  · rcases va_Zqof (A := fun q : Nat => s.heap.size ≤ q) (ht (.laysStatic "jdk/internal/util/Preconditions" "SIOOBE_FORMATTER" "Ljava/util/function/BiFunction;") (by decide +kernel)) (ht (.initialized "jdk/internal/util/Preconditions") (by decide +kernel)) (hs (.isRef (.static "jdk/internal/util/Preconditions" "SIOOBE_FORMATTER" "Ljava/util/function/BiFunction;")) (List.mem_of_getElem? (show ((flatC (Jvm.Cond.and given_1 narrow_1)))[50]? = some (Cond.isRef (.static "jdk/internal/util/Preconditions" "SIOOBE_FORMATTER" "Ljava/util/function/BiFunction;")) by decide +kernel))) (fun a h => Nat.not_le.mpr h) with h | ⟨t, h⟩
    · exact ⟨none, h⟩
    · exact ⟨some t, h⟩
