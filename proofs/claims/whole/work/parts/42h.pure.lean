set_option maxRecDepth 10000 in
theorem pz_come {I : Nat → Int32} {A : Nat → Nat → Int32} {l : List Nat} (h : pzLi I A l) (hl : l.length < 16) (x : Nat) {d g : Int32} (hd : d = pzN (pzD x)) (hg : g = pzN (pzH x)) : ∃ I' A', fX9_comes BM I A d g = some (I', A') ∧ pzLi I' A' (l ++ [x]) ∧ pzFb I A I' A' := by
  subst hd; subst hg
  exact pz_comes h hl x
def pzKl (k : Option Nat) : List Nat := [0] ++ (if k = some 6 then [] else [if k = some 0 ∨ k = some 1 ∨ k = some 2 ∨ k = some 3 then 2 else 3]) ++ [if k = some 2 ∨ k = some 3 then 5 else if k = some 4 ∨ k = some 5 then 7 else 6]
def pzDi (k : Option Nat) : Int32 := if k = some 2 ∨ k = some 3 then 1 else 0
/-- frames: the place and the list alone change -/
def pzFc (I : Nat → Int32) (A : Nat → Nat → Int32) (I' : Nat → Int32) (A' : Nat → Nat → Int32) : Prop := (∀ j, j ≠ 26 → j ≠ 23 → I' j = I j) ∧ ∀ j, j ≠ 24 → j ≠ 25 → A' j = A j
set_option maxRecDepth 10000 in
theorem pzFc_refl (I : Nat → Int32) (A : Nat → Nat → Int32) : pzFc I A I A := ⟨fun _ _ _ => rfl, fun _ _ _ => rfl⟩
set_option maxRecDepth 10000 in
theorem pzFc_trans {I A I' A' I'' A''} (h : pzFc I A I' A') (g : pzFc I' A' I'' A'') : pzFc I A I'' A'' := ⟨fun j h1 h2 => (g.1 j h1 h2).trans (h.1 j h1 h2), fun j h1 h2 => (g.2 j h1 h2).trans (h.2 j h1 h2)⟩
set_option maxRecDepth 10000 in
theorem pzFb_fc {I A I' A'} (h : pzFb I A I' A') : pzFc I A I' A' := ⟨fun j h1 _ => h.1 j h1, h.2⟩
set_option maxRecDepth 10000 in
theorem pzFc_up (I : Nat → Int32) (A : Nat → Nat → Int32) (x : Int32) : pzFc I A (upd I 23 x) A := ⟨fun j _ h => pz_upd_ne _ _ h, fun _ _ _ => rfl⟩
set_option maxRecDepth 10000 in
theorem pzLi_up {I : Nat → Int32} {A : Nat → Nat → Int32} {l : List Nat} (h : pzLi I A l) (x : Int32) : pzLi (upd I 23 x) A l := ⟨by rw [pz_upd_ne _ _ (by decide)]; exact h.1, h.2⟩

set_option maxRecDepth 10000 in
theorem pz_stK {I : Nat → Int32} {A : Nat → Nat → Int32} {p : Nat} (h : pzLi I A [0]) (hp : I 23 = pzN p) (k : Option Nat) (hk : ∀ j, k = some j → j < 7) :
    ∃ I1 A1, fX9_readBody_72 BM I A (pzO3 k) = (if k = some 6 then fX9_readBody_193 BM I1 A1 (pzDi k) (-2) else (fX9_word_vsizes BM I1 A1).bind fun r => fX9_readBody_193 BM I1 A1 (pzDi k) r) ∧ pzLi I1 A1 (pzKl k) ∧ I1 23 = pzN (p + pzLw 6 k) ∧ pzFc I A I1 A1 := by
  cases k with
  | none =>
    have L0 := pzLi_up h (pzN (p + pzLw 6 none))
    obtain ⟨I1, A1, e1, L1, F1⟩ := pz_come L0 (by simp) 3 (d := 3) (g := 4) rfl rfl
    obtain ⟨I2, A2, e2, L2, F2⟩ := pz_come L1 (by simp) 6 (d := 5) (g := 7) rfl rfl
    refine ⟨I2, A2, ?_, L2, (F2.1 23 (by decide)).trans ((F1.1 23 (by decide)).trans (pz_upd_eq _ _ _)), pzFc_trans (pzFc_trans (pzFc_up I A (pzN (p + pzLw 6 none))) (pzFb_fc F1)) (pzFb_fc F2)⟩
    have h23 : I 23 + pzN 0 = pzN (p + pzLw 6 none) := by rw [hp, pzN_add]; rfl
    unfold fX9_readBody_72
    rw [if_pos (show pzO3 none = -2 from rfl)]
    rw [show pzN 0 = (0 : Int32) from rfl] at h23
    unfold fX9_readBody_96
    rw [h23]
    rw [if_neg (show ¬ pzO3 none = 6 by decide)]
    rw [if_pos (show fX9_isIn (pzO3 none) 0 3 = 0 by decide), e1]
    simp only [Option.bind_some]
    unfold fX9_readBody_127
    rw [if_neg (show ¬ pzO3 none = 2 by decide), if_neg (show ¬ pzO3 none = 3 by decide)]
    unfold fX9_readBody_142
    rw [if_pos (show (0 : Int32) = 0 from rfl)]
    rw [if_neg (show ¬ pzO3 none = 4 by decide), if_neg (show ¬ pzO3 none = 5 by decide)]
    unfold fX9_readBody_171
    rw [e2]
    simp only [Option.bind_some]
    rw [if_neg (show ¬ pzO3 none = 6 by decide), if_neg (by decide)]
    rfl
  | some j =>
    have hj := hk j rfl
    have hjs : j = 0 ∨ j = 1 ∨ j = 2 ∨ j = 3 ∨ j = 4 ∨ j = 5 ∨ j = 6 := by omega
    have hlen := (pz_wr16.2 j hj).1
    rw [show pzPm 6 j = j from rfl] at hlen
    rcases hjs with rfl | rfl | rfl | rfl | rfl | rfl | rfl
    · have L0 := pzLi_up h (pzN (p + pzLw 6 (some 0)))
      obtain ⟨I1, A1, e1, L1, F1⟩ := pz_come L0 (by simp) 2 (d := 3) (g := 3) rfl rfl
      obtain ⟨I2, A2, e2, L2, F2⟩ := pz_come L1 (by simp) 6 (d := 5) (g := 7) rfl rfl
      refine ⟨I2, A2, ?_, L2, (F2.1 23 (by decide)).trans ((F1.1 23 (by decide)).trans (pz_upd_eq _ _ _)), pzFc_trans (pzFc_trans (pzFc_up I A (pzN (p + pzLw 6 (some 0)))) (pzFb_fc F1)) (pzFb_fc F2)⟩
      have h23 : I 23 + pzN (pzTw 6 0).length = pzN (p + pzLw 6 (some 0)) := by rw [hp, pzN_add]; rfl
      unfold fX9_readBody_72
      rw [if_neg (show ¬ pzO3 (some 0) = -2 by decide), if_pos (show gd (pzO3 (some 0)) 7 by decide)]
      rw [show (pzO3 (some 0)).toNatClampNeg = 0 from rfl, hlen, Option.bind_some]
      unfold fX9_readBody_96
      rw [h23]
      rw [if_neg (show ¬ pzO3 (some 0) = 6 by decide)]
      rw [if_neg (show ¬ fX9_isIn (pzO3 (some 0)) 0 3 = 0 by decide), e1]
      simp only [Option.bind_some]
      unfold fX9_readBody_127
      rw [if_neg (show ¬ pzO3 (some 0) = 2 by decide), if_neg (show ¬ pzO3 (some 0) = 3 by decide)]
      unfold fX9_readBody_142
      rw [if_pos (show (0 : Int32) = 0 from rfl)]
      rw [if_neg (show ¬ pzO3 (some 0) = 4 by decide), if_neg (show ¬ pzO3 (some 0) = 5 by decide)]
      unfold fX9_readBody_171
      rw [e2]
      simp only [Option.bind_some]
      rw [if_neg (show ¬ pzO3 (some 0) = 6 by decide), if_neg (by decide)]
      rfl
    · have L0 := pzLi_up h (pzN (p + pzLw 6 (some 1)))
      obtain ⟨I1, A1, e1, L1, F1⟩ := pz_come L0 (by simp) 2 (d := 3) (g := 3) rfl rfl
      obtain ⟨I2, A2, e2, L2, F2⟩ := pz_come L1 (by simp) 6 (d := 5) (g := 7) rfl rfl
      refine ⟨I2, A2, ?_, L2, (F2.1 23 (by decide)).trans ((F1.1 23 (by decide)).trans (pz_upd_eq _ _ _)), pzFc_trans (pzFc_trans (pzFc_up I A (pzN (p + pzLw 6 (some 1)))) (pzFb_fc F1)) (pzFb_fc F2)⟩
      have h23 : I 23 + pzN (pzTw 6 1).length = pzN (p + pzLw 6 (some 1)) := by rw [hp, pzN_add]; rfl
      unfold fX9_readBody_72
      rw [if_neg (show ¬ pzO3 (some 1) = -2 by decide), if_pos (show gd (pzO3 (some 1)) 7 by decide)]
      rw [show (pzO3 (some 1)).toNatClampNeg = 1 from rfl, hlen, Option.bind_some]
      unfold fX9_readBody_96
      rw [h23]
      rw [if_neg (show ¬ pzO3 (some 1) = 6 by decide)]
      rw [if_neg (show ¬ fX9_isIn (pzO3 (some 1)) 0 3 = 0 by decide), e1]
      simp only [Option.bind_some]
      unfold fX9_readBody_127
      rw [if_neg (show ¬ pzO3 (some 1) = 2 by decide), if_neg (show ¬ pzO3 (some 1) = 3 by decide)]
      unfold fX9_readBody_142
      rw [if_pos (show (0 : Int32) = 0 from rfl)]
      rw [if_neg (show ¬ pzO3 (some 1) = 4 by decide), if_neg (show ¬ pzO3 (some 1) = 5 by decide)]
      unfold fX9_readBody_171
      rw [e2]
      simp only [Option.bind_some]
      rw [if_neg (show ¬ pzO3 (some 1) = 6 by decide), if_neg (by decide)]
      rfl
    · have L0 := pzLi_up h (pzN (p + pzLw 6 (some 2)))
      obtain ⟨I1, A1, e1, L1, F1⟩ := pz_come L0 (by simp) 2 (d := 3) (g := 3) rfl rfl
      obtain ⟨I2, A2, e2, L2, F2⟩ := pz_come L1 (by simp) 5 (d := 5) (g := 6) rfl rfl
      refine ⟨I2, A2, ?_, L2, (F2.1 23 (by decide)).trans ((F1.1 23 (by decide)).trans (pz_upd_eq _ _ _)), pzFc_trans (pzFc_trans (pzFc_up I A (pzN (p + pzLw 6 (some 2)))) (pzFb_fc F1)) (pzFb_fc F2)⟩
      have h23 : I 23 + pzN (pzTw 6 2).length = pzN (p + pzLw 6 (some 2)) := by rw [hp, pzN_add]; rfl
      unfold fX9_readBody_72
      rw [if_neg (show ¬ pzO3 (some 2) = -2 by decide), if_pos (show gd (pzO3 (some 2)) 7 by decide)]
      rw [show (pzO3 (some 2)).toNatClampNeg = 2 from rfl, hlen, Option.bind_some]
      unfold fX9_readBody_96
      rw [h23]
      rw [if_neg (show ¬ pzO3 (some 2) = 6 by decide)]
      rw [if_neg (show ¬ fX9_isIn (pzO3 (some 2)) 0 3 = 0 by decide), e1]
      simp only [Option.bind_some]
      unfold fX9_readBody_127
      rw [if_pos (show pzO3 (some 2) = 2 from rfl)]
      unfold fX9_readBody_142
      rw [if_neg (show ¬ (1 : Int32) = 0 by decide)]
      unfold fX9_readBody_171
      rw [e2]
      simp only [Option.bind_some]
      rw [if_neg (show ¬ pzO3 (some 2) = 6 by decide), if_neg (by decide)]
      rfl
    · have L0 := pzLi_up h (pzN (p + pzLw 6 (some 3)))
      obtain ⟨I1, A1, e1, L1, F1⟩ := pz_come L0 (by simp) 2 (d := 3) (g := 3) rfl rfl
      obtain ⟨I2, A2, e2, L2, F2⟩ := pz_come L1 (by simp) 5 (d := 5) (g := 6) rfl rfl
      refine ⟨I2, A2, ?_, L2, (F2.1 23 (by decide)).trans ((F1.1 23 (by decide)).trans (pz_upd_eq _ _ _)), pzFc_trans (pzFc_trans (pzFc_up I A (pzN (p + pzLw 6 (some 3)))) (pzFb_fc F1)) (pzFb_fc F2)⟩
      have h23 : I 23 + pzN (pzTw 6 3).length = pzN (p + pzLw 6 (some 3)) := by rw [hp, pzN_add]; rfl
      unfold fX9_readBody_72
      rw [if_neg (show ¬ pzO3 (some 3) = -2 by decide), if_pos (show gd (pzO3 (some 3)) 7 by decide)]
      rw [show (pzO3 (some 3)).toNatClampNeg = 3 from rfl, hlen, Option.bind_some]
      unfold fX9_readBody_96
      rw [h23]
      rw [if_neg (show ¬ pzO3 (some 3) = 6 by decide)]
      rw [if_neg (show ¬ fX9_isIn (pzO3 (some 3)) 0 3 = 0 by decide), e1]
      simp only [Option.bind_some]
      unfold fX9_readBody_127
      rw [if_neg (show ¬ pzO3 (some 3) = 2 by decide), if_pos (show pzO3 (some 3) = 3 from rfl)]
      unfold fX9_readBody_142
      rw [if_neg (show ¬ (1 : Int32) = 0 by decide)]
      unfold fX9_readBody_171
      rw [e2]
      simp only [Option.bind_some]
      rw [if_neg (show ¬ pzO3 (some 3) = 6 by decide), if_neg (by decide)]
      rfl
    · have L0 := pzLi_up h (pzN (p + pzLw 6 (some 4)))
      obtain ⟨I1, A1, e1, L1, F1⟩ := pz_come L0 (by simp) 3 (d := 3) (g := 4) rfl rfl
      obtain ⟨I2, A2, e2, L2, F2⟩ := pz_come L1 (by simp) 7 (d := 5) (g := 8) rfl rfl
      refine ⟨I2, A2, ?_, L2, (F2.1 23 (by decide)).trans ((F1.1 23 (by decide)).trans (pz_upd_eq _ _ _)), pzFc_trans (pzFc_trans (pzFc_up I A (pzN (p + pzLw 6 (some 4)))) (pzFb_fc F1)) (pzFb_fc F2)⟩
      have h23 : I 23 + pzN (pzTw 6 4).length = pzN (p + pzLw 6 (some 4)) := by rw [hp, pzN_add]; rfl
      unfold fX9_readBody_72
      rw [if_neg (show ¬ pzO3 (some 4) = -2 by decide), if_pos (show gd (pzO3 (some 4)) 7 by decide)]
      rw [show (pzO3 (some 4)).toNatClampNeg = 4 from rfl, hlen, Option.bind_some]
      unfold fX9_readBody_96
      rw [h23]
      rw [if_neg (show ¬ pzO3 (some 4) = 6 by decide)]
      rw [if_pos (show fX9_isIn (pzO3 (some 4)) 0 3 = 0 by decide), e1]
      simp only [Option.bind_some]
      unfold fX9_readBody_127
      rw [if_neg (show ¬ pzO3 (some 4) = 2 by decide), if_neg (show ¬ pzO3 (some 4) = 3 by decide)]
      unfold fX9_readBody_142
      rw [if_pos (show (0 : Int32) = 0 from rfl)]
      rw [if_pos (show pzO3 (some 4) = 4 from rfl)]
      unfold fX9_readBody_171
      rw [e2]
      simp only [Option.bind_some]
      rw [if_neg (show ¬ pzO3 (some 4) = 6 by decide), if_neg (by decide)]
      rfl
    · have L0 := pzLi_up h (pzN (p + pzLw 6 (some 5)))
      obtain ⟨I1, A1, e1, L1, F1⟩ := pz_come L0 (by simp) 3 (d := 3) (g := 4) rfl rfl
      obtain ⟨I2, A2, e2, L2, F2⟩ := pz_come L1 (by simp) 7 (d := 5) (g := 8) rfl rfl
      refine ⟨I2, A2, ?_, L2, (F2.1 23 (by decide)).trans ((F1.1 23 (by decide)).trans (pz_upd_eq _ _ _)), pzFc_trans (pzFc_trans (pzFc_up I A (pzN (p + pzLw 6 (some 5)))) (pzFb_fc F1)) (pzFb_fc F2)⟩
      have h23 : I 23 + pzN (pzTw 6 5).length = pzN (p + pzLw 6 (some 5)) := by rw [hp, pzN_add]; rfl
      unfold fX9_readBody_72
      rw [if_neg (show ¬ pzO3 (some 5) = -2 by decide), if_pos (show gd (pzO3 (some 5)) 7 by decide)]
      rw [show (pzO3 (some 5)).toNatClampNeg = 5 from rfl, hlen, Option.bind_some]
      unfold fX9_readBody_96
      rw [h23]
      rw [if_neg (show ¬ pzO3 (some 5) = 6 by decide)]
      rw [if_pos (show fX9_isIn (pzO3 (some 5)) 0 3 = 0 by decide), e1]
      simp only [Option.bind_some]
      unfold fX9_readBody_127
      rw [if_neg (show ¬ pzO3 (some 5) = 2 by decide), if_neg (show ¬ pzO3 (some 5) = 3 by decide)]
      unfold fX9_readBody_142
      rw [if_pos (show (0 : Int32) = 0 from rfl)]
      rw [if_neg (show ¬ pzO3 (some 5) = 4 by decide), if_pos (show pzO3 (some 5) = 5 from rfl)]
      unfold fX9_readBody_171
      rw [e2]
      simp only [Option.bind_some]
      rw [if_neg (show ¬ pzO3 (some 5) = 6 by decide), if_neg (by decide)]
      rfl
    · have L0 := pzLi_up h (pzN (p + pzLw 6 (some 6)))
      obtain ⟨I2, A2, e2, L2, F2⟩ := pz_come L0 (by simp) 6 (d := 5) (g := 7) rfl rfl
      refine ⟨I2, A2, ?_, L2, (F2.1 23 (by decide)).trans (pz_upd_eq _ _ _), pzFc_trans (pzFc_up I A (pzN (p + pzLw 6 (some 6)))) (pzFb_fc F2)⟩
      have h23 : I 23 + pzN (pzTw 6 6).length = pzN (p + pzLw 6 (some 6)) := by rw [hp, pzN_add]; rfl
      unfold fX9_readBody_72
      rw [if_neg (show ¬ pzO3 (some 6) = -2 by decide), if_pos (show gd (pzO3 (some 6)) 7 by decide)]
      rw [show (pzO3 (some 6)).toNatClampNeg = 6 from rfl, hlen, Option.bind_some]
      unfold fX9_readBody_96
      rw [h23]
      rw [if_pos (show pzO3 (some 6) = 6 from rfl)]
      unfold fX9_readBody_127
      rw [if_neg (show ¬ pzO3 (some 6) = 2 by decide), if_neg (show ¬ pzO3 (some 6) = 3 by decide)]
      unfold fX9_readBody_142
      rw [if_pos (show (0 : Int32) = 0 from rfl)]
      rw [if_neg (show ¬ pzO3 (some 6) = 4 by decide), if_neg (show ¬ pzO3 (some 6) = 5 by decide)]
      unfold fX9_readBody_171
      rw [e2]
      simp only [Option.bind_some]
      rw [if_pos (show pzO3 (some 6) = 6 from rfl), if_pos trivial]
      rfl

def pzSl (dim : Bool) (r : Option Nat) : List Nat := match r with
  | none => []
  | some 0 => [8, 13]
  | some 1 => [8]
  | some r => [if 0 < (r - 2) % 3 then 11 else if dim then 9 else 10] ++ (if 0 < (r - 2) / 3 then [13] else []) ++ (if 1 < (r - 2) / 3 then [15] else []) ++ (if 2 < (r - 2) / 3 then [18] else [])
set_option maxRecDepth 10000 in
theorem pz_stS {I : Nat → Int32} {A : Nat → Nat → Int32} {l : List Nat} {p : Nat} (h : pzLi I A l) (hl : l.length ≤ 3) (hp : I 23 = pzN p) (dim : Bool) (r : Option Nat) (hr : ∀ j, r = some j → j < 14) :
    ∃ I1 A1, fX9_readBody_193 BM I A (pzSm dim) (pzO3 r) = ((fX9_word_vchanges BM I1 A1).bind fun r => fX9_readBody_341 BM FU I1 A1 r) ∧ pzLi I1 A1 (l ++ pzSl dim r) ∧ I1 23 = pzN (p + pzLw 5 (r.map (pzPm 5))) ∧ pzFc I A I1 A1 := by
  cases r with
  | none =>
    refine ⟨I, A, ?_, by simpa [pzSl] using h, hp, pzFc_refl I A⟩
    unfold fX9_readBody_193
    rw [if_pos (show pzO3 none = -2 from rfl)]
  | some j =>
    have hj := hr j rfl
    have hjs : j = 0 ∨ j = 1 ∨ j = 2 ∨ j = 3 ∨ j = 4 ∨ j = 5 ∨ j = 6 ∨ j = 7 ∨ j = 8 ∨ j = 9 ∨ j = 10 ∨ j = 11 ∨ j = 12 ∨ j = 13 := by omega
    have hlen := (pz_wr17.2 j hj).1
    rcases hjs with rfl | rfl | rfl | rfl | rfl | rfl | rfl | rfl | rfl | rfl | rfl | rfl | rfl | rfl
    · have h23 : I 23 + pzN (pzTw 5 (pzPm 5 0)).length = pzN (p + (pzTw 5 (pzPm 5 0)).length) := by rw [hp, pzN_add]
      have L0 := pzLi_up h (pzN (p + (pzTw 5 (pzPm 5 0)).length))
      obtain ⟨I1, A1, e1, L1, F1⟩ := pz_come L0 (by omega) 8 (d := 6) (g := 9) rfl rfl
      obtain ⟨I2, A2, e2, L2, F2⟩ := pz_come L1 (by simp only [List.length_append, List.length_cons, List.length_nil]; omega) 13 (d := 9) (g := 14) rfl rfl
      refine ⟨I2, A2, ?_, by simpa [pzSl] using L2, (F2.1 23 (by decide)).trans ((F1.1 23 (by decide)).trans (pz_upd_eq _ _ _)), pzFc_trans (pzFc_trans (pzFc_up I A (pzN (p + (pzTw 5 (pzPm 5 0)).length))) (pzFb_fc F1)) (pzFb_fc F2)⟩
      unfold fX9_readBody_193
      rw [if_neg (show ¬ pzO3 (some 0) = -2 by decide), if_pos (show gd (pzO3 (some 0)) 14 by decide), show (pzO3 (some 0)).toNatClampNeg = 0 from rfl, hlen, Option.bind_some, h23]
      rw [if_neg (show ¬ (2 : Int32) ≤ pzO3 (some 0) by decide), e1]
      simp only [Option.bind_some]
      rw [if_pos (show pzO3 (some 0) = 0 from rfl), e2]
      rfl
    · have h23 : I 23 + pzN (pzTw 5 (pzPm 5 1)).length = pzN (p + (pzTw 5 (pzPm 5 1)).length) := by rw [hp, pzN_add]
      have L0 := pzLi_up h (pzN (p + (pzTw 5 (pzPm 5 1)).length))
      obtain ⟨I1, A1, e1, L1, F1⟩ := pz_come L0 (by omega) 8 (d := 6) (g := 9) rfl rfl
      refine ⟨I1, A1, ?_, by simpa [pzSl] using L1, (F1.1 23 (by decide)).trans (pz_upd_eq _ _ _), pzFc_trans (pzFc_up I A (pzN (p + (pzTw 5 (pzPm 5 1)).length))) (pzFb_fc F1)⟩
      unfold fX9_readBody_193
      rw [if_neg (show ¬ pzO3 (some 1) = -2 by decide), if_pos (show gd (pzO3 (some 1)) 14 by decide), show (pzO3 (some 1)).toNatClampNeg = 1 from rfl, hlen, Option.bind_some, h23]
      rw [if_neg (show ¬ (2 : Int32) ≤ pzO3 (some 1) by decide), e1]
      simp only [Option.bind_some]
      rw [if_neg (show ¬ pzO3 (some 1) = 0 by decide)]
    · have h23 : I 23 + pzN (pzTw 5 (pzPm 5 2)).length = pzN (p + (pzTw 5 (pzPm 5 2)).length) := by rw [hp, pzN_add]
      have L0 := pzLi_up h (pzN (p + (pzTw 5 (pzPm 5 2)).length))
      cases dim with
      | false =>
        obtain ⟨I1, A1, e1, L1, F1⟩ := pz_come L0 (by omega) 10 (d := 7) (g := 10) rfl rfl
        refine ⟨I1, A1, ?_, by simpa [pzSl] using L1, (F1.1 23 (by decide)).trans (pz_upd_eq _ _ _), pzFc_trans (pzFc_up I A (pzN (p + (pzTw 5 (pzPm 5 2)).length))) (pzFb_fc F1)⟩
        unfold fX9_readBody_193
        rw [if_neg (show ¬ pzO3 (some 2) = -2 by decide), if_pos (show gd (pzO3 (some 2)) 14 by decide), show (pzO3 (some 2)).toNatClampNeg = 2 from rfl, hlen, Option.bind_some, h23]
        rw [if_pos (show (2 : Int32) ≤ pzO3 (some 2) by decide)]
        rw [if_pos (show jrem (pzO3 (some 2) - 2) 3 ≤ 0 by decide)]
        rw [if_pos (show pzSm false = 0 from rfl)]
        unfold fX9_readBody_287
        rw [e1]
        simp only [Option.bind_some]
        rw [if_pos (show (pzO3 (some 2) - 2) / 3 ≤ 0 by decide)]
        unfold fX9_readBody_303
        rw [if_pos (show (pzO3 (some 2) - 2) / 3 ≤ 1 by decide)]
        unfold fX9_readBody_317
        rw [if_pos (show (pzO3 (some 2) - 2) / 3 ≤ 2 by decide)]
      | true =>
        obtain ⟨I1, A1, e1, L1, F1⟩ := pz_come L0 (by omega) 9 (d := 7) (g := 9) rfl rfl
        refine ⟨I1, A1, ?_, by simpa [pzSl] using L1, (F1.1 23 (by decide)).trans (pz_upd_eq _ _ _), pzFc_trans (pzFc_up I A (pzN (p + (pzTw 5 (pzPm 5 2)).length))) (pzFb_fc F1)⟩
        unfold fX9_readBody_193
        rw [if_neg (show ¬ pzO3 (some 2) = -2 by decide), if_pos (show gd (pzO3 (some 2)) 14 by decide), show (pzO3 (some 2)).toNatClampNeg = 2 from rfl, hlen, Option.bind_some, h23]
        rw [if_pos (show (2 : Int32) ≤ pzO3 (some 2) by decide)]
        rw [if_pos (show jrem (pzO3 (some 2) - 2) 3 ≤ 0 by decide)]
        rw [if_neg (show ¬ pzSm true = 0 by decide)]
        unfold fX9_readBody_287
        rw [e1]
        simp only [Option.bind_some]
        rw [if_pos (show (pzO3 (some 2) - 2) / 3 ≤ 0 by decide)]
        unfold fX9_readBody_303
        rw [if_pos (show (pzO3 (some 2) - 2) / 3 ≤ 1 by decide)]
        unfold fX9_readBody_317
        rw [if_pos (show (pzO3 (some 2) - 2) / 3 ≤ 2 by decide)]
    · have h23 : I 23 + pzN (pzTw 5 (pzPm 5 3)).length = pzN (p + (pzTw 5 (pzPm 5 3)).length) := by rw [hp, pzN_add]
      have L0 := pzLi_up h (pzN (p + (pzTw 5 (pzPm 5 3)).length))
      obtain ⟨I1, A1, e1, L1, F1⟩ := pz_come L0 (by omega) 11 (d := 7) (g := 11) rfl rfl
      refine ⟨I1, A1, ?_, by simpa [pzSl] using L1, (F1.1 23 (by decide)).trans (pz_upd_eq _ _ _), pzFc_trans (pzFc_up I A (pzN (p + (pzTw 5 (pzPm 5 3)).length))) (pzFb_fc F1)⟩
      unfold fX9_readBody_193
      rw [if_neg (show ¬ pzO3 (some 3) = -2 by decide), if_pos (show gd (pzO3 (some 3)) 14 by decide), show (pzO3 (some 3)).toNatClampNeg = 3 from rfl, hlen, Option.bind_some, h23]
      rw [if_pos (show (2 : Int32) ≤ pzO3 (some 3) by decide)]
      rw [if_neg (show ¬ jrem (pzO3 (some 3) - 2) 3 ≤ 0 by decide)]
      unfold fX9_readBody_287
      rw [e1]
      simp only [Option.bind_some]
      rw [if_pos (show (pzO3 (some 3) - 2) / 3 ≤ 0 by decide)]
      unfold fX9_readBody_303
      rw [if_pos (show (pzO3 (some 3) - 2) / 3 ≤ 1 by decide)]
      unfold fX9_readBody_317
      rw [if_pos (show (pzO3 (some 3) - 2) / 3 ≤ 2 by decide)]
    · have h23 : I 23 + pzN (pzTw 5 (pzPm 5 4)).length = pzN (p + (pzTw 5 (pzPm 5 4)).length) := by rw [hp, pzN_add]
      have L0 := pzLi_up h (pzN (p + (pzTw 5 (pzPm 5 4)).length))
      obtain ⟨I1, A1, e1, L1, F1⟩ := pz_come L0 (by omega) 11 (d := 7) (g := 11) rfl rfl
      refine ⟨I1, A1, ?_, by simpa [pzSl] using L1, (F1.1 23 (by decide)).trans (pz_upd_eq _ _ _), pzFc_trans (pzFc_up I A (pzN (p + (pzTw 5 (pzPm 5 4)).length))) (pzFb_fc F1)⟩
      unfold fX9_readBody_193
      rw [if_neg (show ¬ pzO3 (some 4) = -2 by decide), if_pos (show gd (pzO3 (some 4)) 14 by decide), show (pzO3 (some 4)).toNatClampNeg = 4 from rfl, hlen, Option.bind_some, h23]
      rw [if_pos (show (2 : Int32) ≤ pzO3 (some 4) by decide)]
      rw [if_neg (show ¬ jrem (pzO3 (some 4) - 2) 3 ≤ 0 by decide)]
      unfold fX9_readBody_287
      rw [e1]
      simp only [Option.bind_some]
      rw [if_pos (show (pzO3 (some 4) - 2) / 3 ≤ 0 by decide)]
      unfold fX9_readBody_303
      rw [if_pos (show (pzO3 (some 4) - 2) / 3 ≤ 1 by decide)]
      unfold fX9_readBody_317
      rw [if_pos (show (pzO3 (some 4) - 2) / 3 ≤ 2 by decide)]
    · have h23 : I 23 + pzN (pzTw 5 (pzPm 5 5)).length = pzN (p + (pzTw 5 (pzPm 5 5)).length) := by rw [hp, pzN_add]
      have L0 := pzLi_up h (pzN (p + (pzTw 5 (pzPm 5 5)).length))
      cases dim with
      | false =>
        obtain ⟨I1, A1, e1, L1, F1⟩ := pz_come L0 (by omega) 10 (d := 7) (g := 10) rfl rfl
        obtain ⟨I2, A2, e2, L2, F2⟩ := pz_come L1 (by simp only [List.length_append, List.length_cons, List.length_nil]; omega) 13 (d := 9) (g := 14) rfl rfl
        refine ⟨I2, A2, ?_, by simpa [pzSl] using L2, (F2.1 23 (by decide)).trans ((F1.1 23 (by decide)).trans (pz_upd_eq _ _ _)), pzFc_trans (pzFc_trans (pzFc_up I A (pzN (p + (pzTw 5 (pzPm 5 5)).length))) (pzFb_fc F1)) (pzFb_fc F2)⟩
        unfold fX9_readBody_193
        rw [if_neg (show ¬ pzO3 (some 5) = -2 by decide), if_pos (show gd (pzO3 (some 5)) 14 by decide), show (pzO3 (some 5)).toNatClampNeg = 5 from rfl, hlen, Option.bind_some, h23]
        rw [if_pos (show (2 : Int32) ≤ pzO3 (some 5) by decide)]
        rw [if_pos (show jrem (pzO3 (some 5) - 2) 3 ≤ 0 by decide)]
        rw [if_pos (show pzSm false = 0 from rfl)]
        unfold fX9_readBody_287
        rw [e1]
        simp only [Option.bind_some]
        rw [if_neg (show ¬ (pzO3 (some 5) - 2) / 3 ≤ 0 by decide), e2]
        simp only [Option.bind_some]
        unfold fX9_readBody_303
        rw [if_pos (show (pzO3 (some 5) - 2) / 3 ≤ 1 by decide)]
        unfold fX9_readBody_317
        rw [if_pos (show (pzO3 (some 5) - 2) / 3 ≤ 2 by decide)]
      | true =>
        obtain ⟨I1, A1, e1, L1, F1⟩ := pz_come L0 (by omega) 9 (d := 7) (g := 9) rfl rfl
        obtain ⟨I2, A2, e2, L2, F2⟩ := pz_come L1 (by simp only [List.length_append, List.length_cons, List.length_nil]; omega) 13 (d := 9) (g := 14) rfl rfl
        refine ⟨I2, A2, ?_, by simpa [pzSl] using L2, (F2.1 23 (by decide)).trans ((F1.1 23 (by decide)).trans (pz_upd_eq _ _ _)), pzFc_trans (pzFc_trans (pzFc_up I A (pzN (p + (pzTw 5 (pzPm 5 5)).length))) (pzFb_fc F1)) (pzFb_fc F2)⟩
        unfold fX9_readBody_193
        rw [if_neg (show ¬ pzO3 (some 5) = -2 by decide), if_pos (show gd (pzO3 (some 5)) 14 by decide), show (pzO3 (some 5)).toNatClampNeg = 5 from rfl, hlen, Option.bind_some, h23]
        rw [if_pos (show (2 : Int32) ≤ pzO3 (some 5) by decide)]
        rw [if_pos (show jrem (pzO3 (some 5) - 2) 3 ≤ 0 by decide)]
        rw [if_neg (show ¬ pzSm true = 0 by decide)]
        unfold fX9_readBody_287
        rw [e1]
        simp only [Option.bind_some]
        rw [if_neg (show ¬ (pzO3 (some 5) - 2) / 3 ≤ 0 by decide), e2]
        simp only [Option.bind_some]
        unfold fX9_readBody_303
        rw [if_pos (show (pzO3 (some 5) - 2) / 3 ≤ 1 by decide)]
        unfold fX9_readBody_317
        rw [if_pos (show (pzO3 (some 5) - 2) / 3 ≤ 2 by decide)]
    · have h23 : I 23 + pzN (pzTw 5 (pzPm 5 6)).length = pzN (p + (pzTw 5 (pzPm 5 6)).length) := by rw [hp, pzN_add]
      have L0 := pzLi_up h (pzN (p + (pzTw 5 (pzPm 5 6)).length))
      obtain ⟨I1, A1, e1, L1, F1⟩ := pz_come L0 (by omega) 11 (d := 7) (g := 11) rfl rfl
      obtain ⟨I2, A2, e2, L2, F2⟩ := pz_come L1 (by simp only [List.length_append, List.length_cons, List.length_nil]; omega) 13 (d := 9) (g := 14) rfl rfl
      refine ⟨I2, A2, ?_, by simpa [pzSl] using L2, (F2.1 23 (by decide)).trans ((F1.1 23 (by decide)).trans (pz_upd_eq _ _ _)), pzFc_trans (pzFc_trans (pzFc_up I A (pzN (p + (pzTw 5 (pzPm 5 6)).length))) (pzFb_fc F1)) (pzFb_fc F2)⟩
      unfold fX9_readBody_193
      rw [if_neg (show ¬ pzO3 (some 6) = -2 by decide), if_pos (show gd (pzO3 (some 6)) 14 by decide), show (pzO3 (some 6)).toNatClampNeg = 6 from rfl, hlen, Option.bind_some, h23]
      rw [if_pos (show (2 : Int32) ≤ pzO3 (some 6) by decide)]
      rw [if_neg (show ¬ jrem (pzO3 (some 6) - 2) 3 ≤ 0 by decide)]
      unfold fX9_readBody_287
      rw [e1]
      simp only [Option.bind_some]
      rw [if_neg (show ¬ (pzO3 (some 6) - 2) / 3 ≤ 0 by decide), e2]
      simp only [Option.bind_some]
      unfold fX9_readBody_303
      rw [if_pos (show (pzO3 (some 6) - 2) / 3 ≤ 1 by decide)]
      unfold fX9_readBody_317
      rw [if_pos (show (pzO3 (some 6) - 2) / 3 ≤ 2 by decide)]
    · have h23 : I 23 + pzN (pzTw 5 (pzPm 5 7)).length = pzN (p + (pzTw 5 (pzPm 5 7)).length) := by rw [hp, pzN_add]
      have L0 := pzLi_up h (pzN (p + (pzTw 5 (pzPm 5 7)).length))
      obtain ⟨I1, A1, e1, L1, F1⟩ := pz_come L0 (by omega) 11 (d := 7) (g := 11) rfl rfl
      obtain ⟨I2, A2, e2, L2, F2⟩ := pz_come L1 (by simp only [List.length_append, List.length_cons, List.length_nil]; omega) 13 (d := 9) (g := 14) rfl rfl
      refine ⟨I2, A2, ?_, by simpa [pzSl] using L2, (F2.1 23 (by decide)).trans ((F1.1 23 (by decide)).trans (pz_upd_eq _ _ _)), pzFc_trans (pzFc_trans (pzFc_up I A (pzN (p + (pzTw 5 (pzPm 5 7)).length))) (pzFb_fc F1)) (pzFb_fc F2)⟩
      unfold fX9_readBody_193
      rw [if_neg (show ¬ pzO3 (some 7) = -2 by decide), if_pos (show gd (pzO3 (some 7)) 14 by decide), show (pzO3 (some 7)).toNatClampNeg = 7 from rfl, hlen, Option.bind_some, h23]
      rw [if_pos (show (2 : Int32) ≤ pzO3 (some 7) by decide)]
      rw [if_neg (show ¬ jrem (pzO3 (some 7) - 2) 3 ≤ 0 by decide)]
      unfold fX9_readBody_287
      rw [e1]
      simp only [Option.bind_some]
      rw [if_neg (show ¬ (pzO3 (some 7) - 2) / 3 ≤ 0 by decide), e2]
      simp only [Option.bind_some]
      unfold fX9_readBody_303
      rw [if_pos (show (pzO3 (some 7) - 2) / 3 ≤ 1 by decide)]
      unfold fX9_readBody_317
      rw [if_pos (show (pzO3 (some 7) - 2) / 3 ≤ 2 by decide)]
    · have h23 : I 23 + pzN (pzTw 5 (pzPm 5 8)).length = pzN (p + (pzTw 5 (pzPm 5 8)).length) := by rw [hp, pzN_add]
      have L0 := pzLi_up h (pzN (p + (pzTw 5 (pzPm 5 8)).length))
      cases dim with
      | false =>
        obtain ⟨I1, A1, e1, L1, F1⟩ := pz_come L0 (by omega) 10 (d := 7) (g := 10) rfl rfl
        obtain ⟨I2, A2, e2, L2, F2⟩ := pz_come L1 (by simp only [List.length_append, List.length_cons, List.length_nil]; omega) 13 (d := 9) (g := 14) rfl rfl
        obtain ⟨I3, A3, e3, L3, F3⟩ := pz_come L2 (by simp only [List.length_append, List.length_cons, List.length_nil]; omega) 15 (d := 11) (g := 17) rfl rfl
        refine ⟨I3, A3, ?_, by simpa [pzSl] using L3, (F3.1 23 (by decide)).trans ((F2.1 23 (by decide)).trans ((F1.1 23 (by decide)).trans (pz_upd_eq _ _ _))), pzFc_trans (pzFc_trans (pzFc_trans (pzFc_up I A (pzN (p + (pzTw 5 (pzPm 5 8)).length))) (pzFb_fc F1)) (pzFb_fc F2)) (pzFb_fc F3)⟩
        unfold fX9_readBody_193
        rw [if_neg (show ¬ pzO3 (some 8) = -2 by decide), if_pos (show gd (pzO3 (some 8)) 14 by decide), show (pzO3 (some 8)).toNatClampNeg = 8 from rfl, hlen, Option.bind_some, h23]
        rw [if_pos (show (2 : Int32) ≤ pzO3 (some 8) by decide)]
        rw [if_pos (show jrem (pzO3 (some 8) - 2) 3 ≤ 0 by decide)]
        rw [if_pos (show pzSm false = 0 from rfl)]
        unfold fX9_readBody_287
        rw [e1]
        simp only [Option.bind_some]
        rw [if_neg (show ¬ (pzO3 (some 8) - 2) / 3 ≤ 0 by decide), e2]
        simp only [Option.bind_some]
        unfold fX9_readBody_303
        rw [if_neg (show ¬ (pzO3 (some 8) - 2) / 3 ≤ 1 by decide), e3]
        simp only [Option.bind_some]
        unfold fX9_readBody_317
        rw [if_pos (show (pzO3 (some 8) - 2) / 3 ≤ 2 by decide)]
      | true =>
        obtain ⟨I1, A1, e1, L1, F1⟩ := pz_come L0 (by omega) 9 (d := 7) (g := 9) rfl rfl
        obtain ⟨I2, A2, e2, L2, F2⟩ := pz_come L1 (by simp only [List.length_append, List.length_cons, List.length_nil]; omega) 13 (d := 9) (g := 14) rfl rfl
        obtain ⟨I3, A3, e3, L3, F3⟩ := pz_come L2 (by simp only [List.length_append, List.length_cons, List.length_nil]; omega) 15 (d := 11) (g := 17) rfl rfl
        refine ⟨I3, A3, ?_, by simpa [pzSl] using L3, (F3.1 23 (by decide)).trans ((F2.1 23 (by decide)).trans ((F1.1 23 (by decide)).trans (pz_upd_eq _ _ _))), pzFc_trans (pzFc_trans (pzFc_trans (pzFc_up I A (pzN (p + (pzTw 5 (pzPm 5 8)).length))) (pzFb_fc F1)) (pzFb_fc F2)) (pzFb_fc F3)⟩
        unfold fX9_readBody_193
        rw [if_neg (show ¬ pzO3 (some 8) = -2 by decide), if_pos (show gd (pzO3 (some 8)) 14 by decide), show (pzO3 (some 8)).toNatClampNeg = 8 from rfl, hlen, Option.bind_some, h23]
        rw [if_pos (show (2 : Int32) ≤ pzO3 (some 8) by decide)]
        rw [if_pos (show jrem (pzO3 (some 8) - 2) 3 ≤ 0 by decide)]
        rw [if_neg (show ¬ pzSm true = 0 by decide)]
        unfold fX9_readBody_287
        rw [e1]
        simp only [Option.bind_some]
        rw [if_neg (show ¬ (pzO3 (some 8) - 2) / 3 ≤ 0 by decide), e2]
        simp only [Option.bind_some]
        unfold fX9_readBody_303
        rw [if_neg (show ¬ (pzO3 (some 8) - 2) / 3 ≤ 1 by decide), e3]
        simp only [Option.bind_some]
        unfold fX9_readBody_317
        rw [if_pos (show (pzO3 (some 8) - 2) / 3 ≤ 2 by decide)]
    · have h23 : I 23 + pzN (pzTw 5 (pzPm 5 9)).length = pzN (p + (pzTw 5 (pzPm 5 9)).length) := by rw [hp, pzN_add]
      have L0 := pzLi_up h (pzN (p + (pzTw 5 (pzPm 5 9)).length))
      obtain ⟨I1, A1, e1, L1, F1⟩ := pz_come L0 (by omega) 11 (d := 7) (g := 11) rfl rfl
      obtain ⟨I2, A2, e2, L2, F2⟩ := pz_come L1 (by simp only [List.length_append, List.length_cons, List.length_nil]; omega) 13 (d := 9) (g := 14) rfl rfl
      obtain ⟨I3, A3, e3, L3, F3⟩ := pz_come L2 (by simp only [List.length_append, List.length_cons, List.length_nil]; omega) 15 (d := 11) (g := 17) rfl rfl
      refine ⟨I3, A3, ?_, by simpa [pzSl] using L3, (F3.1 23 (by decide)).trans ((F2.1 23 (by decide)).trans ((F1.1 23 (by decide)).trans (pz_upd_eq _ _ _))), pzFc_trans (pzFc_trans (pzFc_trans (pzFc_up I A (pzN (p + (pzTw 5 (pzPm 5 9)).length))) (pzFb_fc F1)) (pzFb_fc F2)) (pzFb_fc F3)⟩
      unfold fX9_readBody_193
      rw [if_neg (show ¬ pzO3 (some 9) = -2 by decide), if_pos (show gd (pzO3 (some 9)) 14 by decide), show (pzO3 (some 9)).toNatClampNeg = 9 from rfl, hlen, Option.bind_some, h23]
      rw [if_pos (show (2 : Int32) ≤ pzO3 (some 9) by decide)]
      rw [if_neg (show ¬ jrem (pzO3 (some 9) - 2) 3 ≤ 0 by decide)]
      unfold fX9_readBody_287
      rw [e1]
      simp only [Option.bind_some]
      rw [if_neg (show ¬ (pzO3 (some 9) - 2) / 3 ≤ 0 by decide), e2]
      simp only [Option.bind_some]
      unfold fX9_readBody_303
      rw [if_neg (show ¬ (pzO3 (some 9) - 2) / 3 ≤ 1 by decide), e3]
      simp only [Option.bind_some]
      unfold fX9_readBody_317
      rw [if_pos (show (pzO3 (some 9) - 2) / 3 ≤ 2 by decide)]
    · have h23 : I 23 + pzN (pzTw 5 (pzPm 5 10)).length = pzN (p + (pzTw 5 (pzPm 5 10)).length) := by rw [hp, pzN_add]
      have L0 := pzLi_up h (pzN (p + (pzTw 5 (pzPm 5 10)).length))
      obtain ⟨I1, A1, e1, L1, F1⟩ := pz_come L0 (by omega) 11 (d := 7) (g := 11) rfl rfl
      obtain ⟨I2, A2, e2, L2, F2⟩ := pz_come L1 (by simp only [List.length_append, List.length_cons, List.length_nil]; omega) 13 (d := 9) (g := 14) rfl rfl
      obtain ⟨I3, A3, e3, L3, F3⟩ := pz_come L2 (by simp only [List.length_append, List.length_cons, List.length_nil]; omega) 15 (d := 11) (g := 17) rfl rfl
      refine ⟨I3, A3, ?_, by simpa [pzSl] using L3, (F3.1 23 (by decide)).trans ((F2.1 23 (by decide)).trans ((F1.1 23 (by decide)).trans (pz_upd_eq _ _ _))), pzFc_trans (pzFc_trans (pzFc_trans (pzFc_up I A (pzN (p + (pzTw 5 (pzPm 5 10)).length))) (pzFb_fc F1)) (pzFb_fc F2)) (pzFb_fc F3)⟩
      unfold fX9_readBody_193
      rw [if_neg (show ¬ pzO3 (some 10) = -2 by decide), if_pos (show gd (pzO3 (some 10)) 14 by decide), show (pzO3 (some 10)).toNatClampNeg = 10 from rfl, hlen, Option.bind_some, h23]
      rw [if_pos (show (2 : Int32) ≤ pzO3 (some 10) by decide)]
      rw [if_neg (show ¬ jrem (pzO3 (some 10) - 2) 3 ≤ 0 by decide)]
      unfold fX9_readBody_287
      rw [e1]
      simp only [Option.bind_some]
      rw [if_neg (show ¬ (pzO3 (some 10) - 2) / 3 ≤ 0 by decide), e2]
      simp only [Option.bind_some]
      unfold fX9_readBody_303
      rw [if_neg (show ¬ (pzO3 (some 10) - 2) / 3 ≤ 1 by decide), e3]
      simp only [Option.bind_some]
      unfold fX9_readBody_317
      rw [if_pos (show (pzO3 (some 10) - 2) / 3 ≤ 2 by decide)]
    · have h23 : I 23 + pzN (pzTw 5 (pzPm 5 11)).length = pzN (p + (pzTw 5 (pzPm 5 11)).length) := by rw [hp, pzN_add]
      have L0 := pzLi_up h (pzN (p + (pzTw 5 (pzPm 5 11)).length))
      cases dim with
      | false =>
        obtain ⟨I1, A1, e1, L1, F1⟩ := pz_come L0 (by omega) 10 (d := 7) (g := 10) rfl rfl
        obtain ⟨I2, A2, e2, L2, F2⟩ := pz_come L1 (by simp only [List.length_append, List.length_cons, List.length_nil]; omega) 13 (d := 9) (g := 14) rfl rfl
        obtain ⟨I3, A3, e3, L3, F3⟩ := pz_come L2 (by simp only [List.length_append, List.length_cons, List.length_nil]; omega) 15 (d := 11) (g := 17) rfl rfl
        obtain ⟨I4, A4, e4, L4, F4⟩ := pz_come L3 (by simp only [List.length_append, List.length_cons, List.length_nil]; omega) 18 (d := 13) (g := 21) rfl rfl
        refine ⟨I4, A4, ?_, by simpa [pzSl] using L4, (F4.1 23 (by decide)).trans ((F3.1 23 (by decide)).trans ((F2.1 23 (by decide)).trans ((F1.1 23 (by decide)).trans (pz_upd_eq _ _ _)))), pzFc_trans (pzFc_trans (pzFc_trans (pzFc_trans (pzFc_up I A (pzN (p + (pzTw 5 (pzPm 5 11)).length))) (pzFb_fc F1)) (pzFb_fc F2)) (pzFb_fc F3)) (pzFb_fc F4)⟩
        unfold fX9_readBody_193
        rw [if_neg (show ¬ pzO3 (some 11) = -2 by decide), if_pos (show gd (pzO3 (some 11)) 14 by decide), show (pzO3 (some 11)).toNatClampNeg = 11 from rfl, hlen, Option.bind_some, h23]
        rw [if_pos (show (2 : Int32) ≤ pzO3 (some 11) by decide)]
        rw [if_pos (show jrem (pzO3 (some 11) - 2) 3 ≤ 0 by decide)]
        rw [if_pos (show pzSm false = 0 from rfl)]
        unfold fX9_readBody_287
        rw [e1]
        simp only [Option.bind_some]
        rw [if_neg (show ¬ (pzO3 (some 11) - 2) / 3 ≤ 0 by decide), e2]
        simp only [Option.bind_some]
        unfold fX9_readBody_303
        rw [if_neg (show ¬ (pzO3 (some 11) - 2) / 3 ≤ 1 by decide), e3]
        simp only [Option.bind_some]
        unfold fX9_readBody_317
        rw [if_neg (show ¬ (pzO3 (some 11) - 2) / 3 ≤ 2 by decide), e4]
        rfl
      | true =>
        obtain ⟨I1, A1, e1, L1, F1⟩ := pz_come L0 (by omega) 9 (d := 7) (g := 9) rfl rfl
        obtain ⟨I2, A2, e2, L2, F2⟩ := pz_come L1 (by simp only [List.length_append, List.length_cons, List.length_nil]; omega) 13 (d := 9) (g := 14) rfl rfl
        obtain ⟨I3, A3, e3, L3, F3⟩ := pz_come L2 (by simp only [List.length_append, List.length_cons, List.length_nil]; omega) 15 (d := 11) (g := 17) rfl rfl
        obtain ⟨I4, A4, e4, L4, F4⟩ := pz_come L3 (by simp only [List.length_append, List.length_cons, List.length_nil]; omega) 18 (d := 13) (g := 21) rfl rfl
        refine ⟨I4, A4, ?_, by simpa [pzSl] using L4, (F4.1 23 (by decide)).trans ((F3.1 23 (by decide)).trans ((F2.1 23 (by decide)).trans ((F1.1 23 (by decide)).trans (pz_upd_eq _ _ _)))), pzFc_trans (pzFc_trans (pzFc_trans (pzFc_trans (pzFc_up I A (pzN (p + (pzTw 5 (pzPm 5 11)).length))) (pzFb_fc F1)) (pzFb_fc F2)) (pzFb_fc F3)) (pzFb_fc F4)⟩
        unfold fX9_readBody_193
        rw [if_neg (show ¬ pzO3 (some 11) = -2 by decide), if_pos (show gd (pzO3 (some 11)) 14 by decide), show (pzO3 (some 11)).toNatClampNeg = 11 from rfl, hlen, Option.bind_some, h23]
        rw [if_pos (show (2 : Int32) ≤ pzO3 (some 11) by decide)]
        rw [if_pos (show jrem (pzO3 (some 11) - 2) 3 ≤ 0 by decide)]
        rw [if_neg (show ¬ pzSm true = 0 by decide)]
        unfold fX9_readBody_287
        rw [e1]
        simp only [Option.bind_some]
        rw [if_neg (show ¬ (pzO3 (some 11) - 2) / 3 ≤ 0 by decide), e2]
        simp only [Option.bind_some]
        unfold fX9_readBody_303
        rw [if_neg (show ¬ (pzO3 (some 11) - 2) / 3 ≤ 1 by decide), e3]
        simp only [Option.bind_some]
        unfold fX9_readBody_317
        rw [if_neg (show ¬ (pzO3 (some 11) - 2) / 3 ≤ 2 by decide), e4]
        rfl
    · have h23 : I 23 + pzN (pzTw 5 (pzPm 5 12)).length = pzN (p + (pzTw 5 (pzPm 5 12)).length) := by rw [hp, pzN_add]
      have L0 := pzLi_up h (pzN (p + (pzTw 5 (pzPm 5 12)).length))
      obtain ⟨I1, A1, e1, L1, F1⟩ := pz_come L0 (by omega) 11 (d := 7) (g := 11) rfl rfl
      obtain ⟨I2, A2, e2, L2, F2⟩ := pz_come L1 (by simp only [List.length_append, List.length_cons, List.length_nil]; omega) 13 (d := 9) (g := 14) rfl rfl
      obtain ⟨I3, A3, e3, L3, F3⟩ := pz_come L2 (by simp only [List.length_append, List.length_cons, List.length_nil]; omega) 15 (d := 11) (g := 17) rfl rfl
      obtain ⟨I4, A4, e4, L4, F4⟩ := pz_come L3 (by simp only [List.length_append, List.length_cons, List.length_nil]; omega) 18 (d := 13) (g := 21) rfl rfl
      refine ⟨I4, A4, ?_, by simpa [pzSl] using L4, (F4.1 23 (by decide)).trans ((F3.1 23 (by decide)).trans ((F2.1 23 (by decide)).trans ((F1.1 23 (by decide)).trans (pz_upd_eq _ _ _)))), pzFc_trans (pzFc_trans (pzFc_trans (pzFc_trans (pzFc_up I A (pzN (p + (pzTw 5 (pzPm 5 12)).length))) (pzFb_fc F1)) (pzFb_fc F2)) (pzFb_fc F3)) (pzFb_fc F4)⟩
      unfold fX9_readBody_193
      rw [if_neg (show ¬ pzO3 (some 12) = -2 by decide), if_pos (show gd (pzO3 (some 12)) 14 by decide), show (pzO3 (some 12)).toNatClampNeg = 12 from rfl, hlen, Option.bind_some, h23]
      rw [if_pos (show (2 : Int32) ≤ pzO3 (some 12) by decide)]
      rw [if_neg (show ¬ jrem (pzO3 (some 12) - 2) 3 ≤ 0 by decide)]
      unfold fX9_readBody_287
      rw [e1]
      simp only [Option.bind_some]
      rw [if_neg (show ¬ (pzO3 (some 12) - 2) / 3 ≤ 0 by decide), e2]
      simp only [Option.bind_some]
      unfold fX9_readBody_303
      rw [if_neg (show ¬ (pzO3 (some 12) - 2) / 3 ≤ 1 by decide), e3]
      simp only [Option.bind_some]
      unfold fX9_readBody_317
      rw [if_neg (show ¬ (pzO3 (some 12) - 2) / 3 ≤ 2 by decide), e4]
      rfl
    · have h23 : I 23 + pzN (pzTw 5 (pzPm 5 13)).length = pzN (p + (pzTw 5 (pzPm 5 13)).length) := by rw [hp, pzN_add]
      have L0 := pzLi_up h (pzN (p + (pzTw 5 (pzPm 5 13)).length))
      obtain ⟨I1, A1, e1, L1, F1⟩ := pz_come L0 (by omega) 11 (d := 7) (g := 11) rfl rfl
      obtain ⟨I2, A2, e2, L2, F2⟩ := pz_come L1 (by simp only [List.length_append, List.length_cons, List.length_nil]; omega) 13 (d := 9) (g := 14) rfl rfl
      obtain ⟨I3, A3, e3, L3, F3⟩ := pz_come L2 (by simp only [List.length_append, List.length_cons, List.length_nil]; omega) 15 (d := 11) (g := 17) rfl rfl
      obtain ⟨I4, A4, e4, L4, F4⟩ := pz_come L3 (by simp only [List.length_append, List.length_cons, List.length_nil]; omega) 18 (d := 13) (g := 21) rfl rfl
      refine ⟨I4, A4, ?_, by simpa [pzSl] using L4, (F4.1 23 (by decide)).trans ((F3.1 23 (by decide)).trans ((F2.1 23 (by decide)).trans ((F1.1 23 (by decide)).trans (pz_upd_eq _ _ _)))), pzFc_trans (pzFc_trans (pzFc_trans (pzFc_trans (pzFc_up I A (pzN (p + (pzTw 5 (pzPm 5 13)).length))) (pzFb_fc F1)) (pzFb_fc F2)) (pzFb_fc F3)) (pzFb_fc F4)⟩
      unfold fX9_readBody_193
      rw [if_neg (show ¬ pzO3 (some 13) = -2 by decide), if_pos (show gd (pzO3 (some 13)) 14 by decide), show (pzO3 (some 13)).toNatClampNeg = 13 from rfl, hlen, Option.bind_some, h23]
      rw [if_pos (show (2 : Int32) ≤ pzO3 (some 13) by decide)]
      rw [if_neg (show ¬ jrem (pzO3 (some 13) - 2) 3 ≤ 0 by decide)]
      unfold fX9_readBody_287
      rw [e1]
      simp only [Option.bind_some]
      rw [if_neg (show ¬ (pzO3 (some 13) - 2) / 3 ≤ 0 by decide), e2]
      simp only [Option.bind_some]
      unfold fX9_readBody_303
      rw [if_neg (show ¬ (pzO3 (some 13) - 2) / 3 ≤ 1 by decide), e3]
      simp only [Option.bind_some]
      unfold fX9_readBody_317
      rw [if_neg (show ¬ (pzO3 (some 13) - 2) / 3 ≤ 2 by decide), e4]
      rfl
/-! notes -/
set_option maxRecDepth 10000 in
theorem pz_wo4 : pzWo (pzStr 4) 0 0 0 = [(0, 0, 2), (1, 3, 4), (2, 5, 5), (3, 6, 7), (4, 8, 10)] ∧ pzWd 4 0 2 = [98, 98] ∧ pzWd 4 3 4 = [98] ∧ pzWd 4 6 7 = [35] ∧ pzWd 4 8 10 = [35, 35] := by decide +kernel
/-- how many SIGNS stand: the number of the word, and its size -/
def pzSi (b : Nat → Nat) (n p : Nat) : Option Nat × Nat := if pzSt b n p [98, 98] then (some 0, 2) else if pzSt b n p [98] then (some 1, 1) else if pzSt b n p [35, 35] then (some 4, 2) else if pzSt b n p [35] then (some 3, 1) else (none, 0)
set_option maxRecDepth 10000 in
theorem pz_st1 {b : Nat → Nat} {n p c : Nat} : pzSt b n p [c] = true ↔ p < n ∧ b p = c := by
  rw [pzSt_iff]
  constructor
  · rintro ⟨h1, h2⟩
    have := h2 0 (by simp)
    exact ⟨by simp at h1; omega, by simpa using this⟩
  · rintro ⟨h1, h2⟩
    refine ⟨by simp; omega, fun k hk => ?_⟩
    have : k = 0 := by simp at hk; omega
    subst this
    simpa using h2
set_option maxRecDepth 10000 in
theorem pz_st2 {b : Nat → Nat} {n p c d : Nat} : pzSt b n p [c, d] = true ↔ p + 1 < n ∧ b p = c ∧ b (p + 1) = d := by
  rw [pzSt_iff]
  constructor
  · rintro ⟨h1, h2⟩
    have g0 := h2 0 (by simp)
    have g1 := h2 1 (by simp)
    simp at h1 g0 g1
    exact ⟨by omega, g0, g1⟩
  · rintro ⟨h1, h2, h3⟩
    refine ⟨by simp; omega, fun k hk => ?_⟩
    simp at hk
    have : k = 0 ∨ k = 1 := by omega
    rcases this with rfl | rfl
    · simpa using h2
    · simpa using h3
set_option maxRecDepth 10000 in
theorem pz_cSigns {I : Nat → Int32} {A : Nat → Nat → Int32} {b : Nat → Nat} {n p : Nat} (h : pzTc I A b n p) : fX5_readLongest I A 4 = some (pzO1 (pzSi b n p).1, upd I 2 (pzN (p + (pzSi b n p).2)), A) := by
  obtain ⟨w1, w2, w3, w4, w5⟩ := pz_wo4
  have e := pz_rl h (i := 4) (by omega) (jN 4) 0 FU none 0 0 0 (by omega) (by unfold FU; have : jN 4 < 100 := (pz_chr 4 (by omega)).2.1; omega) (by omega) (by omega) (by omega)
  rw [List.drop_zero, w1] at e
  have key : ([(0, 0, 2), (1, 3, 4), (2, 5, 5), (3, 6, 7), (4, 8, 10)] : List (Nat × Nat × Nat)).foldl (pzRu (fun s e => pzSt b n p (pzWd 4 s e))) (none, 0) = pzSi b n p := by
    have st : ∀ a w s e, pzRu (fun s e => pzSt b n p (pzWd 4 s e)) a (w, s, e) = if e - s ≤ a.2 then a else if pzSt b n p (pzWd 4 s e) = true then (some w, e - s) else a := fun _ _ _ _ => rfl
    simp only [List.foldl_cons, List.foldl_nil, st, w2, w3, w4, w5]
    unfold pzSi
    by_cases h1 : pzSt b n p [98, 98] = true
    · have hb := (pz_st2.mp h1).2.1
      have n4 : ¬ pzSt b n p [35, 35] = true := fun q => by have := (pz_st2.mp q).2.1; omega
      have n3 : ¬ pzSt b n p [35] = true := fun q => by have := (pz_st1.mp q).2; omega
      simp [h1, n4, n3]
    · by_cases h2 : pzSt b n p [98] = true
      · have hb := (pz_st1.mp h2).2
        have n4 : ¬ pzSt b n p [35, 35] = true := fun q => by have := (pz_st2.mp q).2.1; omega
        have n3 : ¬ pzSt b n p [35] = true := fun q => by have := (pz_st1.mp q).2; omega
        simp [h1, h2, n4, n3]
      · by_cases h4 : pzSt b n p [35, 35] = true
        · have h3 : pzSt b n p [35] = true := pz_st1.mpr ⟨by have := (pz_st2.mp h4).1; omega, (pz_st2.mp h4).2.1⟩
          simp [h1, h2, h3, h4]
        · by_cases h3 : pzSt b n p [35] = true
          · simp [h1, h2, h3, h4]
          · simp [h1, h2, h3, h4]
  rw [key] at e
  exact e
/-- the note's number from its letter and the word of SIGNS -/
def pzTn (v : Nat) (o : Option Nat) : Nat := 5 * ((v - 60) % 7) + (match o with | none => 2 | some j => j)
set_option maxRecDepth 10000 in
theorem pz_letter : ∀ v, v < 72 → 65 ≤ v → jrem ((pzN v - 65) + 5) 7 = pzN ((v - 60) % 7) ∧ jrem ((pzN v - 67) + 7) 7 = pzN ((v - 60) % 7) ∧ fX9_isIn (pzN v) 65 71 = 1 := by decide +kernel
set_option maxRecDepth 10000 in
theorem pz_noteC : ∀ l, l < 7 → ∀ j, j < 5 → fX3_note (pzN l) (pzN j - 2) = pzN (5 * l + j) ∧ fX3_note (pzN l) 0 = pzN (5 * l + 2) := by decide +kernel
set_option maxRecDepth 10000 in
theorem pz_cNote {I : Nat → Int32} {A : Nat → Nat → Int32} {b : Nat → Nat} {n p : Nat} (h : pzTc I A b n p) :
    fX5_readNote I A = (if p < n ∧ 65 ≤ b p ∧ b p ≤ 71 then some (pzN (pzTn (b p) (pzSi b n (p + 1)).1), upd (upd I 2 (pzN (p + 1))) 2 (pzN (p + 1 + (pzSi b n (p + 1)).2)), A) else some (-1, I, A)) := by
  obtain ⟨h40, hpn, h1, h2, h3⟩ := id h
  unfold fX5_readNote
  rw [h2, pz_byteAt h (by omega), Option.bind_some]
  by_cases hp : p < n
  · have hb := (h3 p hp).2
    have e1 : (pzN (b p) < 65) ↔ b p < 65 := pzN_lt (b := 65) (by omega) (by omega)
    have e2 : (pzN (b p) ≤ 71) ↔ b p ≤ 71 := pzN_le (b := 71) (by omega) (by omega)
    rw [if_pos hp]
    by_cases c1 : b p < 65
    · rw [if_pos (e1.mpr c1), if_neg (by omega)]
    · rw [if_neg (fun q => c1 (e1.mp q))]
      by_cases c2 : b p ≤ 71
      · have hT : pzTc (upd I 2 (pzN (p + 1))) A b n (p + 1) := ⟨h40, by omega, by rw [pz_upd_ne _ _ (by decide)]; exact h1, pz_upd_eq _ _ _, h3⟩
        obtain ⟨l1, l2, l3⟩ := pz_letter (b p) (by omega) (by omega)
        rw [if_pos (e2.mpr c2), pzN_suc, pz_cSigns hT, if_pos ⟨hp, by omega, c2⟩]
        simp only [Option.bind_some]
        rw [l1]
        have hl : (b p - 60) % 7 < 7 := Nat.mod_lt _ (by omega)
        have so : (pzSi b n (p + 1)).1 = none ∨ ∃ j, j < 5 ∧ (pzSi b n (p + 1)).1 = some j := by
          unfold pzSi
          split
          · exact Or.inr ⟨0, by omega, rfl⟩
          · split
            · exact Or.inr ⟨1, by omega, rfl⟩
            · split
              · exact Or.inr ⟨4, by omega, rfl⟩
              · split
                · exact Or.inr ⟨3, by omega, rfl⟩
                · exact Or.inl rfl
        unfold pzTn
        rcases so with so | ⟨j, hj, so⟩
        · rw [so, if_pos (show pzO1 none = -1 from rfl), (pz_noteC _ hl 0 (by omega)).2]
        · rw [so, if_neg (show ¬ pzO1 (some j) = -1 from pzN_ne1 (by omega)), show pzO1 (some j) = pzN j from rfl, (pz_noteC _ hl j hj).1]
      · rw [if_neg (fun q => c2 (e2.mp q)), if_neg (by omega)]
  · rw [if_neg hp, if_pos (by decide), if_neg (by omega)]
/-! the reference's -/
set_option maxRecDepth 10000 in
theorem pz_mNote {I : Nat → Int32} {A : Nat → Nat → Int32} {b : Nat → Nat} {n p : Nat} (h : pzTr I A b n p) :
    if p < n ∧ 65 ≤ b p ∧ b p ≤ 71 then ∃ I', fX9_note BM I A = some (1, I', A) ∧ I' 27 = pzN (pzTn (b p) (pzSi b n (p + 1)).1 / 5) ∧ I' 28 = pzSg (pzTn (b p) (pzSi b n (p + 1)).1) ∧ I' 23 = pzN (p + 1 + (pzSi b n (p + 1)).2) ∧ ∀ j, j ≠ 27 → j ≠ 28 → j ≠ 23 → I' j = I j else fX9_note BM I A = some (0, I, A) := by
  obtain ⟨h40, hpn, h1, h2, h3⟩ := id h
  have n24 : ∀ x : Int32, fX9_isIn x 65 71 = 0 → fX9_note_24 BM I A x = some (0, I, A) := by
    intro x hx
    unfold fX9_note_24
    rw [hx, if_pos rfl]
  unfold fX9_note
  rw [h1, h2]
  by_cases hp : p < n
  · obtain ⟨g1, g2⟩ := h3 p hp
    rw [if_neg (show ¬ pzN n ≤ pzN p by rw [pzN_le (by omega) (by omega)]; omega), pz_gd2 (by omega) (by omega), pzN_clamp (by omega), g1]
    by_cases hc : 65 ≤ b p ∧ b p ≤ 71
    · rw [if_pos ⟨hp, hc.1, hc.2⟩, pz_s8a _ (by omega)]
      obtain ⟨l1, l2, l3⟩ := pz_letter (b p) (by omega) (by omega)
      unfold fX9_note_24
      rw [l3, if_neg (show ¬ (1 : Int32) = 0 by decide), h1, h2, l2, pzN_suc]
      have hl : (b p - 60) % 7 < 7 := Nat.mod_lt _ (by omega)
      generalize hL : (b p - 60) % 7 = L at *
      -- the loop at a state
      have sg : ∀ s, s < 5 → (5 * L + s) / 5 = L ∧ pzSg (5 * L + s) = pzN s - 2 := by
        intro s hs
        refine ⟨by omega, ?_⟩
        unfold pzSg
        rw [show (5 * L + s) % 5 = s by omega]
      -- one pass of the loop: what stands at q is the sign
      have stop : ∀ f (I1 : Nat → Int32) (v2 : Int32), (I1 28 ≤ -2 ∨ 2 ≤ I1 28 ∨ I1 22 ≤ I1 23 ∨ (¬ v2 = 35 ∧ ¬ v2 = 98)) → fX9_note_92 BM (f + 1) I1 A v2 = some (1, I1, A) := by
        intro f I1 v2 hq
        show fX9_note_92B BM (fX9_note_92 BM f) I1 A v2 = _
        unfold fX9_note_92B
        by_cases q1 : I1 28 ≤ -2
        · rw [if_pos q1]
        · rw [if_neg q1]
          by_cases q2 : 2 ≤ I1 28
          · rw [if_pos q2]
          · rw [if_neg q2]
            by_cases q3 : I1 22 ≤ I1 23
            · rw [if_pos q3]
            · rw [if_neg q3]
              rcases hq with hq | hq | hq | hq
              · exact absurd hq q1
              · exact absurd hq q2
              · exact absurd hq q3
              · rw [if_neg hq.1, if_neg hq.2]
      have pass : ∀ f (I1 : Nat → Int32) (q c : Nat), I1 22 = pzN n → I1 23 = pzN q → q < n → ¬ I1 28 ≤ -2 → ¬ 2 ≤ I1 28 → (c = 35 ∨ c = 98) → fX9_note_92 BM (f + 1) I1 A (pzN c) = if b q = c then fX9_note_92 BM f (upd (upd I1 28 (I1 28 + (if c = 35 then 1 else -1))) 23 (pzN (q + 1))) A (pzN c) else some (1, I1, A) := by
        intro f I1 q c i22 i23 hq q1 q2 hcc
        obtain ⟨w1, w2⟩ := h3 q hq
        show fX9_note_92B BM (fX9_note_92 BM f) I1 A (pzN c) = _
        unfold fX9_note_92B
        have e132 : fX9_note_132 BM (fX9_note_92 BM f) I1 A (pzN c) = if b q = c then fX9_note_92 BM f (upd (upd I1 28 (I1 28 + (if c = 35 then 1 else -1))) 23 (pzN (q + 1))) A (pzN c) else some (1, I1, A) := by
          unfold fX9_note_132 fX9_note_161
          rw [i23, pz_gd2 (by omega) (by omega), pzN_clamp (by omega), w1]
          by_cases hb : b q = c
          · rw [if_pos ((pz_s8 w2 (by omega)).mpr hb), if_pos hb, pzN_suc]
            rcases hcc with rfl | rfl
            · rw [if_pos (by rfl), if_pos rfl]
            · rw [if_neg (by decide), if_neg (by decide)]
          · rw [if_neg (fun x => hb ((pz_s8 w2 (by omega)).mp x)), if_neg hb]
        rw [if_neg q1, if_neg q2, i22, i23, if_neg (by rw [pzN_le (by omega) (by omega)]; omega), e132]
        rcases hcc with rfl | rfl
        · rw [if_pos (show pzN 35 = 35 from rfl)]
        · rw [if_neg (show ¬ pzN 98 = 35 by decide), if_pos (show pzN 98 = 98 from rfl)]
      generalize hI0 : upd (upd (upd I 27 (pzN L)) 23 (pzN (p + 1))) 28 0 = I0
      have z22 : I0 22 = pzN n := by rw [← hI0, pz_upd_ne _ _ (by decide), pz_upd_ne _ _ (by decide), pz_upd_ne _ _ (by decide)]; exact h1
      have z23 : I0 23 = pzN (p + 1) := by rw [← hI0, pz_upd_ne _ _ (by decide), pz_upd_eq]
      have z27 : I0 27 = pzN L := by rw [← hI0, pz_upd_ne _ _ (by decide), pz_upd_ne _ _ (by decide), pz_upd_eq]
      have z28 : I0 28 = 0 := by rw [← hI0, pz_upd_eq]
      have zo : ∀ j, j ≠ 27 → j ≠ 28 → j ≠ 23 → I0 j = I j := fun j a1 a2 a3 => by rw [← hI0, pz_upd_ne _ _ a2, pz_upd_ne _ _ a3, pz_upd_ne _ _ a1]
      -- the end at a state with so many signs
      have fin : ∀ (o : Option Nat) (sz s : Nat) (I1 : Nat → Int32), pzSi b n (p + 1) = (o, sz) → pzTn (b p) o = 5 * L + s → s < 5 → I1 27 = pzN L → I1 28 = pzN s - 2 → I1 23 = pzN (p + 1 + sz) → (∀ j, j ≠ 27 → j ≠ 28 → j ≠ 23 → I1 j = I j) → I1 27 = pzN (pzTn (b p) (pzSi b n (p + 1)).1 / 5) ∧ I1 28 = pzSg (pzTn (b p) (pzSi b n (p + 1)).1) ∧ I1 23 = pzN (p + 1 + (pzSi b n (p + 1)).2) ∧ ∀ j, j ≠ 27 → j ≠ 28 → j ≠ 23 → I1 j = I j := by
        intro o sz s I1 hsi htn hs a1 a2 a3 a4
        rw [hsi]
        dsimp only
        rw [htn, (sg s hs).1, (sg s hs).2]
        exact ⟨a1, a2, a3, a4⟩
      have tn : ∀ o, pzTn (b p) o = 5 * L + (match o with | none => 2 | some j => j) := by intro o; unfold pzTn; rw [hL]; 
      by_cases hp1 : p + 1 < n
      · obtain ⟨w1, w2⟩ := h3 (p + 1) hp1
        rw [if_neg (by rw [pzN_le (by omega) (by omega)]; omega), pz_gd2 (by omega) (by omega), pzN_clamp (by omega), w1]
        -- a sign c at p+1
        have sign : ∀ c, (c = 35 ∨ c = 98) → b (p + 1) = c → ∃ I', fX9_note_92 BM FU I0 A (pzN c) = some (1, I', A) ∧ I' 27 = pzN L ∧ (∀ j, j ≠ 27 → j ≠ 28 → j ≠ 23 → I' j = I j) ∧ ((p + 2 < n ∧ b (p + 2) = c ∧ I' 28 = (if c = 35 then 2 else -2) ∧ I' 23 = pzN (p + 3)) ∨ (¬ (p + 2 < n ∧ b (p + 2) = c) ∧ I' 28 = (if c = 35 then 1 else -1) ∧ I' 23 = pzN (p + 2))) := by
          intro c hcc hb
          have s1 := pass 3999 I0 (p + 1) c z22 z23 hp1 (by rw [z28]; decide) (by rw [z28]; decide) hcc
          rw [if_pos hb, z28] at s1
          generalize hI1 : upd (upd I0 28 (0 + (if c = 35 then 1 else -1))) 23 (pzN (p + 1 + 1)) = I1 at s1
          have y22 : I1 22 = pzN n := by rw [← hI1, pz_upd_ne _ _ (by decide), pz_upd_ne _ _ (by decide)]; exact z22
          have y23 : I1 23 = pzN (p + 2) := by rw [← hI1, pz_upd_eq]
          have y28 : I1 28 = (if c = 35 then 1 else -1) := by
            rw [← hI1, pz_upd_ne _ _ (by decide), pz_upd_eq]
            rcases hcc with rfl | rfl <;> decide
          have y27 : I1 27 = pzN L := by rw [← hI1, pz_upd_ne _ _ (by decide), pz_upd_ne _ _ (by decide)]; exact z27
          have yo : ∀ j, j ≠ 27 → j ≠ 28 → j ≠ 23 → I1 j = I j := fun j a1 a2 a3 => by rw [← hI1, pz_upd_ne _ _ a3, pz_upd_ne _ _ a2]; exact zo j a1 a2 a3
          have r1 : ¬ I1 28 ≤ -2 := by rw [y28]; rcases hcc with rfl | rfl <;> decide
          have r2 : ¬ 2 ≤ I1 28 := by rw [y28]; rcases hcc with rfl | rfl <;> decide
          by_cases hp2 : p + 2 < n
          · have s2 := pass 3998 I1 (p + 2) c y22 y23 hp2 r1 r2 hcc
            by_cases hb2 : b (p + 2) = c
            · rw [if_pos hb2, y28] at s2
              generalize hI2 : upd (upd I1 28 ((if c = 35 then 1 else -1) + (if c = 35 then 1 else -1))) 23 (pzN (p + 2 + 1)) = I2 at s2
              have x28 : I2 28 = (if c = 35 then 2 else -2) := by
                rw [← hI2, pz_upd_ne _ _ (by decide), pz_upd_eq]
                rcases hcc with rfl | rfl <;> decide
              have s3 := stop 3997 I2 (pzN c) (by
                rw [x28]
                rcases hcc with rfl | rfl
                · exact Or.inr (Or.inl (by decide))
                · exact Or.inl (by decide))
              refine ⟨I2, s1.trans (s2.trans s3), ?_, fun j a1 a2 a3 => ?_, Or.inl ⟨hp2, hb2, x28, ?_⟩⟩
              · rw [← hI2, pz_upd_ne _ _ (by decide), pz_upd_ne _ _ (by decide)]; exact y27
              · rw [← hI2, pz_upd_ne _ _ a3, pz_upd_ne _ _ a2]; exact yo j a1 a2 a3
              · rw [← hI2, pz_upd_eq]
            · rw [if_neg hb2] at s2
              exact ⟨I1, s1.trans s2, y27, yo, Or.inr ⟨fun q => hb2 q.2, y28, y23⟩⟩
          · have s2 := stop 3998 I1 (pzN c) (Or.inr (Or.inr (Or.inl (by rw [y22, y23, pzN_le (by omega) (by omega)]; omega))))
            exact ⟨I1, s1.trans s2, y27, yo, Or.inr ⟨fun q => hp2 q.1, y28, y23⟩⟩
        by_cases c98 : b (p + 1) = 98
        · obtain ⟨I', e, a1, a2, a3⟩ := sign 98 (Or.inr rfl) c98
          rw [pz_s8a _ (by omega), c98]
          refine ⟨I', e, ?_⟩
          rcases a3 with ⟨d1, d2, d3, d4⟩ | ⟨d1, d3, d4⟩
          · have : pzSi b n (p + 1) = (some 0, 2) := by unfold pzSi; rw [if_pos (pz_st2.mpr ⟨by omega, c98, d2⟩)]
            exact fin (some 0) 2 0 I' this (by rw [tn]) (by omega) a1 (by rw [d3]; decide) d4 a2
          · have : pzSi b n (p + 1) = (some 1, 1) := by
              unfold pzSi
              rw [if_neg (fun q => d1 ⟨by have := (pz_st2.mp q).1; omega, (pz_st2.mp q).2.2⟩), if_pos (pz_st1.mpr ⟨hp1, c98⟩)]
            exact fin (some 1) 1 1 I' this (by rw [tn]) (by omega) a1 (by rw [d3]; decide) d4 a2
        · by_cases c35 : b (p + 1) = 35
          · obtain ⟨I', e, a1, a2, a3⟩ := sign 35 (Or.inl rfl) c35
            rw [pz_s8a _ (by omega), c35]
            refine ⟨I', e, ?_⟩
            have nb2 : ¬ pzSt b n (p + 1) [98, 98] = true := fun q => c98 (pz_st2.mp q).2.1
            have nb1 : ¬ pzSt b n (p + 1) [98] = true := fun q => c98 (pz_st1.mp q).2
            rcases a3 with ⟨d1, d2, d3, d4⟩ | ⟨d1, d3, d4⟩
            · have : pzSi b n (p + 1) = (some 4, 2) := by unfold pzSi; rw [if_neg nb2, if_neg nb1, if_pos (pz_st2.mpr ⟨by omega, c35, d2⟩)]
              exact fin (some 4) 2 4 I' this (by rw [tn]) (by omega) a1 (by rw [d3]; decide) d4 a2
            · have : pzSi b n (p + 1) = (some 3, 1) := by
                unfold pzSi
                rw [if_neg nb2, if_neg nb1, if_neg (fun q => d1 ⟨by have := (pz_st2.mp q).1; omega, (pz_st2.mp q).2.2⟩), if_pos (pz_st1.mpr ⟨hp1, c35⟩)]
              exact fin (some 3) 1 3 I' this (by rw [tn]) (by omega) a1 (by rw [d3]; decide) d4 a2
          · have : pzSi b n (p + 1) = (none, 0) := by
              unfold pzSi
              rw [if_neg (fun q => c98 (pz_st2.mp q).2.1), if_neg (fun q => c98 (pz_st1.mp q).2), if_neg (fun q => c35 (pz_st2.mp q).2.1), if_neg (fun q => c35 (pz_st1.mp q).2)]
            refine ⟨I0, stop 3999 I0 _ (Or.inr (Or.inr (Or.inr ⟨?_, ?_⟩))), fin none 0 2 I0 this (by rw [tn]) (by omega) z27 (by rw [z28]; decide) z23 zo⟩
            · exact fun q => c35 ((pz_s8 (c := 35) w2 (by omega)).mp q)
            · exact fun q => c98 ((pz_s8 (c := 98) w2 (by omega)).mp q)
      · rw [if_pos (by rw [pzN_le (by omega) (by omega)]; omega)]
        have : pzSi b n (p + 1) = (none, 0) := by
          unfold pzSi
          rw [if_neg (fun q => by have := (pz_st2.mp q).1; omega), if_neg (fun q => by have := (pz_st1.mp q).1; omega), if_neg (fun q => by have := (pz_st2.mp q).1; omega), if_neg (fun q => by have := (pz_st1.mp q).1; omega)]
        exact ⟨I0, stop 3999 I0 0 (Or.inr (Or.inr (Or.inr ⟨by decide, by decide⟩))), fin none 0 2 I0 this (by rw [tn]) (by omega) z27 (by rw [z28]; decide) z23 zo⟩
    · rw [if_neg (fun q => hc ⟨q.2.1, q.2.2⟩)]
      apply n24
      unfold fX9_isIn
      by_cases h128 : b p < 128
      · rw [pz_s8a _ h128]
        have e1 : (pzN (b p) < 65) ↔ b p < 65 := pzN_lt (b := 65) (by omega) (by omega)
        have e2 : (71 < pzN (b p)) ↔ 71 < b p := pzN_lt (a := 71) (by omega) (by omega)
        by_cases c1 : b p < 65
        · rw [if_pos (e1.mpr c1)]
        · rw [if_neg (fun q => c1 (e1.mp q)), if_pos (e2.mpr (by omega))]
      · have := pz_s8b (b p) g2 (by omega)
        rw [if_pos]
        rw [Int32.lt_iff_toInt_lt] at *
        have m0 : (0 : Int32).toInt = 0 := rfl
        have m65 : (65 : Int32).toInt = 65 := rfl
        omega
  · rw [if_neg (by omega), if_pos (by rw [pzN_le (by omega) (by omega)]; omega)]
    exact n24 0 (by decide)
/-! sorting -/
def pzGa (A : Nat → Nat → Int32) (n : Nat) (g : Nat → Nat) : Prop := ∀ k, k < n → A 24 k = pzN (pzH (g k)) ∧ A 25 k = pzN (pzD (g k))
def pzPe (i m j : Nat) : Nat := if j < m then j else if j = m then i else if j ≤ i then j - 1 else j
set_option maxRecDepth 10000 in
theorem pz_ord : ∀ i, i < 19 → ∀ j, j < 19 → (pzH i < pzH j ↔ i < j ∧ pzH i ≠ pzH j) ∧ (pzH i = pzH j → (pzD i < pzD j ↔ i < j)) ∧ (i < j → pzH i ≤ pzH j) := by decide +kernel
set_option maxRecDepth 10000 in
theorem pz_insIn {I : Nat → Int32} {n i : Nat} {g : Nat → Nat} (hn : n ≤ 16) (hi : i < n) (h19 : ∀ j, j < n → g j < 19) (hinj : ∀ a b, a < n → b < n → g a = g b → a = b) (hso : ∀ a b, a < b → b < i → g a < g b) (k2 : (Nat → Int32) → (Nat → Nat → Int32) → Int32 → Option ((Nat → Int32) × (Nat → Nat → Int32))) :
    ∀ k f (A : Nat → Nat → Int32), k ≤ i → k < f → (∀ j, j < n → j ≠ k → A 24 j = pzN (pzH (g (if j < k then j else if j ≤ i then j - 1 else j))) ∧ A 25 j = pzN (pzD (g (if j < k then j else if j ≤ i then j - 1 else j)))) → (∀ j, k ≤ j → j < i → g i < g j) →
    ∃ A' m, m ≤ i ∧ fX9_sort_27 BM k2 f I A (pzN i) (pzN (pzH (g i))) (pzN (pzD (g i))) (pzN k) = k2 I A' (pzN (i + 1)) ∧ pzGa A' n (fun j => g (pzPe i m j)) ∧ (∀ j, j < m → g j < g i) ∧ (∀ j, m ≤ j → j < i → g i < g j) ∧ ∀ j, j ≠ 24 → j ≠ 25 → A' j = A j
  | k, 0, A, _, hf, _, _ => by omega
  | k, f + 1, A, hk, hf, hA, hgt => by
    have xi := h19 i hi
    obtain ⟨_, _, xH, xD, _⟩ := pz_HD _ xi
    -- put down
    have put : (∀ j, j < k → g j < g i) → ∃ A' m, m ≤ i ∧ fX9_sort_109 BM k2 I A (pzN i) (pzN (pzH (g i))) (pzN (pzD (g i))) (pzN k) = k2 I A' (pzN (i + 1)) ∧ pzGa A' n (fun j => g (pzPe i m j)) ∧ (∀ j, j < m → g j < g i) ∧ (∀ j, m ≤ j → j < i → g i < g j) ∧ ∀ j, j ≠ 24 → j ≠ 25 → A' j = A j := by
      intro hlt
      refine ⟨va_up (va_up A 24 (upd (A 24) k (pzN (pzH (g i))))) 25 (upd (A 25) k (pzN (pzD (g i)))), k, hk, ?_, fun j hj => ?_, hlt, hgt, fun j a b => ?_⟩
      · unfold fX9_sort_109
        rw [pz_gd2 (by omega) (by omega), pz_gd2 (by omega) (by omega), pzN_clamp (by omega), pzN_suc]
      · rw [pz_va_eq, pz_va_ne _ _ (by decide), pz_va_eq]
        by_cases e : j = k
        · subst e
          rw [pz_upd_eq, pz_upd_eq]
          have : pzPe i j j = i := by unfold pzPe; rw [if_neg (by omega), if_pos rfl]
          dsimp only
          rw [this]
          exact ⟨rfl, rfl⟩
        · rw [pz_upd_ne _ _ e, pz_upd_ne _ _ e]
          have : pzPe i k j = (if j < k then j else if j ≤ i then j - 1 else j) := by
            unfold pzPe
            by_cases a : j < k
            · rw [if_pos a, if_pos a]
            · rw [if_neg a, if_neg a, if_neg e]
          dsimp only
          rw [this]
          exact hA j hj e
      · rw [pz_va_ne _ _ b, pz_va_ne _ _ a]
    show ∃ A' m, m ≤ i ∧ fX9_sort_27B BM k2 (fX9_sort_27 BM k2 f) I A (pzN i) (pzN (pzH (g i))) (pzN (pzD (g i))) (pzN k) = _ ∧ _
    unfold fX9_sort_27B
    by_cases k0 : k = 0
    · rw [if_pos (by rw [k0]; decide)]
      exact put (fun j hj => by omega)
    · have hkl : k - 1 < n := by omega
      obtain ⟨v1, v2⟩ := hA (k - 1) hkl (by omega)
      rw [if_pos (show k - 1 < k by omega)] at v1 v2
      have yi := h19 (k - 1) hkl
      obtain ⟨_, _, yH, yD, _⟩ := pz_HD _ yi
      have hne : g (k - 1) ≠ g i := fun e => by have := hinj _ _ hkl hi e; omega
      obtain ⟨o1, o2, o3⟩ := pz_ord _ xi _ yi
      have q1 : k - 1 ≤ i := by omega
      have q2 : k - 1 < f := by omega
      -- shift
      have shift : ∀ (_ : Unit), g i < g (k - 1) → ∃ A' m, m ≤ i ∧ fX9_sort_71 BM k2 (fX9_sort_27 BM k2 f) I A (pzN i) (pzN (pzH (g i))) (pzN (pzD (g i))) (pzN k) = k2 I A' (pzN (i + 1)) ∧ pzGa A' n (fun j => g (pzPe i m j)) ∧ (∀ j, j < m → g j < g i) ∧ (∀ j, m ≤ j → j < i → g i < g j) ∧ ∀ j, j ≠ 24 → j ≠ 25 → A' j = A j := by
        intro _ hlt
        unfold fX9_sort_71
        have e2 : pzN k + (-1) = pzN (k - 1) := by
          rw [← pzN_sub (a := k) (b := 1) (by omega), Int32.sub_eq_add_neg]; rfl
        rw [show (1 : Int32) = pzN 1 from rfl, pzN_sub (by omega), show (-(pzN 1) : Int32) = -1 from rfl, e2, pz_gd2 (by omega) (by omega), pz_gd2 (by omega) (by omega), pz_gd2 (by omega) (by omega), pz_gd2 (by omega) (by omega), pzN_clamp (n := k) (by omega), pzN_clamp (n := k - 1) (by omega), v1, v2]
        obtain ⟨A', m, m1, m2, m3, m4, m5, m6⟩ := pz_insIn (I := I) hn hi h19 hinj hso k2 (k - 1) f (va_up (va_up A 24 (upd (A 24) k (pzN (pzH (g (k - 1)))))) 25 (upd (A 25) k (pzN (pzD (g (k - 1)))))) q1 q2 (by
          intro j hj hjk
          rw [pz_va_eq, pz_va_ne _ _ (by decide), pz_va_eq]
          by_cases e : j = k
          · subst e
            rw [pz_upd_eq, pz_upd_eq, if_neg (by omega), if_pos (by omega)]
            exact ⟨rfl, rfl⟩
          · rw [pz_upd_ne _ _ e, pz_upd_ne _ _ e]
            have := hA j hj e
            by_cases a : j < k - 1
            · rw [if_pos (by omega)] at this
              rw [if_pos a]; exact this
            · rw [if_neg (by omega)] at this
              rw [if_neg a]; exact this) (by
          intro j h1 h2
          by_cases e : j = k - 1
          · rw [e]; exact hlt
          · exact hgt j (by omega) h2)
        exact ⟨A', m, m1, m2, m3, m4, m5, fun j a b => (m6 j a b).trans (by rw [pz_va_ne _ _ b, pz_va_ne _ _ a])⟩
      have low : g (k - 1) < g i → ∀ j, j < k → g j < g i := by
        intro hlt j hj
        by_cases e : j = k - 1
        · rw [e]; exact hlt
        · exact Nat.lt_trans (hso j (k - 1) (by omega) (by omega)) hlt
      rw [if_neg (by rw [show (0 : Int32) = pzN 0 from rfl, pzN_le (by omega) (by omega)]; omega), show (1 : Int32) = pzN 1 from rfl, pzN_sub (by omega), pz_gd2 (by omega) (by omega), pz_gd2 (by omega) (by omega), pz_gd2 (by omega) (by omega), pzN_clamp (n := k - 1) (by omega), v1, v2]
      by_cases c1 : pzH (g i) < pzH (g (k - 1))
      · rw [if_pos (by rw [pzN_lt (by omega) (by omega)]; exact c1)]
        exact shift () (o1.mp c1).1
      · rw [if_neg (by rw [pzN_lt (by omega) (by omega)]; exact c1)]
        by_cases c2 : pzH (g (k - 1)) = pzH (g i)
        · rw [if_pos (by rw [c2])]
          by_cases c3 : pzD (g (k - 1)) ≤ pzD (g i)
          · rw [if_pos (by rw [pzN_le (by omega) (by omega)]; exact c3)]
            apply put
            apply low
            have : ¬ g i < g (k - 1) := fun q => by have := (o2 c2.symm).mpr q; omega
            omega
          · rw [if_neg (by rw [pzN_le (by omega) (by omega)]; exact c3)]
            exact shift () ((o2 c2.symm).mp (by omega))
        · rw [if_neg (by rw [pzN_inj (by omega) (by omega)]; exact c2)]
          apply put
          apply low
          have : ¬ g i < g (k - 1) := fun q => by have := o3 q; omega
          omega
set_option maxRecDepth 10000 in
theorem pzPe_cases (i m j : Nat) : (j < m ∧ pzPe i m j = j) ∨ (j = m ∧ pzPe i m j = i) ∨ (m < j ∧ j ≤ i ∧ pzPe i m j = j - 1) ∨ (m < j ∧ i < j ∧ pzPe i m j = j) := by
  unfold pzPe
  by_cases h1 : j < m
  · rw [if_pos h1]; omega
  · rw [if_neg h1]
    by_cases h2 : j = m
    · rw [if_pos h2]; omega
    · rw [if_neg h2]
      by_cases h3 : j ≤ i
      · rw [if_pos h3]; omega
      · rw [if_neg h3]; omega
set_option maxRecDepth 10000 in
theorem pzPe_inj {i m a b : Nat} (hm : m ≤ i) (h : pzPe i m a = pzPe i m b) : a = b := by
  have h1 := pzPe_cases i m a
  have h2 := pzPe_cases i m b
  omega
set_option maxRecDepth 10000 in
theorem pzPe_lt {i m n j : Nat} (hm : m ≤ i) (hi : i < n) (hj : j < n) : pzPe i m j < n := by
  unfold pzPe
  split
  · omega
  · split
    · omega
    · split <;> omega
set_option maxRecDepth 10000 in
theorem pzPe_sur {i m n j : Nat} (hm : m ≤ i) (hi : i < n) (hj : j < n) : ∃ a, a < n ∧ pzPe i m a = j := by
  by_cases h1 : j < m
  · exact ⟨j, hj, by unfold pzPe; rw [if_pos h1]⟩
  · by_cases h2 : j = i
    · exact ⟨m, by omega, by unfold pzPe; rw [if_neg (by omega), if_pos rfl, h2]⟩
    · by_cases h3 : j < i
      · exact ⟨j + 1, by omega, by unfold pzPe; rw [if_neg (by omega), if_neg (by omega), if_pos (by omega)]; omega⟩
      · exact ⟨j, hj, by unfold pzPe; rw [if_neg (by omega), if_neg (by omega), if_neg (by omega)]⟩
set_option maxRecDepth 10000 in
theorem pz_sortA {I : Nat → Int32} {n : Nat} (hn : n ≤ 16) (hI : I 26 = pzN n) : ∀ d i f (A : Nat → Nat → Int32) (g : Nat → Nat), i + d = n + 1 → 1 ≤ i → d < f → pzGa A n g → (∀ j, j < n → g j < 19) → (∀ a b, a < n → b < n → g a = g b → a = b) → (∀ a b, a < b → b < i → b < n → g a < g b) →
    ∃ A' g', fX9_sort_2 BM f I A (pzN i) = some (I, A') ∧ pzGa A' n g' ∧ (∀ j, j < n → g' j < 19) ∧ (∀ a b, a < b → b < n → g' a < g' b) ∧ (∀ y, (∃ j, j < n ∧ g' j = y) ↔ ∃ j, j < n ∧ g j = y) ∧ ∀ j, j ≠ 24 → j ≠ 25 → A' j = A j
  | d, i, 0, A, g, _, _, hf, _, _, _, _ => by omega
  | d, i, f + 1, A, g, e, h1, hf, hG, h19, hinj, hso => by
    show ∃ A' g', fX9_sort_2B BM (fX9_sort_2 BM f) I A (pzN i) = _ ∧ _
    unfold fX9_sort_2B
    rw [hI]
    by_cases hin : n ≤ i
    · rw [if_pos (by rw [pzN_le (by omega) (by omega)]; exact hin)]
      exact ⟨A, g, rfl, hG, h19, fun a b hab hb => hso a b hab (by omega) hb, fun y => Iff.rfl, fun _ _ _ => rfl⟩
    · have hi : i < n := by omega
      rw [if_neg (by rw [pzN_le (by omega) (by omega)]; exact hin), pz_gd2 (by omega) (by omega), pz_gd2 (by omega) (by omega), pzN_clamp (by omega), (hG i hi).1, (hG i hi).2]
      obtain ⟨A1, m, m1, m2, m3, m4, m5, m6⟩ := pz_insIn (I := I) hn hi h19 hinj (fun a b hab hb => hso a b hab hb (by omega)) (fX9_sort_2 BM f) i FU A (Nat.le_refl _) (by unfold FU; omega) (by
        intro j hj hne
        have : (if j < i then j else if j ≤ i then j - 1 else j) = j := by
          by_cases a : j < i
          · rw [if_pos a]
          · rw [if_neg a, if_neg (by omega)]
        rw [this]
        exact hG j hj) (fun j h1 h2 => by omega)
      rw [m2]
      cases d with
      | zero => omega
      | succ d =>
        obtain ⟨A2, g2, q1, q2, q3, q4, q5, q6⟩ := pz_sortA hn hI d (i + 1) f A1 (fun j => g (pzPe i m j)) (by omega) (by omega) (by omega) m3 (fun j hj => h19 _ (pzPe_lt m1 hi hj)) (fun a b ha hb hab => pzPe_inj m1 (hinj _ _ (pzPe_lt m1 hi ha) (pzPe_lt m1 hi hb) hab)) (by
          intro a b hab hbi hbn
          show g (pzPe i m a) < g (pzPe i m b)
          unfold pzPe
          by_cases a1 : a < m
          · rw [if_pos a1]
            by_cases b1 : b < m
            · rw [if_pos b1]; exact hso a b hab (by omega) hbn
            · rw [if_neg b1]
              by_cases b2 : b = m
              · rw [if_pos b2]; exact m4 a a1
              · rw [if_neg b2, if_pos (by omega)]; exact hso a (b - 1) (by omega) (by omega) (by omega)
          · rw [if_neg a1, if_neg (show ¬ b < m by omega), if_neg (show ¬ b = m by omega), if_pos (show b ≤ i by omega)]
            by_cases a2 : a = m
            · rw [if_pos a2]; exact m5 (b - 1) (by omega) (by omega)
            · rw [if_neg a2, if_pos (by omega)]; exact hso (a - 1) (b - 1) (by omega) (by omega) (by omega))
        refine ⟨A2, g2, q1, q2, q3, q4, fun y => (q5 y).trans ⟨?_, ?_⟩, fun j a b => (q6 j a b).trans (m6 j a b)⟩
        · rintro ⟨j, hj, hy⟩
          exact ⟨_, pzPe_lt m1 hi hj, hy⟩
        · rintro ⟨j, hj, hy⟩
          obtain ⟨a, ha, hae⟩ := pzPe_sur m1 hi hj
          exact ⟨a, ha, by show g (pzPe i m a) = y; rw [hae]; exact hy⟩
set_option maxRecDepth 10000 in
theorem pz_sortedEq : ∀ (l m : List Nat), l.Pairwise (· < ·) → m.Pairwise (· < ·) → (∀ x, x ∈ l ↔ x ∈ m) → l = m
  | [], m, _, _, h => by
    cases m with
    | nil => rfl
    | cons b m => have := (h b).mpr (by simp); cases this
  | a :: l, m, hl, hm, h => by
    cases m with
    | nil => have := (h a).mp (by simp); cases this
    | cons b m =>
      rw [List.pairwise_cons] at hl hm
      have hab : a = b := by
        have h1 := (h a).mp (by simp)
        have h2 := (h b).mpr (by simp)
        rw [List.mem_cons] at h1 h2
        rcases h1 with h1 | h1
        · exact h1
        · rcases h2 with h2 | h2
          · exact h2.symm
          · have := hm.1 a h1
            have := hl.1 b h2
            omega
      subst hab
      congr 1
      apply pz_sortedEq l m hl.2 hm.2
      intro x
      have hx := h x
      rw [List.mem_cons, List.mem_cons] at hx
      constructor
      · intro q
        have := hl.1 x q
        rcases hx.mp (Or.inr q) with e | e
        · omega
        · exact e
      · intro q
        have := hm.1 x q
        rcases hx.mpr (Or.inr q) with e | e
        · omega
        · exact e
set_option maxRecDepth 10000 in
theorem pz_sort {I : Nat → Int32} {A : Nat → Nat → Int32} {l : List Nat} {s : Nat} (h : pzLi I A l) (hn : pzNd l) (hm : pzMm l s) (hs : pzOk s) :
    ∃ A', fX9_sort BM I A = some (I, A') ∧ pzLi I A' (pzP s) ∧ ∀ j, j ≠ 24 → j ≠ 25 → A' j = A j := by
  have hl := pz_lenOk hn hm hs
  unfold fX9_sort
  obtain ⟨A', g, q1, q2, q3, q4, q5, q6⟩ := pz_sortA hl h.1 l.length 1 FU A (fun j => l.getD j 0) (by omega) (by omega) (by unfold FU; omega) h.2 hn.2 hn.1 (fun a b hab hb1 _ => by omega)
  have e : pzMk l.length g = pzP s := by
    apply pz_sortedEq
    · unfold pzMk
      rw [List.pairwise_map]
      apply List.Pairwise.imp_of_mem _ (List.pairwise_lt_range (n := l.length))
      intro a b ha hb hab
      exact q4 a b hab (List.mem_range.mp hb)
    · unfold pzP
      exact List.Pairwise.filter _ List.pairwise_lt_range
    · intro x
      rw [pzP_mem, pz_mem, pzMk_len]
      constructor
      · rintro ⟨i, hi, hx⟩
        rw [pzMk_getD _ hi] at hx
        obtain ⟨j, hj, hy⟩ := (q5 x).mp ⟨i, hi, hx⟩
        have hxl : x ∈ l := pz_mem.mpr ⟨j, hj, hy⟩
        have := pz_l19 hn hxl
        exact ⟨this, (hm.2 x this).mpr hxl⟩
      · rintro ⟨h1, h2⟩
        have hxl := (hm.2 x h1).mp h2
        obtain ⟨j, hj, hy⟩ := pz_mem.mp hxl
        obtain ⟨i, hi, hx⟩ := (q5 x).mpr ⟨j, hj, hy⟩
        exact ⟨i, hi, by rw [pzMk_getD _ hi]; exact hx⟩
  refine ⟨A', q1, ?_, q6⟩
  rw [← e]
  refine ⟨by rw [pzMk_len]; exact h.1, fun k hk => ?_⟩
  rw [pzMk_len] at hk
  rw [pzMk_getD _ hk]
  exact q2 k hk
