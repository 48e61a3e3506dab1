

/-- an element's address -/
def oQ (S : oS) (r j : Nat) : Nat := (oP S r j).getD 0
theorem oQ_e {S : oS} {r j b : Nat} (h : oP S r j = some b) : oQ S r j = b := by
  unfold oQ
  rw [h]
  rfl
/-- the value of a step that isn't a sign -/
def vlO (L : Nat → Int32) (c : Int32) : Int32 := if 0 ≤ (-1 - c).toInt ∧ (-1 - c).toInt < 8 then L (-1 - c).toNatClampNeg else c
/-- a sign's work on two longs -/
def jnd (k : Int32) (x y : Int64) : Int32 := if k = 0 then hld (x + y) else if k = 1 then hld (x - y) else if k = 2 then hld (x * y) else if k = 3 then (if lg_cmp y 0 = 0 then 0 else hld (x / y)) else if k = 4 then (if 0 ≤ lg_cmp x y then 0 else 1) else if k = 5 then (if lg_cmp x y = 0 then 1 else 0) else (if lg_cmp x y ≤ 0 then 0 else 1)
def exS (L : Nat → Int32) (st : List Int32) (c : Int32) : List Int32 := if c ≤ -11 then (match st with
  | y :: x :: r => jnd (-11 - c) x.toInt64 y.toInt64 :: r
  | r => r) else vlO L c :: st
def exE (L : Nat → Int32) (E st : List Int32) : List Int32 := E.foldl (exS L) st
theorem exE_app {L : Nat → Int32} {E E' st : List Int32} : exE L (E ++ E') st = exE L E' (exE L E st) := List.foldl_append
theorem i64_le {x y : Int32} : x.toInt64 ≤ y.toInt64 ↔ x ≤ y := by
  rw [Int64.le_iff_toInt_le, Int32.le_iff_toInt_le, Int32.toInt_toInt64, Int32.toInt_toInt64]
theorem i64_eq {x y : Int32} : x.toInt64 = y.toInt64 ↔ x = y := by
  constructor
  · intro h
    apply Int32.toInt_inj.mp
    rw [← Int32.toInt_toInt64 x, ← Int32.toInt_toInt64 y, h]
  · intro h
    rw [h]
theorem jnd_mop {s x y : Int32} (h : isSg s) : jnd (-11 - scd s) x.toInt64 y.toInt64 = mop s x y := by
  rcases h with h | h | h | h | h | h | h <;> subst h
  · rw [mop_43, show (-11 - scd 43 : Int32) = 0 by decide]; unfold jnd; rw [if_pos rfl]
  · rw [mop_45, show (-11 - scd 45 : Int32) = 1 by decide]; unfold jnd; rw [if_neg (by decide +kernel), if_pos rfl]
  · rw [mop_42, show (-11 - scd 42 : Int32) = 2 by decide]; unfold jnd; rw [if_neg (by decide +kernel), if_neg (by decide +kernel), if_pos rfl]
  · rw [mop_47, show (-11 - scd 47 : Int32) = 3 by decide]; unfold jnd; rw [if_neg (by decide +kernel), if_neg (by decide +kernel), if_neg (by decide +kernel), if_pos rfl]
    by_cases q : y = 0
    · rw [if_pos q, if_pos ((lg_cmp_eq _ _).mpr (by rw [q]; decide))]
    · rw [if_neg q, if_neg (fun g => q (i64_eq.mp (((lg_cmp_eq _ _).mp g).trans (by decide +kernel))))]
  · rw [mop_60, show (-11 - scd 60 : Int32) = 4 by decide]; unfold jnd; rw [if_neg (by decide +kernel), if_neg (by decide +kernel), if_neg (by decide +kernel), if_neg (by decide +kernel), if_pos rfl]
    by_cases q : y ≤ x
    · rw [if_pos q, if_pos ((lg_cmp_ge _ _).mpr (i64_le.mpr q))]
    · rw [if_neg q, if_neg (fun g => q (i64_le.mp ((lg_cmp_ge _ _).mp g)))]
  · rw [mop_61, show (-11 - scd 61 : Int32) = 5 by decide]; unfold jnd; rw [if_neg (by decide +kernel), if_neg (by decide +kernel), if_neg (by decide +kernel), if_neg (by decide +kernel), if_neg (by decide +kernel), if_pos rfl]
    by_cases q : x = y
    · rw [if_pos q, if_pos ((lg_cmp_eq _ _).mpr (i64_eq.mpr q))]
    · rw [if_neg q, if_neg (fun g => q (i64_eq.mp ((lg_cmp_eq _ _).mp g)))]
  · rw [mop_62, show (-11 - scd 62 : Int32) = 6 by decide]; unfold jnd; rw [if_neg (by decide +kernel), if_neg (by decide +kernel), if_neg (by decide +kernel), if_neg (by decide +kernel), if_neg (by decide +kernel), if_neg (by decide +kernel)]
    by_cases q : x ≤ y
    · rw [if_pos q, if_pos ((lg_cmp_le _ _).mpr (i64_le.mpr q))]
    · rw [if_neg q, if_neg (fun g => q (i64_le.mp ((lg_cmp_le _ _).mp g)))]
theorem scd_le {s : Int32} (h : isSg s) : scd s ≤ -11 := by
  rcases h with h | h | h | h | h | h | h <;> subst h <;> decide
/-- the code of a text leaves its value on the stack -/
def exQ (L : Nat → Int32) (E : List Int32) (x : Int32) : Prop := ∀ st, exE L E st = x :: st
theorem exQ_op {L : Nat → Int32} {s : Int32} (h : isSg s) (E : List Int32) (x : Int32) (E' : List Int32) (y : Int32) (h1 : exQ L E x) (h2 : exQ L E' y) : exQ L (cop s E E') (mop s x y) := by
  intro st
  unfold cop
  rw [exE_app, exE_app, h1, h2]
  show exS L (y :: x :: st) (scd s) = _
  unfold exS
  rw [if_pos (scd_le h)]
  show jnd (-11 - scd s) x.toInt64 y.toInt64 :: st = _
  rw [jnd_mop h]
def rgB : Nat → Int → Int
  | 0, B => B
  | k + 1, B => rgB k (10 * B + 9)
theorem rgB_le : ∀ (k : Nat) (B : Int), 0 ≤ B → B ≤ rgB k B := by
  intro k
  induction k with
  | zero => intro B _; exact Int.le_refl B
  | succ k ih =>
    intro B h
    have := ih (10 * B + 9) (by omega)
    show B ≤ rgB k (10 * B + 9)
    omega
theorem pNum_rng {c : Nat → Int32} : ∀ (k p : Nat) (v : Int32) (B : Int), 0 ≤ v.toInt → v.toInt ≤ B → rgB k B ≤ 999999 → 0 ≤ (pNum c k v p).2.toInt ∧ (pNum c k v p).2.toInt < 1000000 := by
  intro k
  induction k with
  | zero =>
    intro p v B h1 h2 h3
    have h4 : B ≤ 999999 := h3
    exact ⟨h1, by show v.toInt < _; omega⟩
  | succ k ih =>
    intro p v B h1 h2 h3
    have hB : rgB k (10 * B + 9) ≤ 999999 := h3
    have hb := rgB_le k (10 * B + 9) (by omega)
    by_cases g : 48 ≤ c p ∧ c p ≤ 57
    · rw [pNum_s g.1 g.2]
      have g1 := Int32.le_iff_toInt_le.mp g.1
      have g2 := Int32.le_iff_toInt_le.mp g.2
      have e1 : (48 : Int32).toInt = 48 := by decide
      have e2 : (57 : Int32).toInt = 57 := by decide
      have m1 : (10 * v).toInt = 10 * v.toInt := mu_i (by decide +kernel) rfl (by omega) (by omega)
      have m2 : (10 * v + c p).toInt = 10 * v.toInt + (c p).toInt := ad_i m1 rfl (by omega) (by omega)
      have m3 : (10 * v + c p - 48).toInt = 10 * v.toInt + (c p).toInt - 48 := sb_i m2 e1 (by omega) (by omega)
      exact ih (p + 1) _ (10 * B + 9) (by omega) (by omega) hB
    · rw [pNum_e g]
      exact ⟨h1, by show v.toInt < _; omega⟩
theorem exQ_li {L : Nat → Int32} {z : Int32} (h : 0 ≤ z.toInt) : exQ L [z] z := by
  intro st
  show exS L st z = _
  unfold exS
  have e : (-11 : Int32).toInt = -11 := by decide
  rw [if_neg (fun q => by have := Int32.le_iff_toInt_le.mp q; omega)]
  unfold vlO
  have hz := Int32.toInt_lt z
  have m : (-1 - z).toInt = -1 - z.toInt := sb_i (by decide +kernel) rfl (by omega) (by omega)
  rw [if_neg (by omega)]
theorem exQ_le {L : Nat → Int32} {x : Int32} (st : List Int32) (h1 : ¬ x ≤ -11) (h2 : 0 ≤ (-1 - x).toInt ∧ (-1 - x).toInt < 8) : exE L [x] st = L (-1 - x).toNatClampNeg :: st := by
  show exS L st x = _
  unfold exS
  rw [if_neg h1]
  unfold vlO
  rw [if_pos h2]
theorem exQ_lt {L : Nat → Int32} {c : Int32} {lt : Int32 → Int32} (h : isLt c) (h119 : L 0 = lt 119) (h114 : L 1 = lt 114) (h97 : L 2 = lt 97) (h100 : L 3 = lt 100) (h110 : L 4 = lt 110) (h115 : L 5 = lt 115) (h108 : L 6 = lt 108) (h120 : L 7 = lt 120) : exQ L (cLt c) (lt c) := by
  intro st
  rcases h with h | h | h | h | h | h | h | h <;> subst h
  · rw [show cLt 119 = [-1] by decide, exQ_le st (by decide +kernel) (by decide +kernel), ← h119]
    exact congrArg (fun k => L k :: st) (by decide : (-1 - (-1) : Int32).toNatClampNeg = 0)
  · rw [show cLt 114 = [-2] by decide, exQ_le st (by decide +kernel) (by decide +kernel), ← h114]
    exact congrArg (fun k => L k :: st) (by decide : (-1 - (-2) : Int32).toNatClampNeg = 1)
  · rw [show cLt 97 = [-3] by decide, exQ_le st (by decide +kernel) (by decide +kernel), ← h97]
    exact congrArg (fun k => L k :: st) (by decide : (-1 - (-3) : Int32).toNatClampNeg = 2)
  · rw [show cLt 100 = [-4] by decide, exQ_le st (by decide +kernel) (by decide +kernel), ← h100]
    exact congrArg (fun k => L k :: st) (by decide : (-1 - (-4) : Int32).toNatClampNeg = 3)
  · rw [show cLt 110 = [-5] by decide, exQ_le st (by decide +kernel) (by decide +kernel), ← h110]
    exact congrArg (fun k => L k :: st) (by decide : (-1 - (-5) : Int32).toNatClampNeg = 4)
  · rw [show cLt 115 = [-6] by decide, exQ_le st (by decide +kernel) (by decide +kernel), ← h115]
    exact congrArg (fun k => L k :: st) (by decide : (-1 - (-6) : Int32).toNatClampNeg = 5)
  · rw [show cLt 108 = [-7] by decide, exQ_le st (by decide +kernel) (by decide +kernel), ← h108]
    exact congrArg (fun k => L k :: st) (by decide : (-1 - (-7) : Int32).toNatClampNeg = 6)
  · rw [show cLt 120 = [-8] by decide, exQ_le st (by decide +kernel) (by decide +kernel), ← h120]
    exact congrArg (fun k => L k :: st) (by decide : (-1 - (-8) : Int32).toNatClampNeg = 7)
/-- the code of a whole text is worth the text's value -/
theorem cm_valx {c : Nat → Int32} {L : Nat → Int32} {lt : Int32 → Int32} (h119 : L 0 = lt 119) (h114 : L 1 = lt 114) (h97 : L 2 = lt 97) (h100 : L 3 = lt 100) (h110 : L 4 = lt 110) (h115 : L 5 = lt 115) (h108 : L 6 = lt 108) (h120 : L 7 = lt 120) (hw : (cS c 5 0).2.1 = true) : exQ L (cS c 5 0).2.2 (mvS lt c 5 0).2.2 := by
  have h := pS_rel (Q := exQ L) (c := c) (op := cop) (op' := mop) (fun s hs x x' y y' h1 h2 => exQ_op hs x x' y y' h1 h2) (pU_rel (c := c) (op := cop) (op' := mop) (li := fun x => [x]) (lt := cLt) (li' := fun x => x) (lt' := lt) (dv := []) (dv' := 0) (fun s hs x x' y y' h1 h2 => exQ_op hs x x' y y' h1 h2) (fun p => exQ_li (pNum_rng 5 p 0 0 (by decide +kernel) (by decide +kernel) (by decide +kernel)).1) (fun x hx => exQ_lt hx h119 h114 h97 h100 h110 h115 h108 h120) 5) 0
  exact h.2.2 hw
