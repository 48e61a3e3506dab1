

/-- the day as of which a voyage sailed, as known on k; -1 -/
def slB (fa : Nat → Nat → Int32) (x k : Int) : Nat → Int
  | 0 => -1
  | n + 1 => if 0 ≤ slB fa x k n then slB fa x k n else if (fa 10 n).toInt = 0 ∧ (fa 11 n).toInt = x ∧ (fa 13 n).toInt ≤ k then (fa 12 n).toInt else -1
/-- the last day up to d as of which it was heard of or sailed, as known on k; -1 -/
def lhB (fa : Nat → Nat → Int32) (x d k : Int) : Nat → Int
  | 0 => -1
  | n + 1 => if ((fa 10 n).toInt = 1 ∨ (fa 10 n).toInt = 0) ∧ (fa 11 n).toInt = x ∧ (fa 13 n).toInt ≤ k ∧ (fa 12 n).toInt ≤ d ∧ lhB fa x d k n < (fa 12 n).toInt then (fa 12 n).toInt else lhB fa x d k n
/-- the LEFT or BACK that counts: its place, -1 -/
def whB (fa : Nat → Nat → Int32) (a d k : Int) : Nat → Int
  | 0 => -1
  | n + 1 => if ((fa 10 n).toInt = 3 ∨ (fa 10 n).toInt = 5) ∧ (fa 11 n).toInt = a ∧ (fa 13 n).toInt ≤ k ∧ (fa 12 n).toInt ≤ d ∧ (whB fa a d k n < 0 ∨ (fa 12 (whB fa a d k n).toNat).toInt ≤ (fa 12 n).toInt) then (n : Int) else whB fa a d k n
def ddP (fa : Nat → Nat → Int32) (a x d k : Int) (j : Nat) : Prop := (((fa 10 j).toInt = 4 ∧ (fa 11 j).toInt = a) ∨ ((fa 10 j).toInt = 2 ∧ (fa 11 j).toInt = x)) ∧ (fa 13 j).toInt ≤ k ∧ (fa 12 j).toInt ≤ d
/-- dead, or lost -/
noncomputable def ddI (v : Nat → Int32) (fa : Nat → Nat → Int32) (a x d k : Int) : Int := b01 (∃ j, j < (v 41).toNatClampNeg ∧ ddP fa a x d k j)
def slO (v : Nat → Int32) (fa : Nat → Nat → Int32) (x k : Int) : Int := slB fa x k (v 41).toNatClampNeg
def lhO (v : Nat → Int32) (fa : Nat → Nat → Int32) (x d k : Int) : Int := lhB fa x d k (v 41).toNatClampNeg
def whO (v : Nat → Int32) (fa : Nat → Nat → Int32) (a d k : Int) : Int := whB fa a d k (v 41).toNatClampNeg
def hsO (v : Nat → Int32) (fa : Nat → Nat → Int32) (x d k : Int) : Int := if 0 ≤ slO v fa x k ∧ slO v fa x k ≤ d then 1 else 0
/-- PRESUME's worth -/
def wPr (v : Nat → Int32) (fa : Nat → Nat → Int32) (d : Int) : Int := (wrt v fa 4 d (fun _ => 0)).toInt
def ukO (v : Nat → Int32) (fa : Nat → Nat → Int32) (x d k : Int) : Int := if hsO v fa x d k = 0 then 0 else if lhO v fa x d k < d - wPr v fa d then 1 else 0
/-- STATE -/
noncomputable def stF (v : Nat → Int32) (fa : Nat → Nat → Int32) (a : Nat) (d k : Int) : Int := if d < (fa 25 a).toInt then -9 else if ddI v fa a (fa 21 a).toInt d k = 1 then 4 else if 0 ≤ (fa 26 a).toInt ∧ (fa 26 a).toInt ≤ d then 5 else if 0 ≤ whO v fa a d k ∧ (fa 10 (whO v fa a d k).toNat).toInt = 3 then 3 else if hsO v fa (fa 21 a).toInt d k = 0 then 0 else if ukO v fa (fa 21 a).toInt d k = 1 then 2 else 1
/-- how many are ABOARD -/
noncomputable def abF (v : Nat → Int32) (fa : Nat → Nat → Int32) (x d k : Int) : Int := smN (fun a => if (fa 21 a).toInt = x ∧ stF v fa a d k = 1 then 1 else 0) (v 43).toNatClampNeg
section
variable {v z : Nat → Int32} {fa fz : Nat → Nat → Int32} {x d k a : Int} {i i1 y : Int32} {n m : Nat}
theorem slB_st (h : 0 ≤ slB fa x k n) : ∀ {m}, n ≤ m → slB fa x k m = slB fa x k n := by
  intro m hm
  induction m with
  | zero => rw [show n = 0 by omega]
  | succ m ih =>
    by_cases q : n ≤ m
    · have g := ih q
      exact (if_pos (by omega : 0 ≤ slB fa x k m)).trans g
    · rw [show m + 1 = n by omega]
theorem slB_no (h : ∀ j, j < n → ¬ ((fa 10 j).toInt = 0 ∧ (fa 11 j).toInt = x ∧ (fa 13 j).toInt ≤ k)) : slB fa x k n = -1 := by
  induction n with
  | zero => rfl
  | succ n ih =>
    have g := ih (fun j hj => h j (by omega))
    unfold slB
    rw [if_neg (by omega), if_neg (h n (by omega))]
theorem slB_at (h : ∀ j, j < n → ¬ ((fa 10 j).toInt = 0 ∧ (fa 11 j).toInt = x ∧ (fa 13 j).toInt ≤ k)) (hn : (fa 10 n).toInt = 0 ∧ (fa 11 n).toInt = x ∧ (fa 13 n).toInt ≤ k) (h0 : 0 ≤ (fa 12 n).toInt) (hm : n < m) : slB fa x k m = (fa 12 n).toInt := by
  have e : slB fa x k (n + 1) = (fa 12 n).toInt := by
    have g := slB_no h
    unfold slB
    rw [if_neg (by omega), if_pos hn]
  rw [slB_st (n := n + 1) (by omega) (by omega), e]
theorem lhB_t (h : y.toInt = lhB fa x d k i.toNatClampNeg) (e : i1.toInt = i.toInt + 1) (h0 : 0 ≤ i.toInt) (hc : ((fa 10 i.toNatClampNeg).toInt = 1 ∨ (fa 10 i.toNatClampNeg).toInt = 0) ∧ (fa 11 i.toNatClampNeg).toInt = x ∧ (fa 13 i.toNatClampNeg).toInt ≤ k ∧ (fa 12 i.toNatClampNeg).toInt ≤ d ∧ y.toInt < (fa 12 i.toNatClampNeg).toInt) {y1 : Int32} (ey : y1.toInt = (fa 12 i.toNatClampNeg).toInt) : y1.toInt = lhB fa x d k i1.toNatClampNeg := by
  rw [show i1.toNatClampNeg = i.toNatClampNeg + 1 from (show i1.toInt.toNat = i.toInt.toNat + 1 by omega)]
  unfold lhB
  rw [if_pos (by rw [← h]; exact hc)]
  exact ey
theorem lhB_f (h : y.toInt = lhB fa x d k i.toNatClampNeg) (e : i1.toInt = i.toInt + 1) (h0 : 0 ≤ i.toInt) (hc : ¬ (((fa 10 i.toNatClampNeg).toInt = 1 ∨ (fa 10 i.toNatClampNeg).toInt = 0) ∧ (fa 11 i.toNatClampNeg).toInt = x ∧ (fa 13 i.toNatClampNeg).toInt ≤ k ∧ (fa 12 i.toNatClampNeg).toInt ≤ d ∧ y.toInt < (fa 12 i.toNatClampNeg).toInt)) : y.toInt = lhB fa x d k i1.toNatClampNeg := by
  rw [show i1.toNatClampNeg = i.toNatClampNeg + 1 from (show i1.toInt.toNat = i.toInt.toNat + 1 by omega)]
  unfold lhB
  rw [if_neg (by rw [← h]; exact hc)]
  exact h
theorem whB_t (h : y.toInt = whB fa a d k i.toNatClampNeg) (e : i1.toInt = i.toInt + 1) (h0 : 0 ≤ i.toInt) (hc : ((fa 10 i.toNatClampNeg).toInt = 3 ∨ (fa 10 i.toNatClampNeg).toInt = 5) ∧ (fa 11 i.toNatClampNeg).toInt = a ∧ (fa 13 i.toNatClampNeg).toInt ≤ k ∧ (fa 12 i.toNatClampNeg).toInt ≤ d ∧ (y.toInt < 0 ∨ (fa 12 y.toNatClampNeg).toInt ≤ (fa 12 i.toNatClampNeg).toInt)) : i.toInt = whB fa a d k i1.toNatClampNeg := by
  rw [show i1.toNatClampNeg = i.toNatClampNeg + 1 from (show i1.toInt.toNat = i.toInt.toNat + 1 by omega)]
  unfold whB
  rw [if_pos (by rw [← h]; exact hc), tn_i h0]
theorem whB_f (h : y.toInt = whB fa a d k i.toNatClampNeg) (e : i1.toInt = i.toInt + 1) (h0 : 0 ≤ i.toInt) (hc : ¬ (((fa 10 i.toNatClampNeg).toInt = 3 ∨ (fa 10 i.toNatClampNeg).toInt = 5) ∧ (fa 11 i.toNatClampNeg).toInt = a ∧ (fa 13 i.toNatClampNeg).toInt ≤ k ∧ (fa 12 i.toNatClampNeg).toInt ≤ d ∧ (y.toInt < 0 ∨ (fa 12 y.toNatClampNeg).toInt ≤ (fa 12 i.toNatClampNeg).toInt))) : y.toInt = whB fa a d k i1.toNatClampNeg := by
  rw [show i1.toNatClampNeg = i.toNatClampNeg + 1 from (show i1.toInt.toNat = i.toInt.toNat + 1 by omega)]
  unfold whB
  rw [if_neg (by rw [← h]; exact hc)]
  exact h
theorem B_0 {f : Nat → Int} (h : i.toInt = 0) (e : f 0 = -1) : (-1 : Int32).toInt = f i.toNatClampNeg := by
  rw [show i.toNatClampNeg = 0 from (show i.toInt.toNat = 0 by omega), e]
  decide
theorem slB_c (h : ∀ k ∈ [10, 11, 12, 13], fz k = fa k) : slB fz x k n = slB fa x k n := by
  induction n with
  | zero => rfl
  | succ n ih =>
    unfold slB
    rw [ih, h 10 (by decide), h 11 (by decide), h 12 (by decide), h 13 (by decide)]
theorem lhB_c (h : ∀ k ∈ [10, 11, 12, 13], fz k = fa k) : lhB fz x d k n = lhB fa x d k n := by
  induction n with
  | zero => rfl
  | succ n ih =>
    unfold lhB
    rw [ih, h 10 (by decide), h 11 (by decide), h 12 (by decide), h 13 (by decide)]
theorem whB_c (h : ∀ k ∈ [10, 11, 12, 13], fz k = fa k) : whB fz a d k n = whB fa a d k n := by
  induction n with
  | zero => rfl
  | succ n ih =>
    unfold whB
    rw [ih, h 10 (by decide), h 11 (by decide), h 12 (by decide), h 13 (by decide)]
/-- what a state depends on -/
def rdS : List Nat := [10, 11, 12, 13, 25, 21, 26, 19, 16, 17, 18]
theorem scr_S (h : scr v fa z fz) : ∀ k ∈ rdS, fz k = fa k := fun k hk => h.2 k (by revert k; decide)
theorem slO_s (h : scr v fa z fz) : slO z fz x k = slO v fa x k := by
  unfold slO
  rw [h.1 41 rfl, slB_c (fun k hk => scr_S h k (by revert k; decide))]
theorem lhO_s (h : scr v fa z fz) : lhO z fz x d k = lhO v fa x d k := by
  unfold lhO
  rw [h.1 41 rfl, lhB_c (fun k hk => scr_S h k (by revert k; decide))]
theorem whO_s (h : scr v fa z fz) : whO z fz a d k = whO v fa a d k := by
  unfold whO
  rw [h.1 41 rfl, whB_c (fun k hk => scr_S h k (by revert k; decide))]
theorem hsO_s (h : scr v fa z fz) : hsO z fz x d k = hsO v fa x d k := by
  unfold hsO
  rw [slO_s h]
theorem ddI_s {y : Int} (h : scr v fa z fz) : ddI z fz a y d k = ddI v fa a y d k := by
  unfold ddI ddP
  rw [h.1 41 rfl, scr_S h 10 (by decide), scr_S h 11 (by decide), scr_S h 13 (by decide), scr_S h 12 (by decide)]
theorem eqL_rf {L : Nat → Int32} : eqL L L := ⟨rfl, rfl, rfl, rfl, rfl, rfl, rfl, rfl⟩
theorem wrt_s {p : Int} {L : Nat → Int32} (hW : wlA v fa) (h : scr v fa z fz) : wrt z fz p d L = wrt v fa p d L := wrt_c hW (h.1 42 rfl) (scr_S h _ (by decide)) (scr_S h _ (by decide)) (scr_S h _ (by decide)) (scr_S h _ (by decide)) eqL_rf
theorem wPr_s (hW : wlA v fa) (h : scr v fa z fz) : wPr z fz d = wPr v fa d := by
  unfold wPr
  rw [wrt_s hW h]
theorem ukO_s (hW : wlA v fa) (h : scr v fa z fz) : ukO z fz x d k = ukO v fa x d k := by
  unfold ukO
  rw [hsO_s h, lhO_s h, wPr_s hW h]
theorem stF_s (hW : wlA v fa) (h : scr v fa z fz) : stF z fz n d k = stF v fa n d k := by
  unfold stF
  rw [whO_s h, ddI_s h, hsO_s h, ukO_s hW h, scr_S h 25 (by decide), scr_S h 21 (by decide), scr_S h 26 (by decide), scr_S h 10 (by decide)]
theorem abF_s (hW : wlA v fa) (h : scr v fa z fz) : abF z fz x d k = abF v fa x d k := by
  unfold abF
  rw [h.1 43 rfl]
  exact smN_c (fun j _ => by rw [stF_s hW h, scr_S h 21 (by decide)])
/-- a text's value stays in its bounds -/
theorem hld_b (x : Int64) : -1000000000 ≤ (hld x).toInt ∧ (hld x).toInt ≤ 1000000000 := by
  unfold hld
  have e1 : (1000000000 : Int64).toInt = 1000000000 := by decide
  have e2 : (-1000000000 : Int64).toInt = -1000000000 := by decide
  split
  · rename_i h1
    split
    · rename_i h2
      have h1 := Int64.le_iff_toInt_le.mp ((lg_cmp_le _ _).mp h1)
      have h2 := Int64.le_iff_toInt_le.mp ((lg_cmp_ge _ _).mp h2)
      rw [Int64.toInt_toInt32, Int.bmod_eq_of_le (by omega) (by omega)]
      omega
    · decide
  · decide
theorem mop_b {s x y : Int32} (h : isSg s) : -1000000000 ≤ (mop s x y).toInt ∧ (mop s x y).toInt ≤ 1000000000 := by
  rcases h with h | h | h | h | h | h | h <;> subst h
  · rw [mop_43]; exact hld_b _
  · rw [mop_45]; exact hld_b _
  · rw [mop_42]; exact hld_b _
  · rw [mop_47]; split; decide; exact hld_b _
  · rw [mop_60]; split <;> decide
  · rw [mop_61]; split <;> decide
  · rw [mop_62]; split <;> decide
theorem mvS_b {lt : Int32 → Int32} {c : Nat → Int32} (hlt : ∀ x, -1000000000 ≤ (lt x).toInt ∧ (lt x).toInt ≤ 1000000000) (hw : (mvS lt c 5 0).2.1 = true) : -1000000000 ≤ (mvS lt c 5 0).2.2.toInt ∧ (mvS lt c 5 0).2.2.toInt ≤ 1000000000 := by
  have h := pS_rel (Q := fun (x y : Int32) => -1000000000 ≤ x.toInt ∧ x.toInt ≤ 1000000000) (c := c) (op := mop) (op' := mop) (fun _ hs _ _ _ _ _ _ => mop_b hs) (pU_rel (c := c) (op := mop) (op' := mop) (li := fun x => x) (lt := lt) (li' := fun x => x) (lt' := lt) (dv := 0) (dv' := 0) (fun _ hs _ _ _ _ _ _ => mop_b hs) (fun p => by have := pNum_rng (c := c) 5 p 0 0 (by decide) (by decide) (by decide); omega) (fun x _ => hlt x) 5) 0
  exact h.2.2 hw
theorem wrt_b {p : Int} {L : Nat → Int32} (hW : wlA v fa) (hp : p ≠ 1) : -1000000000 ≤ (wrt v fa p d L).toInt ∧ (wrt v fa p d L).toInt ≤ 1000000000 := by
  have hlt := acB_lt (fa := fa) (p := p) (d := d) (n := (v 42).toNatClampNeg)
  unfold wrt
  by_cases q : 0 ≤ acB fa p d (v 42).toNatClampNeg
  · rw [if_pos q]
    refine mvS_b (fun x => hld_b _) ?_
    rw [← (cm_same (lt := mLr L)).2]
    exact hW _ (by omega)
  · rw [if_neg q]
    split
    · decide
    · try rw [if_neg hp]
      split
      · decide
      · split <;> decide
end
