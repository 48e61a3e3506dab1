

/-- a count over days -/
def cDy (g : Int → Int) (lo : Int) (n : Nat) : Int := smN (fun i => g (lo + (i : Int))) n
/-- a day that earns, a day aboard -/
noncomputable def erG (v : Nat → Int32) (fa : Nat → Nat → Int32) (a : Nat) (k t : Int) : Int := if 0 ≤ stF v fa a t k ∧ stF v fa a t k < 3 then 1 else 0
noncomputable def abG (v : Nat → Int32) (fa : Nat → Nat → Int32) (a : Nat) (k t : Int) : Int := if stF v fa a t k = 1 then 1 else 0
/-- DAYS that earn -/
noncomputable def erF (v : Nat → Int32) (fa : Nat → Nat → Int32) (a : Nat) (j k : Int) : Int := cDy (erG v fa a k) (fa 25 a).toInt ((if stF v fa a j k = 2 then lhO v fa (fa 21 a).toInt j k else j) + 1 - (fa 25 a).toInt).toNat
/-- DAYS he was ABOARD -/
noncomputable def dnF (v : Nat → Int32) (fa : Nat → Nat → Int32) (a : Nat) (j k : Int) : Int := cDy (abG v fa a k) (fa 25 a).toInt (j + 1 - (fa 25 a).toInt).toNat
section
variable {v z : Nat → Int32} {fa fz : Nat → Nat → Int32} {a n : Nat} {x k d t r lo : Int} {g : Int → Int}
theorem cD_s (h : lo ≤ t) : cDy g lo (t + 1 - lo).toNat = cDy g lo (t - lo).toNat + g t := by
  have e : (t + 1 - lo).toNat = (t - lo).toNat + 1 := by omega
  unfold cDy
  rw [e, smN_s]
  congr 2
  omega
theorem cD_0 (h : t ≤ lo) : cDy g lo (t - lo).toNat = 0 := by
  have e : (t - lo).toNat = 0 := by omega
  rw [e]
  rfl
theorem cD_st (hg : g d = 0 ∨ g d = 1) (hl : lo ≤ d) : ∀ m : Nat, (∀ t, d ≤ t → t < d + m → g t = g d) → cDy g lo (d + m - lo).toNat = cDy g lo (d - lo).toNat + (if g d = 1 then (m : Int) else 0) := by
  intro m
  induction m with
  | zero =>
    intro _
    rw [show d + ((0 : Nat) : Int) - lo = d - lo by omega]
    split <;> omega
  | succ m ih =>
    intro h
    have e := ih (fun t h1 h2 => h t h1 (by omega))
    have s := cD_s (g := g) (lo := lo) (t := d + (m : Int)) (by omega)
    rw [show d + ((m + 1 : Nat) : Int) - lo = d + (m : Int) + 1 - lo by omega, s, e, h (d + m) (by omega) (by omega)]
    rcases hg with q | q
    · rw [q, if_neg (by omega), if_neg (by omega)]; omega
    · rw [q, if_pos rfl, if_pos rfl]; omega
/-- a stretch of one state -/
theorem cD_r (hg : g d = 0 ∨ g d = 1) (hl : lo ≤ d) (hr : d ≤ r) (h : ∀ t, d ≤ t → t < r → g t = g d) : cDy g lo (r - lo).toNat = cDy g lo (d - lo).toNat + (if g d = 1 then r - d else 0) := by
  have e := cD_st hg hl (r - d).toNat (fun t h1 h2 => h t h1 (by omega))
  have c : (((r - d).toNat : Nat) : Int) = r - d := by omega
  rw [show d + (((r - d).toNat : Nat) : Int) - lo = r - lo by omega, c] at e
  exact e
theorem cD_b (h : ∀ t, 0 ≤ g t ∧ g t ≤ 1) : 0 ≤ cDy g lo n ∧ cDy g lo n ≤ n := by
  unfold cDy
  induction n with
  | zero => exact ⟨Int.le_refl _, Int.le_refl _⟩
  | succ n ih =>
    rw [smN_s]
    have := h (lo + n)
    omega
theorem erG_b : 0 ≤ erG v fa a k t ∧ erG v fa a k t ≤ 1 := by
  unfold erG
  split <;> omega
theorem abG_b : 0 ≤ abG v fa a k t ∧ abG v fa a k t ≤ 1 := by
  unfold abG
  split <;> omega
theorem erG_01 : erG v fa a k t = 0 ∨ erG v fa a k t = 1 := by
  have := erG_b (v := v) (fa := fa) (a := a) (k := k) (t := t)
  omega
theorem abG_01 : abG v fa a k t = 0 ∨ abG v fa a k t = 1 := by
  have := abG_b (v := v) (fa := fa) (a := a) (k := k) (t := t)
  omega
/-- no day on which something of the voyage x or the agreement a, as known on k, begins to count lies in d + 1 .. r - 1 -/
def qV (v : Nat → Int32) (fa : Nat → Nat → Int32) (x k d r : Int) : Prop := ∀ i, i < (v 41).toNatClampNeg → ((fa 10 i).toInt = 0 ∨ (fa 10 i).toInt = 1 ∨ (fa 10 i).toInt = 2) → (fa 11 i).toInt = x → (fa 13 i).toInt ≤ k → ¬ (d < (fa 12 i).toInt ∧ (fa 12 i).toInt < r)
def qA (v : Nat → Int32) (fa : Nat → Nat → Int32) (a k d r : Int) : Prop := ∀ i, i < (v 41).toNatClampNeg → ((fa 10 i).toInt = 3 ∨ (fa 10 i).toInt = 4 ∨ (fa 10 i).toInt = 5) → (fa 11 i).toInt = a → (fa 13 i).toInt ≤ k → ¬ (d < (fa 12 i).toInt ∧ (fa 12 i).toInt < r)
def qPn (fa : Nat → Nat → Int32) (n : Nat) (d r : Int) : Prop := ∀ i, i < n → (fa 17 i).toInt = 4 → ¬ (d < (fa 18 i).toInt ∧ (fa 18 i).toInt < r)
def qP (v : Nat → Int32) (fa : Nat → Nat → Int32) (d r : Int) : Prop := qPn fa (v 42).toNatClampNeg d r
theorem lhB_q {n : Nat} (h1 : d ≤ t) (h : ∀ i, i < n → ((fa 10 i).toInt = 1 ∨ (fa 10 i).toInt = 0) → (fa 11 i).toInt = x → (fa 13 i).toInt ≤ k → ((fa 12 i).toInt ≤ t ↔ (fa 12 i).toInt ≤ d)) : lhB fa x t k n = lhB fa x d k n := by
  induction n with
  | zero => rfl
  | succ n ih =>
    have e := ih (fun i hi => h i (by omega))
    have hn := h n (by omega)
    unfold lhB
    rw [e]
    by_cases c : ((fa 10 n).toInt = 1 ∨ (fa 10 n).toInt = 0) ∧ (fa 11 n).toInt = x ∧ (fa 13 n).toInt ≤ k
    · have q := hn c.1 c.2.1 c.2.2
      by_cases c2 : (fa 12 n).toInt ≤ d ∧ lhB fa x d k n < (fa 12 n).toInt
      · rw [if_pos ⟨c.1, c.2.1, c.2.2, q.mpr c2.1, c2.2⟩, if_pos ⟨c.1, c.2.1, c.2.2, c2.1, c2.2⟩]
      · rw [if_neg (fun g => c2 ⟨q.mp g.2.2.2.1, g.2.2.2.2⟩), if_neg (fun g => c2 ⟨g.2.2.2.1, g.2.2.2.2⟩)]
    · rw [if_neg (fun g => c ⟨g.1, g.2.1, g.2.2.1⟩), if_neg (fun g => c ⟨g.1, g.2.1, g.2.2.1⟩)]
theorem whB_q {a : Int} {n : Nat} (h : ∀ i, i < n → ((fa 10 i).toInt = 3 ∨ (fa 10 i).toInt = 5) → (fa 11 i).toInt = a → (fa 13 i).toInt ≤ k → ((fa 12 i).toInt ≤ t ↔ (fa 12 i).toInt ≤ d)) : whB fa a t k n = whB fa a d k n := by
  induction n with
  | zero => rfl
  | succ n ih =>
    have e := ih (fun i hi => h i (by omega))
    have hn := h n (by omega)
    unfold whB
    rw [e]
    by_cases c : ((fa 10 n).toInt = 3 ∨ (fa 10 n).toInt = 5) ∧ (fa 11 n).toInt = a ∧ (fa 13 n).toInt ≤ k
    · have q := hn c.1 c.2.1 c.2.2
      by_cases c2 : (fa 12 n).toInt ≤ d ∧ (whB fa a d k n < 0 ∨ (fa 12 (whB fa a d k n).toNat).toInt ≤ (fa 12 n).toInt)
      · rw [if_pos ⟨c.1, c.2.1, c.2.2, q.mpr c2.1, c2.2⟩, if_pos ⟨c.1, c.2.1, c.2.2, c2.1, c2.2⟩]
      · rw [if_neg (fun g => c2 ⟨q.mp g.2.2.2.1, g.2.2.2.2⟩), if_neg (fun g => c2 ⟨g.2.2.2.1, g.2.2.2.2⟩)]
    · rw [if_neg (fun g => c ⟨g.1, g.2.1, g.2.2.1⟩), if_neg (fun g => c ⟨g.1, g.2.1, g.2.2.1⟩)]
theorem acB_q {p : Int} {n : Nat} (h : ∀ i, i < n → (fa 17 i).toInt = p → ((fa 18 i).toInt ≤ t ↔ (fa 18 i).toInt ≤ d)) : acB fa p t n = acB fa p d n := by
  induction n with
  | zero => rfl
  | succ n ih =>
    have e := ih (fun i hi => h i (by omega))
    have hn := h n (by omega)
    unfold acB
    rw [e]
    by_cases c : (fa 17 n).toInt = p
    · have q := hn c
      by_cases c2 : (fa 18 n).toInt ≤ d
      · have c3 := q.mpr c2
        simp only [c, c2, c3]
      · have c3 : ¬ (fa 18 n).toInt ≤ t := fun g => c2 (q.mp g)
        simp only [c2, c3, false_and, and_false]
    · simp only [c, false_and]
theorem slO_i (hs : 0 ≤ slO v fa x k) : ∃ i, i < (v 41).toNatClampNeg ∧ (fa 10 i).toInt = 0 ∧ (fa 11 i).toInt = x ∧ (fa 13 i).toInt ≤ k ∧ slO v fa x k = (fa 12 i).toInt := by
  unfold slO at *
  generalize (v 41).toNatClampNeg = n at *
  induction n with
  | zero => exact absurd hs (show ¬ (0 : Int) ≤ -1 by decide)
  | succ n ih =>
    unfold slB at hs ⊢
    by_cases c : 0 ≤ slB fa x k n
    · rw [if_pos c]
      obtain ⟨i, h1, h2⟩ := ih c
      exact ⟨i, by omega, h2⟩
    · rw [if_neg c] at hs ⊢
      by_cases c2 : (fa 10 n).toInt = 0 ∧ (fa 11 n).toInt = x ∧ (fa 13 n).toInt ≤ k
      · rw [if_pos c2]
        exact ⟨n, by omega, c2.1, c2.2.1, c2.2.2, rfl⟩
      · rw [if_neg c2] at hs
        omega
theorem wPr_q (h : qP v fa d r) (h1 : d ≤ t) (h2 : t < r) : wPr v fa t = wPr v fa d := by
  unfold wPr wrt
  have e : acB fa 4 t (v 42).toNatClampNeg = acB fa 4 d (v 42).toNatClampNeg := acB_q (fun i hi hp => by
    have q := h i hi hp
    constructor <;> intro g <;> omega)
  rw [e]
/-- a state stays till something begins to count -/
theorem stF_q (hsi : (fa 25 a).toInt ≤ d) (ho : ¬ (d < (fa 26 a).toInt ∧ (fa 26 a).toInt < r)) (hv : qV v fa (fa 21 a).toInt k d r) (ha : qA v fa a k d r) (hp : qP v fa d r) (hl : ¬ (d < lhO v fa (fa 21 a).toInt d k + wPr v fa d + 1 ∧ lhO v fa (fa 21 a).toInt d k + wPr v fa d + 1 < r)) (h1 : d ≤ t) (h2 : t < r) : stF v fa a t k = stF v fa a d k := by
  have e1 : ddI v fa a (fa 21 a).toInt t k = ddI v fa a (fa 21 a).toInt d k := by
    refine b01_c ⟨fun ⟨i, i1, i2, i3, i4⟩ => ⟨i, i1, i2, i3, ?_⟩, fun ⟨i, i1, i2, i3, i4⟩ => ⟨i, i1, i2, i3, by omega⟩⟩
    rcases i2 with i2 | i2
    · have := ha i i1 (by omega) i2.2 i3
      omega
    · have := hv i i1 (by omega) i2.2 i3
      omega
  have e2 : whO v fa a t k = whO v fa a d k := whB_q (fun i hi g1 g2 g3 => by
    have := ha i hi (by omega) g2 g3
    constructor <;> intro g <;> omega)
  have e3 : hsO v fa (fa 21 a).toInt t k = hsO v fa (fa 21 a).toInt d k := by
    unfold hsO
    by_cases c : 0 ≤ slO v fa (fa 21 a).toInt k
    · obtain ⟨i, i1, i2, i3, i4, i5⟩ := slO_i c
      have := hv i i1 (by omega) i3 i4
      by_cases c2 : slO v fa (fa 21 a).toInt k ≤ d
      · rw [if_pos ⟨c, by omega⟩, if_pos ⟨c, c2⟩]
      · rw [if_neg (by omega), if_neg (by omega)]
    · rw [if_neg (by omega), if_neg (by omega)]
  have e4 : lhO v fa (fa 21 a).toInt t k = lhO v fa (fa 21 a).toInt d k := lhB_q h1 (fun i hi g1 g2 g3 => by
    have := hv i hi (by omega) g2 g3
    constructor <;> intro g <;> omega)
  have e5 := wPr_q hp h1 h2
  have e6 : ukO v fa (fa 21 a).toInt t k = ukO v fa (fa 21 a).toInt d k := by
    unfold ukO
    rw [e3, e4, e5]
    split
    · rfl
    · by_cases c : lhO v fa (fa 21 a).toInt d k < d - wPr v fa d
      · rw [if_pos (by omega), if_pos c]
      · rw [if_neg (by omega), if_neg c]
  unfold stF
  rw [e1, e2, e3, e6, if_neg (show ¬ t < (fa 25 a).toInt by omega), if_neg (show ¬ d < (fa 25 a).toInt by omega)]
  by_cases c : 0 ≤ (fa 26 a).toInt ∧ (fa 26 a).toInt ≤ d
  · rw [if_pos (show 0 ≤ (fa 26 a).toInt ∧ (fa 26 a).toInt ≤ t by omega), if_pos c]
  · rw [if_neg (show ¬ (0 ≤ (fa 26 a).toInt ∧ (fa 26 a).toInt ≤ t) by omega), if_neg c]
theorem erG_s (hW : wlA v fa) (h : scr v fa z fz) : erG z fz a k t = erG v fa a k t := by
  unfold erG
  rw [stF_s hW h]
end
