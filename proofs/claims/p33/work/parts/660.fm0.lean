

/-- two ports that differ; what a refused miles answers; what miles answers and the row behind it -/
def gok (a b : Int) : Prop := 0 ≤ a ∧ a ≤ 9 ∧ 0 ≤ b ∧ b ≤ 9 ∧ a ≠ b
def gmo (a b x r : Int) : Prop := (¬ gok a b ∧ r = -1) ∨ (gok a b ∧ x < 0 ∧ r = -4) ∨ (gok a b ∧ 9999 < x ∧ r = -6)
def gml (f : Nat → Int32) (a b x r : Int32) (f1 : Nat → Int32) : Prop := (gmo a.toInt b.toInt x.toInt r.toInt ∧ f1 = f) ∨ (gok a.toInt b.toInt ∧ 0 ≤ x.toInt ∧ x.toInt ≤ 9999 ∧ ∃ i1 i2 : Int32, i1.toInt = 10 * a.toInt + b.toInt ∧ i2.toInt = 10 * b.toInt + a.toInt ∧ r = f i1.toNatClampNeg ∧ f1 = upd (upd f i1.toNatClampNeg x) i2.toNatClampNeg x)
theorem gml_det {f f1 f2 : Nat → Int32} {a b x r r2 : Int32} (h : gml f a b x r f1) (g : gml f a b x r2 f2) : r = r2 ∧ f1 = f2 := by
  rcases h with ⟨h1, h2⟩ | ⟨h1, h2, h3, i1, i2, h4, h5, h6, h7⟩
  · rcases g with ⟨g1, g2⟩ | ⟨g1, g2, g3, -⟩
    · exact ⟨Int32.toInt_inj.mp (by unfold gmo gok at h1 g1; omega), by rw [h2, g2]⟩
    · exfalso
      unfold gmo at h1
      unfold gok at h1 g1
      omega
  · rcases g with ⟨g1, g2⟩ | ⟨g1, g2, g3, j1, j2, g4, g5, g6, g7⟩
    · exfalso
      unfold gmo at g1
      unfold gok at h1 g1
      omega
    · have e1 : i1 = j1 := Int32.toInt_inj.mp (by omega)
      have e2 : i2 = j2 := Int32.toInt_inj.mp (by omega)
      subst e1 e2
      exact ⟨by rw [h6, g6], by rw [h7, g7]⟩
/-- what man answers, and how many men stand behind it -/
def gmn (now men a b d r men1 : Int) : Prop := ((a < 0 ∨ b < 0 ∨ d < -30000) ∧ r = -4 ∧ men1 = men) ∨ (¬ (a < 0 ∨ b < 0 ∨ d < -30000) ∧ (9999 < a ∨ 99999 < b ∨ now < d ∨ 40 ≤ men) ∧ r = -6 ∧ men1 = men) ∨ (¬ (a < 0 ∨ b < 0 ∨ d < -30000) ∧ ¬ (9999 < a ∨ 99999 < b ∨ now < d ∨ 40 ≤ men) ∧ r = men ∧ men1 = men + 1)
theorem gmn_det {now men a b d r r2 m1 m2 : Int} (h : gmn now men a b d r m1) (g : gmn now men a b d r2 m2) : r = r2 ∧ m1 = m2 := by
  unfold gmn at h g
  omega