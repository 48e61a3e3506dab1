

/-- two ports that differ; what a refused miles answers; what miles answers and the row behind it -/
def gok (a b : Int) : Prop := 0 ≤ a ∧ a ≤ 9 ∧ 0 ≤ b ∧ b ≤ 9 ∧ a ≠ b
def gmo (a b x r : Int) : Prop := (¬ gok a b ∧ r = -1) ∨ (gok a b ∧ x < 0 ∧ r = -4) ∨ (gok a b ∧ 9999 < x ∧ r = -6)
def gml (f : Nat → Int32) (a b x r : Int32) (f1 : Nat → Int32) : Prop := (gmo a.toInt b.toInt x.toInt r.toInt ∧ f1 = f) ∨ (gok a.toInt b.toInt ∧ 0 ≤ x.toInt ∧ x.toInt ≤ 9999 ∧ ∃ i1 i2 : Int32, i1.toInt = 10 * a.toInt + b.toInt ∧ i2.toInt = 10 * b.toInt + a.toInt ∧ r = f i1.toNatClampNeg ∧ f1 = upd (upd f i1.toNatClampNeg x) i2.toNatClampNeg x)
/-- what man answers, and how many men stand behind it -/
def gmn (now men a b d r men1 : Int) : Prop := ((a < 0 ∨ b < 0 ∨ d < -30000) ∧ r = -4 ∧ men1 = men) ∨ (¬ (a < 0 ∨ b < 0 ∨ d < -30000) ∧ (9999 < a ∨ 99999 < b ∨ now < d ∨ 40 ≤ men) ∧ r = -6 ∧ men1 = men) ∨ (¬ (a < 0 ∨ b < 0 ∨ d < -30000) ∧ ¬ (9999 < a ∨ 99999 < b ∨ now < d ∨ 40 ≤ men) ∧ r = men ∧ men1 = men + 1)
theorem gmn_det {now men a b d r r2 m1 m2 : Int} (h : gmn now men a b d r m1) (g : gmn now men a b d r2 m2) : r = r2 ∧ m1 = m2 := by
  unfold gmn at h g
  omega
theorem ml_of {v : Nat → Int32} {fa : Nat → Nat → Int32} {a b x r : Int32} {u : (Nat → Int32) × (Nat → Nat → Int32)} (hV : mV v) (hA : mA fa) (h : gmiles v fa a b x r u) : mV u.1 ∧ mA u.2 ∧ mX [0, 1] v fa u.1 u.2 ∧ gml (fa 1) a b x r (u.2 1) := by
  have k10 : (10 : Int32).toInt = 10 := by decide
  have k0 : (0 : Int32).toInt = 0 := by decide
  have k9 : (9999 : Int32).toInt = 9999 := by decide
  have r1 : (-1 : Int32).toInt = -1 := by decide
  have r4 : (-4 : Int32).toInt = -4 := by decide
  have r6 : (-6 : Int32).toInt = -6 := by decide
  have ref : ∀ {c : Int32}, r = c ∧ sm0 v fa u → gmo a.toInt b.toInt x.toInt c.toInt → mV u.1 ∧ mA u.2 ∧ mX [0, 1] v fa u.1 u.2 ∧ gml (fa 1) a b x r (u.2 1) := fun {c} q g => by
    obtain ⟨e, hs⟩ := q
    subst e
    exact ⟨sm0_V hs hV, sm0_A hs hA, mX.st mX.rf (mX.s0 hs) (by decide +kernel), Or.inl ⟨g, hs.2 1 (by decide +kernel)⟩⟩
  unfold gmiles at h
  split at h
  · rename_i hc
    refine ref h (Or.inl ⟨fun g => ?_, r1⟩)
    unfold gok at g
    rcases hc with hc | hc | hc
    · have := isI_0 hc; omega
    · have := isI_0 hc; omega
    · rw [hc] at g; omega
  · rename_i hc
    have g : gok a.toInt b.toInt := by
      have h1 := isI_nz (fun q => hc (Or.inl q))
      have h2 := isI_nz (fun q => hc (Or.inr (Or.inl q)))
      have h3 : a.toInt ≠ b.toInt := fun q => hc (Or.inr (Or.inr (Int32.toInt_inj.mp q)))
      unfold gok
      omega
    split at h
    · rename_i hx
      have hx' := c_le (a := 0) (b := x.toInt) k0 rfl hx
      split at h
      · rename_i hy
        have hy' := c_le (a := x.toInt) (b := 9999) rfl k9 hy
        obtain ⟨h1, h2, h3⟩ := h
        rw [h2, h3]
        have gg := g
        unfold gok at gg
        have e1 : (10 * a + b).toInt = 10 * a.toInt + b.toInt := ad_i (mu_i k10 rfl (by omega) (by omega)) rfl (by omega) (by omega)
        have e2 : (10 * b + a).toInt = 10 * b.toInt + a.toInt := ad_i (mu_i k10 rfl (by omega) (by omega)) rfl (by omega) (by omega)
        refine ⟨hV, mA_upF (lo := -2147483648) (hi := 2147483647) (mA_upF (lo := -2147483648) (hi := 2147483647) hA rfl rfl (iv_all _)) rfl rfl (iv_all _), mX.uF (mX.uF mX.rf (by decide +kernel)) (by decide +kernel), Or.inr ⟨g, hx', hy', 10 * a + b, 10 * b + a, e1, e2, h1, ?_⟩⟩
        rw [show upF (upF fa 1 (10 * a + b).toNatClampNeg x) 1 (10 * b + a).toNatClampNeg x 1 = upd (upF fa 1 (10 * a + b).toNatClampNeg x 1) (10 * b + a).toNatClampNeg x from if_pos rfl, show upF fa 1 (10 * a + b).toNatClampNeg x 1 = upd (fa 1) (10 * a + b).toNatClampNeg x from if_pos rfl]
      · rename_i hy
        have hy' := c_nle (a := x.toInt) (b := 9999) rfl k9 hy
        exact ref h (Or.inr (Or.inr ⟨g, hy', r6⟩))
    · rename_i hx
      have hx' := c_nle (a := 0) (b := x.toInt) k0 rfl hx
      exact ref h (Or.inr (Or.inl ⟨g, hx', r4⟩))
theorem mn_of {v : Nat → Int32} {fa : Nat → Nat → Int32} {a b d r : Int32} {u : (Nat → Int32) × (Nat → Nat → Int32)} (hV : mV v) (hA : mA fa) (h : gman v fa a b d r u) : mV u.1 ∧ mA u.2 ∧ mX [0, 2, 3, 4, 39] v fa u.1 u.2 ∧ gmn (v 38).toInt (v 39).toInt a.toInt b.toInt d.toInt r.toInt (u.1 39).toInt := by
  have k0 : (0 : Int32).toInt = 0 := by decide
  have k1 : (1 : Int32).toInt = 1 := by decide
  have k3 : (-30000 : Int32).toInt = -30000 := by decide
  have k9 : (9999 : Int32).toInt = 9999 := by decide
  have k99 : (99999 : Int32).toInt = 99999 := by decide
  have k40 : (40 : Int32).toInt = 40 := by decide
  have r4 : (-4 : Int32).toInt = -4 := by decide
  have r6 : (-6 : Int32).toInt = -6 := by decide
  have hm : 0 ≤ (v 39).toInt ∧ (v 39).toInt ≤ 40 := hV 39
  have ref : ∀ {c : Int32}, r = c ∧ sm0 v fa u → gmn (v 38).toInt (v 39).toInt a.toInt b.toInt d.toInt c.toInt (v 39).toInt → mV u.1 ∧ mA u.2 ∧ mX [0, 2, 3, 4, 39] v fa u.1 u.2 ∧ gmn (v 38).toInt (v 39).toInt a.toInt b.toInt d.toInt r.toInt (u.1 39).toInt := fun {c} q g => by
    obtain ⟨e, hs⟩ := q
    subst e
    refine ⟨sm0_V hs hV, sm0_A hs hA, mX.st mX.rf (mX.s0 hs) (by decide +kernel), ?_⟩
    rw [hs.1]
    exact g
  unfold gman at h
  split at h
  · rename_i hc
    refine ref h (Or.inl ⟨?_, r4, rfl⟩)
    rcases hc with hc | hc | hc
    · exact Or.inl (c_lt (a := a.toInt) (b := 0) rfl k0 hc)
    · exact Or.inr (Or.inl (c_lt (a := b.toInt) (b := 0) rfl k0 hc))
    · exact Or.inr (Or.inr (c_nle (a := -30000) (b := d.toInt) k3 rfl hc))
  · rename_i hc
    have h1 := c_nlt (a := a.toInt) (b := 0) rfl k0 (fun q => hc (Or.inl q))
    have h2 := c_nlt (a := b.toInt) (b := 0) rfl k0 (fun q => hc (Or.inr (Or.inl q)))
    have h3 : -30000 ≤ d.toInt := by
      by_cases q : (-30000 : Int32) ≤ d
      · exact c_le (a := -30000) (b := d.toInt) k3 rfl q
      · exact absurd (Or.inr (Or.inr q)) hc
    split at h
    · rename_i hd
      refine ref h (Or.inr (Or.inl ⟨by omega, ?_, r6, rfl⟩))
      rcases hd with hd | hd | hd | hd
      · exact Or.inl (c_lt (a := 9999) (b := a.toInt) k9 rfl hd)
      · exact Or.inr (Or.inl (c_lt (a := 99999) (b := b.toInt) k99 rfl hd))
      · exact Or.inr (Or.inr (Or.inl (c_lt (a := (v 38).toInt) (b := d.toInt) rfl rfl hd)))
      · exact Or.inr (Or.inr (Or.inr (by rw [hd, k40]; omega)))
    · rename_i hd
      have g1 := c_nlt (a := 9999) (b := a.toInt) k9 rfl (fun q => hd (Or.inl q))
      have g2 := c_nlt (a := 99999) (b := b.toInt) k99 rfl (fun q => hd (Or.inr (Or.inl q)))
      have g3 := c_nlt (a := (v 38).toInt) (b := d.toInt) rfl rfl (fun q => hd (Or.inr (Or.inr (Or.inl q))))
      have g4 := c_ne (a := (v 39).toInt) (b := 40) rfl k40 (fun q => hd (Or.inr (Or.inr (Or.inr q))))
      obtain ⟨e1, e2, e3⟩ := h
      have s1 : (v 39 + 1).toInt = (v 39).toInt + 1 := ad_i rfl k1 (by omega) (by omega)
      have s2 : (v 39 + 1 - 1).toInt = (v 39).toInt + 1 - 1 := sb_i s1 k1 (by omega) (by omega)
      rw [e1, e2, e3, show upd v 39 (v 39 + 1) 39 = v 39 + 1 from if_pos rfl]
      refine ⟨mV_upd (lo := 0) (hi := 40) hV rfl rfl (by omega), ?_, mX.uF (mX.uF (mX.uF (mX.up mX.rf (by decide +kernel)) (by decide +kernel)) (by decide +kernel)) (by decide +kernel), ?_⟩
      · exact mA_upF (lo := -2147483648) (hi := 2147483647) (mA_upF (lo := -2147483648) (hi := 2147483647) (mA_upF (lo := -2147483648) (hi := 2147483647) hA rfl rfl (iv_all _)) rfl rfl (iv_all _)) rfl rfl (iv_all _)
      · unfold gmn
        omega
