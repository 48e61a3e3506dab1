

section
variable {x y : Int64} {a b k : Int}
theorem lsb_i (hx : x.toInt = a) (hy : y.toInt = b) (h1 : -9223372036854775808 ≤ a - b) (h2 : a - b ≤ 9223372036854775807) : (x - y).toInt = a - b := by
  rw [Int64.toInt_sub, hx, hy]
  exact Int.bmod_eq_of_le (by omega) (by omega)
theorem lad_i (hx : x.toInt = a) (hy : y.toInt = b) (h1 : -9223372036854775808 ≤ a + b) (h2 : a + b ≤ 9223372036854775807) : (x + y).toInt = a + b := by
  rw [Int64.toInt_add, hx, hy]
  exact Int.bmod_eq_of_le (by omega) (by omega)
theorem mul_31 (ha : -2147483648 ≤ a ∧ a ≤ 2147483648) (hb : -2147483648 ≤ b ∧ b ≤ 2147483648) : -4611686018427387904 ≤ a * b ∧ a * b ≤ 4611686018427387904 := by
  have key : ∀ p q : Int, 0 ≤ p → p ≤ 2147483648 → 0 ≤ q → q ≤ 2147483648 → 0 ≤ p * q ∧ p * q ≤ 4611686018427387904 := fun p q h1 h2 h3 h4 => ⟨Int.mul_nonneg h1 h3, Int.le_trans (Int.mul_le_mul h2 h4 h3 (by decide)) (by decide)⟩
  rcases Int.le_total 0 a with p | p
  · rcases Int.le_total 0 b with q | q
    · have := key a b p ha.2 q hb.2
      omega
    · have := key a (-b) p ha.2 (by omega) (by omega)
      rw [Int.mul_neg] at this
      omega
  · rcases Int.le_total 0 b with q | q
    · have := key (-a) b (by omega) (by omega) q hb.2
      rw [Int.neg_mul] at this
      omega
    · have := key (-a) (-b) (by omega) (by omega) (by omega) (by omega)
      rw [Int.neg_mul_neg] at this
      omega
theorem lmu_i (hx : x.toInt = a) (hy : y.toInt = b) (ha : -2147483648 ≤ a ∧ a ≤ 2147483648) (hb : -2147483648 ≤ b ∧ b ≤ 2147483648) : (x * y).toInt = a * b := by
  have := mul_31 ha hb
  rw [Int64.toInt_mul, hx, hy]
  exact Int.bmod_eq_of_le (by omega) (by omega)
theorem ldv_i (hx : x.toInt = a) (hy : y.toInt = k) (h : y ≠ -1) : (x / y).toInt = a.tdiv k := by
  rw [Int64.toInt_div_of_ne_right _ _ h, hx, hy]
theorem l2i_i {z : Int32} (e : z = x.toInt32) (hx : x.toInt = a) (h1 : -2147483648 ≤ a) (h2 : a ≤ 2147483647) : z.toInt = a := by
  rw [e, Int64.toInt_toInt32, hx]
  exact Int.bmod_eq_of_le (by omega) (by omega)
theorem lg_c0 {z : Int32} (e : z = lg_cmp x 0) (hx : x.toInt = a) : (z.toInt ≤ 0 ∧ a ≤ 0) ∨ (0 < z.toInt ∧ 0 < a) := by
  have e0 : (0 : Int32).toInt = 0 := by decide
  have e1 : (0 : Int64).toInt = 0 := by decide
  by_cases g : x ≤ 0
  · have g1 := (lg_cmp_le _ _).mpr g
    have g2 := Int64.le_iff_toInt_le.mp g
    rw [← e] at g1
    have g3 := Int32.le_iff_toInt_le.mp g1
    exact Or.inl ⟨by omega, by omega⟩
  · have g1 : ¬ z ≤ 0 := fun q => g ((lg_cmp_le _ _).mp (by rw [← e]; exact q))
    have g2 : ¬ x.toInt ≤ (0 : Int64).toInt := fun q => g (Int64.le_iff_toInt_le.mpr q)
    have g3 : ¬ z.toInt ≤ (0 : Int32).toInt := fun q => g1 (Int32.le_iff_toInt_le.mpr q)
    exact Or.inr ⟨by omega, by omega⟩
end
noncomputable def bsF (v : Nat → Int32) (fa : Nat → Nat → Int32) (a : Nat) (j k : Int) : Int := ((fa 22 a).toInt * erF v fa a j k).tdiv 30
noncomputable def nvF (v : Nat → Int32) (fa : Nat → Nat → Int32) (a : Nat) (j k : Int) : Int := if 0 < (fa 27 a).toInt ∧ 0 ≤ slO v fa (fa 21 a).toInt k ∧ slO v fa (fa 21 a).toInt k + 3 ≤ j ∧ stF v fa a (slO v fa (fa 21 a).toInt k + 3) k = 1 then (fa 27 a).toInt else 0
noncomputable def almF (v : Nat → Int32) (fa : Nat → Nat → Int32) (a : Nat) (s k : Int) (n : Nat) : Int := smN (fun i => if stF v fa a (s + 30 + 30 * (i : Int)) k = 1 then (fa 29 a).toInt else 0) n
noncomputable def almV (v : Nat → Int32) (fa : Nat → Nat → Int32) (a : Nat) (j k : Int) : Int := if 0 ≤ slO v fa (fa 21 a).toInt k ∧ 0 < (fa 29 a).toInt then almF v fa a (slO v fa (fa 21 a).toInt k) k ((j - slO v fa (fa 21 a).toInt k) / 30).toNat else 0
noncomputable def fnF (v : Nat → Int32) (fa : Nat → Nat → Int32) (a : Nat) (j k : Int) (n : Nat) : Int := smN (fun i => if (fa 33 (6 * a + i)).toInt ≤ j then stV v fa a (6 * a + i) k else 0) n
def shF (fa : Nat → Nat → Int32) (a : Nat) (k : Int) (n : Nat) : Int := smN (fun i => if (fa 35 (20 * a + i)).toInt ≤ k then (fa 36 (20 * a + i)).toInt else 0) n
/-- the sum ahead of a forfeit -/
noncomputable def owV (v : Nat → Int32) (fa : Nat → Nat → Int32) (a : Nat) (j k : Int) : Int := bsF v fa a j k - nvF v fa a j k - almV v fa a j k - fnF v fa a j k (fa 30 a).toNatClampNeg + shF fa a k (fa 31 a).toNatClampNeg
noncomputable def ffW (v : Nat → Int32) (fa : Nat → Nat → Int32) (a : Nat) (j : Int32) (k : Int) : Int := (wrt v fa 2 j.toInt (lP v fa a j k 0 0)).toInt
def clF (x : Int) : Int := if x < 0 then 0 else if 100 < x then 100 else x
/-- OWED -/
noncomputable def owF (v : Nat → Int32) (fa : Nat → Nat → Int32) (a : Nat) (j : Int32) (k : Int) : Int := if j.toInt < (fa 25 a).toInt then 0 else if owV v fa a j.toInt k ≤ 0 ∨ stF v fa a j.toInt k ≠ 3 ∨ (fa 14 (whO v fa a j.toInt k).toNat).toInt ≠ 0 then owV v fa a j.toInt k else owV v fa a j.toInt k - (owV v fa a j.toInt k * clF (ffW v fa a j k)).tdiv 100
/-- what the sums lie in -/
def owB (fa : Nat → Nat → Int32) (a : Nat) : Prop := (1 ≤ (fa 22 a).toInt ∧ (fa 22 a).toInt ≤ 9999) ∧ (0 ≤ (fa 27 a).toInt ∧ (fa 27 a).toInt ≤ 99999) ∧ (0 ≤ (fa 29 a).toInt ∧ (fa 29 a).toInt ≤ 9999) ∧ (∀ i, i < (fa 30 a).toNatClampNeg → 1 ≤ (fa 34 (6 * a + i)).toInt ∧ (fa 34 (6 * a + i)).toInt ≤ 9999) ∧ ∀ i, i < (fa 31 a).toNatClampNeg → 0 ≤ (fa 36 (20 * a + i)).toInt ∧ (fa 36 (20 * a + i)).toInt ≤ 98901
section
variable {v z : Nat → Int32} {fa fz : Nat → Nat → Int32} {a n j : Nat} {k d s : Int} {S : oS} {o : Nat}
theorem owB_of (hR : RC S o v fa) (hE : RX S o v fa) (ha : a < (v 43).toNatClampNeg) : owB fa a := by
  have p := (RC.p hR).2.1 a ha
  obtain ⟨g1, -, g3, g4, g5⟩ := hE.1 a ha
  exact ⟨⟨p.1, p.2.1⟩, ⟨g1.2.1, g1.2.2⟩, ⟨g3.2.1, g3.2.2⟩, fun i hi => ⟨(g4.2 i hi).2.2.2.2.2.1, (g4.2 i hi).2.2.2.2.2.2⟩, fun i hi => ⟨(g5.2.2.2.2 i hi).2.2.1, (g5.2.2.2.2 i hi).2.2.2⟩⟩
theorem td_b {x : Int} (h : 0 ≤ x) (k : Int) (hk : 0 < k) : x.tdiv k = x / k := Int.tdiv_eq_ediv_of_nonneg h
theorem erF_b : 0 ≤ erF v fa a d k := (cD_b (fun t => erG_b)).1
theorem bsF_b (h : owB fa a) (he : erF v fa a d k ≤ 3001) : 0 ≤ bsF v fa a d k ∧ bsF v fa a d k ≤ 1000234 := by
  have e0 := erF_b (v := v) (fa := fa) (a := a) (d := d) (k := k)
  have h1 : 0 ≤ (fa 22 a).toInt * erF v fa a d k := Int.mul_nonneg (by have := h.1; omega) e0
  have h2 : (fa 22 a).toInt * erF v fa a d k ≤ 9999 * 3001 := Int.mul_le_mul h.1.2 he e0 (by decide)
  unfold bsF
  rw [td_b h1 30 (by decide)]
  omega
theorem nvF_b (h : owB fa a) : 0 ≤ nvF v fa a d k ∧ nvF v fa a d k ≤ 99999 := by
  have := h.2.1
  unfold nvF
  split <;> omega
theorem almF_b (h : owB fa a) : 0 ≤ almF v fa a s k n ∧ almF v fa a s k n ≤ 9999 * n := by
  have b := h.2.2.1
  unfold almF
  induction n with
  | zero => exact ⟨Int.le_refl _, Int.le_refl _⟩
  | succ n ih =>
    rw [smN_s]
    split <;> omega
theorem stV_b {f : Nat} (h : 1 ≤ (fa 34 f).toInt ∧ (fa 34 f).toInt ≤ 9999) : 0 ≤ stV v fa a f k ∧ stV v fa a f k ≤ 9999 := by
  unfold stV
  split
  · omega
  · split <;> omega
theorem fnF_b (h : owB fa a) : ∀ {n : Nat}, n ≤ (fa 30 a).toNatClampNeg → 0 ≤ fnF v fa a d k n ∧ fnF v fa a d k n ≤ 9999 * n := by
  intro n
  unfold fnF
  induction n with
  | zero => intro _; exact ⟨Int.le_refl _, Int.le_refl _⟩
  | succ n ih =>
    intro hn
    have e := ih (by omega)
    have b := stV_b (v := v) (a := a) (k := k) (h.2.2.2.1 n (by omega))
    rw [smN_s]
    split <;> omega
theorem shF_b (h : owB fa a) : ∀ {n : Nat}, n ≤ (fa 31 a).toNatClampNeg → 0 ≤ shF fa a k n ∧ shF fa a k n ≤ 98901 * n := by
  intro n
  unfold shF
  induction n with
  | zero => intro _; exact ⟨Int.le_refl _, Int.le_refl _⟩
  | succ n ih =>
    intro hn
    have e := ih (by omega)
    have b := h.2.2.2.2 n (by omega)
    rw [smN_s]
    split <;> omega
theorem st3_w (h : stF v fa a d k = 3) : 0 ≤ whO v fa a d k ∧ (fa 10 (whO v fa a d k).toNat).toInt = 3 := by
  unfold stF at h
  split at h
  · omega
  · split at h
    · omega
    · split at h
      · omega
      · split at h
        · assumption
        · split at h
          · omega
          · split at h <;> omega
theorem dn_b {z m a b : Int} (hz : z = m.tdiv 30) (hm : m = a * b) (ha : 1 ≤ a ∧ a ≤ 9999) (hb : 0 ≤ b ∧ b ≤ 3001) : 0 ≤ z ∧ z ≤ 1000234 := by
  have h1 : 0 ≤ a * b := Int.mul_nonneg (by omega) hb.1
  have h2 : a * b ≤ 9999 * 3001 := Int.mul_le_mul ha.2 hb.2 hb.1 (by decide)
  rw [hz, hm, td_b h1 30 (by decide)]
  omega
theorem dm_b {z m a b : Int} (hz : z = m.tdiv 100) (hm : m = a * b) (ha : 0 ≤ a) (hb : 0 ≤ b ∧ b ≤ 100) : 0 ≤ z ∧ z ≤ a := by
  have h1 : 0 ≤ a * b := Int.mul_nonneg ha hb.1
  have h2 : a * b ≤ a * 100 := Int.mul_le_mul_of_nonneg_left hb.2 ha
  rw [hz, hm, td_b h1 100 (by decide)]
  omega
end
