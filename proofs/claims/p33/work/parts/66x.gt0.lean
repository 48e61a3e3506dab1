

/-- none -/
def NOW : Int := 1152921504606846976
/-- the ways behind the men ahead of k, and those that k joins from more than f on -/
def WayF (n : Nat) (W : Nat → Nat → Int) (k : Nat) (f : Int) (c : Nat) (x : Int) : Prop := Way n W k c x ∨ ∃ r c' : Nat, r < 4 ∧ f < (c' : Int) ∧ c = c' + 3 ^ r ∧ 0 < W k r ∧ dg c' r < dg n r ∧ Way n W k c' (x - cdI n r k (dg c' r) (W k r))
/-- what stands at c behind one placing -/
def pIn (n k f : Nat) (w : Nat → Int) (B : Nat → Int) (R c : Nat) (y : Int) : Prop := (∃ r, r < R ∧ r < 4 ∧ c = f + 3 ^ r ∧ 0 < w r ∧ dg f r < dg n r ∧ ((y = B c ∧ B c ≤ B f + cdI n r k (dg f r) (w r)) ∨ (y = B f + cdI n r k (dg f r) (w r) ∧ B f + cdI n r k (dg f r) (w r) ≤ B c))) ∨ ((¬ ∃ r, r < R ∧ r < 4 ∧ c = f + 3 ^ r ∧ 0 < w r ∧ dg f r < dg n r) ∧ y = B c)
section
variable {n k f c R : Nat} {W W2 : Nat → Nat → Int} {w : Nat → Int} {B B1 : Nat → Int} {x y : Int}
theorem p3_u {r q f : Nat} (hr : r < 4) (hq : q < 4) (e : f + 3 ^ r = f + 3 ^ q) : r = q := by
  have p0 : (3 : Nat) ^ 0 = 1 := by decide
  have p1 : (3 : Nat) ^ 1 = 3 := by decide
  have p2 : (3 : Nat) ^ 2 = 9 := by decide
  have p3 : (3 : Nat) ^ 3 = 27 := by decide
  rcases r4 hr with rfl | rfl | rfl | rfl <;> rcases r4 hq with rfl | rfl | rfl | rfl <;> first | rfl | (exfalso; omega)
theorem pIn_0 : pIn n k f w B 0 c (B c) := Or.inr ⟨fun ⟨r, h, _⟩ => absurd h (Nat.not_lt_zero r), rfl⟩
/-- a rank at which he isn't placed -/
theorem pIn_n (h : ∀ c, c < 81 → pIn n k f w B R c (B1 c)) (hn : ¬ (0 < w R ∧ dg f R < dg n R)) : ∀ c, c < 81 → pIn n k f w B (R + 1) c (B1 c) := fun c hc => by
  rcases h c hc with ⟨r, h1, h2, h3, h4, h5, h6⟩ | ⟨h1, h2⟩
  · exact Or.inl ⟨r, by omega, h2, h3, h4, h5, h6⟩
  · refine Or.inr ⟨fun ⟨r, q1, q2, q3, q4, q5⟩ => ?_, h2⟩
    by_cases e : r = R
    · subst e
      exact hn ⟨q4, q5⟩
    · exact h1 ⟨r, by omega, q2, q3, q4, q5⟩
/-- a rank at which he is -/
theorem pIn_y {B2 : Nat → Int} (h : ∀ c, c < 81 → pIn n k f w B R c (B1 c)) (hR : R < 4) (hw : 0 < w R) (hd : dg f R < dg n R) {v : Int} (hv : v = B f + cdI n R k (dg f R) (w R)) (hm : (B2 (f + 3 ^ R) = B1 (f + 3 ^ R) ∧ B1 (f + 3 ^ R) ≤ v) ∨ (B2 (f + 3 ^ R) = v ∧ v ≤ B1 (f + 3 ^ R))) (ho : ∀ c, c ≠ f + 3 ^ R → B2 c = B1 c) : ∀ c, c < 81 → pIn n k f w B (R + 1) c (B2 c) := fun c hc => by
  by_cases e : c = f + 3 ^ R
  · have old : B1 c = B c := by
      rcases h c hc with ⟨r, h1, h2, h3, h4, h5, h6⟩ | ⟨h1, h2⟩
      · exfalso
        have := p3_u h2 hR (h3.symm.trans e)
        omega
      · exact h2
    rw [← e, old] at hm
    exact Or.inl ⟨R, Nat.lt_succ_self R, hR, e, hw, hd, by rw [← hv]; exact hm⟩
  · rw [ho c e]
    rcases h c hc with ⟨r, h1, h2, h3, h4, h5, h6⟩ | ⟨h1, h2⟩
    · exact Or.inl ⟨r, by omega, h2, h3, h4, h5, h6⟩
    · refine Or.inr ⟨fun ⟨r, q1, q2, q3, q4, q5⟩ => ?_, h2⟩
      by_cases e2 : r = R
      · subst e2
        exact e q3
      · exact h1 ⟨r, by omega, q2, q3, q4, q5⟩
/-- what stands where f stands isn't touched -/
theorem pIn_f (h : pIn n k f w B R f (B1 f)) : B1 f = B f := by
  rcases h with ⟨r, h1, h2, h3, -⟩ | ⟨-, h2⟩
  · exfalso
    have : 0 < 3 ^ r := Nat.pow_pos (by decide)
    omega
  · exact h2
theorem WF_80 (hc : c < 81) (h : Mn (Way n W k c) x) : Mn (WayF n W k 80 c) x := by
  have e : ∀ y, WayF n W k 80 c y ↔ Way n W k c y := fun y => ⟨fun h => by
    rcases h with h | ⟨r, c', h1, h2, h3, -⟩
    · exact h
    · exfalso
      have p3 : 0 < 3 ^ r := Nat.pow_pos (by decide)
      omega, Or.inl⟩
  rcases h with ⟨h1, h2⟩ | ⟨h1, h2⟩
  · exact Or.inl ⟨h1, fun y q => h2 y ((e y).mp q)⟩
  · exact Or.inr ⟨(e x).mpr h1, fun y q => h2 y ((e y).mp q)⟩
theorem WF_e (h : Mn (WayF n W k (-1) c) x) : Mn (Way n W (k + 1) c) x := by
  have e : ∀ y, WayF n W k (-1) c y ↔ Way n W (k + 1) c y := fun y => ⟨fun h => by
    rcases h with h | ⟨r, c', h1, h2, h3⟩
    · exact Or.inl h
    · exact Or.inr ⟨r, c', h1, h3⟩, fun h => by
    rcases h with h | ⟨r, c', h1, h3⟩
    · exact Or.inl h
    · exact Or.inr ⟨r, c', h1, by omega, h3⟩⟩
  rcases h with ⟨h1, h2⟩ | ⟨h1, h2⟩
  · exact Or.inl ⟨h1, fun y q => h2 y ((e y).mpr q)⟩
  · exact Or.inr ⟨(e x).mp h1, fun y q => h2 y ((e y).mpr q)⟩
/-- at f itself nothing more has come -/
theorem WF_f {g : Int} (hg : (f : Int) ≤ g) (h : Mn (WayF n W k g f) x) : Mn (Way n W k f) x := by
  have e : ∀ y, WayF n W k g f y ↔ Way n W k f y := fun y => ⟨fun h => by
    rcases h with h | ⟨r, c', h1, h2, h3, -⟩
    · exact h
    · exfalso
      have p3 : 0 < 3 ^ r := Nat.pow_pos (by decide)
      omega, Or.inl⟩
  rcases h with ⟨h1, h2⟩ | ⟨h1, h2⟩
  · exact Or.inl ⟨h1, fun y q => h2 y ((e y).mpr q)⟩
  · exact Or.inr ⟨(e x).mp h1, fun y q => h2 y ((e y).mpr q)⟩
theorem Mn_no (hW : ∀ k r, W k r ≤ 9999) (hk : k ≤ 12) (h : Mn (Way n W k c) x) : (x = NOW ∧ ∀ y, ¬ Way n W k c y) ∨ (0 ≤ x ∧ x ≤ 844424930131968 ∧ Way n W k c x ∧ ∀ y, Way n W k c y → x ≤ y) := by
  rcases h with h | ⟨h1, h2⟩
  · exact Or.inl h
  · have b := Way_b hW k c x hk h1
    exact Or.inr ⟨b.1, by omega, h1, h2⟩
/-- none stands at f: nothing comes of it -/
theorem WF_n {g : Int} (hg : g = (f : Int) - 1) (hf : ∀ y, ¬ Way n W k f y) (h : Mn (WayF n W k (f : Int) c) x) : Mn (WayF n W k g c) x := by
  have e : ∀ y, WayF n W k g c y ↔ WayF n W k (f : Int) c y := fun y => ⟨fun h => by
    rcases h with h | ⟨r, c', h1, h2, h3, h4, h5, h6⟩
    · exact Or.inl h
    · by_cases q : c' = f
      · rw [q] at h6
        exact absurd h6 (hf _)
      · exact Or.inr ⟨r, c', h1, by omega, h3, h4, h5, h6⟩, fun h => by
    rcases h with h | ⟨r, c', h1, h2, h3⟩
    · exact Or.inl h
    · exact Or.inr ⟨r, c', h1, by omega, h3⟩⟩
  rcases h with ⟨h1, h2⟩ | ⟨h1, h2⟩
  · exact Or.inl ⟨h1, fun y q => h2 y ((e y).mp q)⟩
  · exact Or.inr ⟨(e x).mpr h1, fun y q => h2 y ((e y).mp q)⟩
/-- he is placed from f on -/
theorem WF_p {g : Int} (hg : g = (f : Int) - 1) (hW : ∀ k r, 0 ≤ W k r ∧ W k r ≤ 9999) (hk : k < 12) (hf : Way n W k f (B f)) (hfm : ∀ y, Way n W k f y → B f ≤ y) (hc : Mn (WayF n W k (f : Int) c) (B c)) (hp : pIn n k f (W k) B 4 c y) : Mn (WayF n W k g c) y := by
  have up : ∀ z, WayF n W k (f : Int) c z → WayF n W k g c z := fun z h => by
    rcases h with h | ⟨r, c', h1, h2, h3⟩
    · exact Or.inl h
    · exact Or.inr ⟨r, c', h1, by omega, h3⟩
  have bf := Way_b (fun k r => (hW k r).2) k f _ (by omega) hf
  rcases hp with ⟨r, -, h2, h3, h4, h5, h6⟩ | ⟨h1, h2⟩
  · have me : WayF n W k g c (B f + cdI n r k (dg f r) (W k r)) := Or.inr ⟨r, f, h2, by omega, h3, h4, h5, by rw [Int.add_sub_cancel]; exact hf⟩
    have cb : B f + cdI n r k (dg f r) (W k r) < 1152921504606846976 := by
      have b := Way_b (W := W) (fun k r => (hW k r).2) (k + 1) c (B f + cdI n r k (dg f r) (W k r)) (by omega) (Or.inr ⟨r, f, h2, h3, h4, h5, by rw [Int.add_sub_cancel]; exact hf⟩)
      omega
    have low : ∀ z, WayF n W k g c z → B c ≤ z ∨ B f + cdI n r k (dg f r) (W k r) ≤ z := fun z hz => by
      have old : WayF n W k (f : Int) c z → B c ≤ z := fun q => by
        rcases hc with ⟨-, c2⟩ | ⟨-, c2⟩
        · exact absurd q (c2 z)
        · exact c2 z q
      rcases hz with hz | ⟨r', c', q1, q2, q3, q4, q5, q6⟩
      · exact Or.inl (old (Or.inl hz))
      · by_cases e : c' = f
        · subst e
          have er := p3_u q1 h2 (q3.symm.trans h3)
          subst er
          have := hfm _ q6
          exact Or.inr (by omega)
        · exact Or.inl (old (Or.inr ⟨r', c', q1, by omega, q3, q4, q5, q6⟩))
    rcases h6 with ⟨h6, h7⟩ | ⟨h6, h7⟩
    · rw [h6]
      rcases hc with ⟨c1, -⟩ | ⟨c1, -⟩
      · omega
      · refine Or.inr ⟨up _ c1, fun z hz => ?_⟩
        have := low z hz
        omega
    · rw [h6]
      refine Or.inr ⟨me, fun z hz => ?_⟩
      have := low z hz
      omega
  · rw [h2]
    have e : ∀ z, WayF n W k g c z ↔ WayF n W k (f : Int) c z := fun z => ⟨fun h => by
      rcases h with h | ⟨r, c', q1, q2, q3, q4, q5, q6⟩
      · exact Or.inl h
      · by_cases q : c' = f
        · subst q
          exact absurd ⟨r, q1, q1, q3, q4, q5⟩ h1
        · exact Or.inr ⟨r, c', q1, by omega, q3, q4, q5, q6⟩, up z⟩
    rcases hc with ⟨g1, g2⟩ | ⟨g1, g2⟩
    · exact Or.inl ⟨g1, fun z q => g2 z ((e z).mp q)⟩
    · exact Or.inr ⟨(e _).mpr g1, fun z q => g2 z ((e z).mp q)⟩
/-- ways look at the first k men alone -/
theorem Way_c : ∀ {k : Nat}, (∀ j, j < k → W j = W2 j) → ∀ c x, Way n W k c x ↔ Way n W2 k c x := by
  intro k
  induction k with
  | zero => intro _ c x; exact Iff.rfl
  | succ k ih =>
    intro h c x
    have i := ih (fun j hj => h j (by omega))
    have e := h k (by omega)
    constructor
    · rintro (q | ⟨r, c', h1, h2, h3, h4, h5⟩)
      · exact Or.inl ((i c x).mp q)
      · rw [e] at h3 h5
        exact Or.inr ⟨r, c', h1, h2, h3, h4, (i _ _).mp h5⟩
    · rintro (q | ⟨r, c', h1, h2, h3, h4, h5⟩)
      · exact Or.inl ((i c x).mpr q)
      · rw [← e] at h3 h5
        exact Or.inr ⟨r, c', h1, h2, h3, h4, (i _ _).mpr h5⟩
theorem Mn_c (h : ∀ j, j < k → W j = W2 j) (g : Mn (Way n W k c) x) : Mn (Way n W2 k c) x := by
  have i := Way_c (n := n) h c
  rcases g with ⟨g1, g2⟩ | ⟨g1, g2⟩
  · exact Or.inl ⟨g1, fun y q => g2 y ((i y).mpr q)⟩
  · exact Or.inr ⟨(i x).mp g1, fun y q => g2 y ((i y).mpr q)⟩
theorem Mn_0 (hx : (c = 0 ∧ x = 0) ∨ (c ≠ 0 ∧ x = 1152921504606846976)) : Mn (Way n W 0 c) x := by
  rcases hx with ⟨h1, h2⟩ | ⟨h1, h2⟩
  · exact Or.inr ⟨⟨h1, h2⟩, fun y q => by have := q.2; omega⟩
  · exact Or.inl ⟨h2, fun y q => h1 q.1⟩
end
/-- the wage's bits, and the number's -/
theorem sh_w {x : Int32} (h : 0 ≤ x.toInt ∧ x.toInt ≤ 9999) : (x.toInt64 <<< (((32 : Int32).toInt64) &&& 63)).toInt = x.toInt * 4294967296 := by
  have e := sl_i (x := x.toInt64) (s := ((32 : Int32).toInt64) &&& 63) (n := 32) (by decide) (by decide) (by rw [Int32.toInt_toInt64]; exact h.1) (by rw [Int32.toInt_toInt64, show (2 : Int) ^ 32 = 4294967296 by decide]; omega)
  rw [e, Int32.toInt_toInt64, show (2 : Int) ^ 32 = 4294967296 by decide]
theorem sh_p {s : Int32} {p : Nat} (hp : p < 8) (hs : s.toInt = (7 - (p : Int)) * 4) : (s.toInt64 &&& 63).toBitVec.smod 64 = BitVec.ofNat 64 (4 * (7 - p)) := by
  have k : ∀ c : Int32, s.toInt = c.toInt → s = c := fun c e => Int32.toInt_inj.mp e
  have q : p = 0 ∨ p = 1 ∨ p = 2 ∨ p = 3 ∨ p = 4 ∨ p = 5 ∨ p = 6 ∨ p = 7 := by omega
  rcases q with rfl | rfl | rfl | rfl | rfl | rfl | rfl | rfl
  · rw [k 28 (by rw [hs]; decide)]; decide
  · rw [k 24 (by rw [hs]; decide)]; decide
  · rw [k 20 (by rw [hs]; decide)]; decide
  · rw [k 16 (by rw [hs]; decide)]; decide
  · rw [k 12 (by rw [hs]; decide)]; decide
  · rw [k 8 (by rw [hs]; decide)]; decide
  · rw [k 4 (by rw [hs]; decide)]; decide
  · rw [k 0 (by rw [hs]; decide)]; decide
theorem p2_16 {p : Nat} : ∀ m : Nat, (2 : Nat) ^ (4 * m) = 16 ^ m := fun m => by rw [Nat.pow_mul]
theorem sh_k {x s : Int32} {p : Nat} (hp : p < 8) (hs : s.toInt = (7 - (p : Int)) * 4) (hx : 0 ≤ x.toInt ∧ x.toInt ≤ 12) : (x.toInt64 <<< (s.toInt64 &&& 63)).toInt = x.toInt * 16 ^ (7 - p) ∧ 0 ≤ x.toInt * (16 : Int) ^ (7 - p) ∧ x.toInt * (16 : Int) ^ (7 - p) ≤ 3221225472 := by
  have e2 : (2 : Int) ^ (4 * (7 - p)) = 16 ^ (7 - p) := by
    have := p2_16 (p := p) (7 - p)
    rw [← i16, ← this, Int.natCast_pow]
    rfl
  have q : (16 : Int) ^ (7 - p) ≤ 268435456 := by
    rw [← i16]
    have := Nat.pow_le_pow_right (show 0 < 16 by decide) (show 7 - p ≤ 7 by omega)
    have z : (16 : Nat) ^ 7 = 268435456 := by decide
    omega
  have q0 := p16 (7 - p)
  have m0 : 0 ≤ x.toInt * (16 : Int) ^ (7 - p) := Int.mul_nonneg hx.1 (Int.le_of_lt q0)
  have m1 : x.toInt * (16 : Int) ^ (7 - p) ≤ 12 * 268435456 := Int.mul_le_mul hx.2 q (Int.le_of_lt q0) (by decide)
  refine ⟨?_, m0, by omega⟩
  have e := sl_i (x := x.toInt64) (sh_p hp hs) (by omega) (by rw [Int32.toInt_toInt64]; exact hx.1) (by rw [Int32.toInt_toInt64, e2]; omega)
  rw [e, Int32.toInt_toInt64, e2]
theorem la_i {a b : Int64} (h0 : -9223372036854775808 ≤ a.toInt + b.toInt) (h1 : a.toInt + b.toInt ≤ 9223372036854775807) : (a + b).toInt = a.toInt + b.toInt := by
  rw [Int64.toInt_add]
  exact Int.bmod_eq_of_le (by omega) (by omega)
theorem sr_p {x : Int64} {s : Int32} {p : Nat} (hp : p < 8) (hs : s.toInt = (7 - (p : Int)) * 4) : (x >>> (s.toInt64 &&& 63)).toInt = x.toInt / 16 ^ (7 - p) := by
  rw [sr_i (sh_p hp hs) (by omega), p2_16 (p := p), i16]
theorem sr_w {x : Int64} : (x >>> (((32 : Int32).toInt64) &&& 63)).toInt = x.toInt / 4294967296 := by
  rw [sr_i (n := 32) (by decide) (by decide)]
  rfl
