

/-- how many hands of a rank a number asks for; the first place of a rank; all places -/
def dg (c r : Nat) : Nat := c / 3 ^ r % 3
def fpl (n r : Nat) : Nat := match r with
  | 0 => 0
  | 1 => dg n 0
  | 2 => dg n 0 + dg n 1
  | _ => dg n 0 + dg n 1 + dg n 2
def hnd (n : Nat) : Nat := dg n 0 + dg n 1 + dg n 2 + dg n 3
/-- the rank of a place -/
def rkp (n p : Nat) : Nat := if p < fpl n 1 then 0 else if p < fpl n 2 then 1 else if p < fpl n 3 then 2 else 3
theorem dg_le {c r : Nat} : dg c r ≤ 2 := by
  have := Nat.mod_lt (c / 3 ^ r) (show 0 < 3 by decide)
  unfold dg
  omega
theorem r4 {r : Nat} (h : r < 4) : r = 0 ∨ r = 1 ∨ r = 2 ∨ r = 3 := by omega
theorem dg_v (c : Nat) : dg c 0 = c % 3 ∧ dg c 1 = c / 3 % 3 ∧ dg c 2 = c / 9 % 3 ∧ dg c 3 = c / 27 % 3 := by
  unfold dg
  refine ⟨?_, ?_, ?_, ?_⟩
  · rw [show (3 : Nat) ^ 0 = 1 by decide, Nat.div_one]
  · rw [show (3 : Nat) ^ 1 = 3 by decide]
  · rw [show (3 : Nat) ^ 2 = 9 by decide]
  · rw [show (3 : Nat) ^ 3 = 27 by decide]
/-- one more of a rank -/
theorem dg_add {c r : Nat} (hr : r < 4) (h : dg c r < 2) : dg (c + 3 ^ r) r = dg c r + 1 ∧ ∀ q, q < 4 → q ≠ r → dg (c + 3 ^ r) q = dg c q := by
  have v1 := dg_v c
  have v2 := dg_v (c + 3 ^ r)
  have p0 : (3 : Nat) ^ 0 = 1 := by decide
  have p1 : (3 : Nat) ^ 1 = 3 := by decide
  have p2 : (3 : Nat) ^ 2 = 9 := by decide
  have p3 : (3 : Nat) ^ 3 = 27 := by decide
  rcases r4 hr with rfl | rfl | rfl | rfl
  · rw [p0] at v2 ⊢
    refine ⟨by omega, fun q hq hn => ?_⟩
    rcases r4 hq with rfl | rfl | rfl | rfl <;> omega
  · rw [p1] at v2 ⊢
    refine ⟨by omega, fun q hq hn => ?_⟩
    rcases r4 hq with rfl | rfl | rfl | rfl <;> omega
  · rw [p2] at v2 ⊢
    refine ⟨by omega, fun q hq hn => ?_⟩
    rcases r4 hq with rfl | rfl | rfl | rfl <;> omega
  · rw [p3] at v2 ⊢
    refine ⟨by omega, fun q hq hn => ?_⟩
    rcases r4 hq with rfl | rfl | rfl | rfl <;> omega
theorem dg_sub {c r : Nat} (hr : r < 4) (h : 0 < dg c r) : ∃ c', c = c' + 3 ^ r ∧ dg c r = dg c' r + 1 ∧ ∀ q, q < 4 → q ≠ r → dg c q = dg c' q := by
  have v1 := dg_v c
  have p0 : (3 : Nat) ^ 0 = 1 := by decide
  have p1 : (3 : Nat) ^ 1 = 3 := by decide
  have p2 : (3 : Nat) ^ 2 = 9 := by decide
  have p3 : (3 : Nat) ^ 3 = 27 := by decide
  have hp : 3 ^ r ≤ c := by
    rcases r4 hr with rfl | rfl | rfl | rfl
    · rw [p0]; omega
    · rw [p1]; omega
    · rw [p2]; omega
    · rw [p3]; omega
  have key : dg (c - 3 ^ r) r < 2 := by
    have v2 := dg_v (c - 3 ^ r)
    rcases r4 hr with rfl | rfl | rfl | rfl
    · rw [p0] at v2 ⊢; omega
    · rw [p1] at v2 ⊢; omega
    · rw [p2] at v2 ⊢; omega
    · rw [p3] at v2 ⊢; omega
  have e : c = (c - 3 ^ r) + 3 ^ r := by omega
  have a := dg_add hr key
  rw [← e] at a
  exact ⟨c - 3 ^ r, e, a.1, a.2⟩
theorem dg_0 {c : Nat} (hc : c < 81) (h : ∀ r, r < 4 → dg c r = 0) : c = 0 := by
  have v := dg_v c
  have h0 := h 0 (by decide)
  have h1 := h 1 (by decide)
  have h2 := h 2 (by decide)
  have h3 := h 3 (by decide)
  omega
/-- what a man at a place costs: his wage, and his number at the place's bits -/
def cdI (n r k d : Nat) (w : Int) : Int := w * 4294967296 + (k : Int) * 16 ^ (7 - (fpl n r + d))
/-- the ways to fill c with the first k men, by what they come to -/
def Way (n : Nat) (W : Nat → Nat → Int) : Nat → Nat → Int → Prop
  | 0, c, x => c = 0 ∧ x = 0
  | k + 1, c, x => Way n W k c x ∨ ∃ r c', r < 4 ∧ c = c' + 3 ^ r ∧ 0 < W k r ∧ dg c' r < dg n r ∧ Way n W k c' (x - cdI n r k (dg c' r) (W k r))
/-- hands: who fills the places of c, of the first k men -/
def PV (n : Nat) (W : Nat → Nat → Int) (k c : Nat) (b : Nat → Nat → Nat) : Prop := (∀ r, r < 4 → dg c r ≤ dg n r) ∧ (∀ r j, r < 4 → j < dg c r → b r j < k ∧ 0 < W (b r j) r) ∧ (∀ r j r' j', r < 4 → j < dg c r → r' < 4 → j' < dg c r' → b r j = b r' j' → r = r' ∧ j = j') ∧ ∀ r, r < 4 → 1 < dg c r → b r 0 < b r 1
def tm (n : Nat) (W : Nat → Nat → Int) (b : Nat → Nat → Nat) (r j : Nat) : Int := cdI n r (b r j) j (W (b r j) r)
def smI (g : Nat → Int) : Nat → Int
  | 0 => 0
  | n + 1 => smI g n + g n
def cdS (n : Nat) (W : Nat → Nat → Int) (c : Nat) (b : Nat → Nat → Nat) : Int := smI (tm n W b 0) (dg c 0) + smI (tm n W b 1) (dg c 1) + smI (tm n W b 2) (dg c 2) + smI (tm n W b 3) (dg c 3)
theorem smI_c {g g2 : Nat → Int} : ∀ {n : Nat}, (∀ j, j < n → g j = g2 j) → smI g n = smI g2 n := by
  intro n
  induction n with
  | zero => intro _; rfl
  | succ n ih =>
    intro h
    unfold smI
    rw [ih (fun j hj => h j (by omega)), h n (by omega)]
/-- the sum of c is that of c' and the term more -/
theorem cdS_add {n c c' r : Nat} {W : Nat → Nat → Int} {b : Nat → Nat → Nat} (hr : r < 4) (h1 : dg c r = dg c' r + 1) (h2 : ∀ q, q < 4 → q ≠ r → dg c q = dg c' q) : cdS n W c b = cdS n W c' b + tm n W b r (dg c' r) := by
  unfold cdS
  rcases r4 hr with rfl | rfl | rfl | rfl
  · rw [h1, h2 1 (by decide) (by decide), h2 2 (by decide) (by decide), h2 3 (by decide) (by decide)]
    show (smI (tm n W b 0) (dg c' 0) + tm n W b 0 (dg c' 0)) + _ + _ + _ = _
    omega
  · rw [h1, h2 0 (by decide) (by decide), h2 2 (by decide) (by decide), h2 3 (by decide) (by decide)]
    show _ + (smI (tm n W b 1) (dg c' 1) + tm n W b 1 (dg c' 1)) + _ + _ = _
    omega
  · rw [h1, h2 0 (by decide) (by decide), h2 1 (by decide) (by decide), h2 3 (by decide) (by decide)]
    show _ + _ + (smI (tm n W b 2) (dg c' 2) + tm n W b 2 (dg c' 2)) + _ = _
    omega
  · rw [h1, h2 0 (by decide) (by decide), h2 1 (by decide) (by decide), h2 2 (by decide) (by decide)]
    show _ + _ + _ + (smI (tm n W b 3) (dg c' 3) + tm n W b 3 (dg c' 3)) = _
    omega
/-- one place more -/
def upB (b : Nat → Nat → Nat) (r j k : Nat) : Nat → Nat → Nat := fun r' j' => if r' = r ∧ j' = j then k else b r' j'
theorem upB_e {b : Nat → Nat → Nat} {r j k : Nat} : upB b r j k r j = k := if_pos ⟨rfl, rfl⟩
theorem upB_n {b : Nat → Nat → Nat} {r j k r' j' : Nat} (h : ¬ (r' = r ∧ j' = j)) : upB b r j k r' j' = b r' j' := if_neg h
theorem cdS_c {n c : Nat} {W : Nat → Nat → Int} {b b2 : Nat → Nat → Nat} (h : ∀ r j, r < 4 → j < dg c r → b r j = b2 r j) : cdS n W c b = cdS n W c b2 := by
  unfold cdS
  rw [smI_c (fun j hj => show tm n W b 0 j = tm n W b2 0 j by unfold tm; rw [h 0 j (by decide) hj]), smI_c (fun j hj => show tm n W b 1 j = tm n W b2 1 j by unfold tm; rw [h 1 j (by decide) hj]), smI_c (fun j hj => show tm n W b 2 j = tm n W b2 2 j by unfold tm; rw [h 2 j (by decide) hj]), smI_c (fun j hj => show tm n W b 3 j = tm n W b2 3 j by unfold tm; rw [h 3 j (by decide) hj])]
/-- each way is a hand's -/
theorem Way_PV {n : Nat} {W : Nat → Nat → Int} : ∀ k c x, c < 81 → Way n W k c x → ∃ b, PV n W k c b ∧ x = cdS n W c b := by
  intro k
  induction k with
  | zero =>
    intro c x _ h
    obtain ⟨h1, h2⟩ := h
    have z : ∀ r, r < 4 → dg c r = 0 := fun r hr => by
      have v := dg_v 0
      rw [h1]
      rcases r4 hr with rfl | rfl | rfl | rfl <;> omega
    refine ⟨fun _ _ => 0, ⟨fun r hr => by rw [z r hr]; exact Nat.zero_le _, fun r j hr hj => by rw [z r hr] at hj; omega, fun r j r' j' hr hj => by rw [z r hr] at hj; omega, fun r hr hj => by rw [z r hr] at hj; omega⟩, ?_⟩
    unfold cdS
    rw [z 0 (by decide), z 1 (by decide), z 2 (by decide), z 3 (by decide), h2]
    rfl
  | succ k ih =>
    intro c x hc h
    rcases h with h | ⟨r, c', hr, ec, hw, hd, h⟩
    · obtain ⟨b, ⟨b1, b2, b3, b4⟩, hx⟩ := ih c x hc h
      exact ⟨b, ⟨b1, fun r j hr hj => ⟨Nat.lt_succ_of_lt (b2 r j hr hj).1, (b2 r j hr hj).2⟩, b3, b4⟩, hx⟩
    · have hg : dg n r ≤ 2 := dg_le
      have hp : 0 < 3 ^ r := Nat.pow_pos (by decide)
      obtain ⟨b, ⟨b1, b2, b3, b4⟩, hx⟩ := ih c' _ (by omega) h
      obtain ⟨a1, a2⟩ := dg_add hr (show dg c' r < 2 by omega)
      rw [← ec] at a1 a2
      have old : ∀ r' j', r' < 4 → j' < dg c r' → ¬ (r' = r ∧ j' = dg c' r) → j' < dg c' r' := fun r' j' hr' hj' hn => by
        by_cases q : r' = r
        · subst q
          omega
        · rw [a2 r' hr' q] at hj'
          exact hj'
      refine ⟨upB b r (dg c' r) k, ⟨fun q hq => ?_, fun r' j' hr' hj' => ?_, fun r1 j1 r2 j2 h1 g1 h2 g2 e => ?_, fun q hq hj => ?_⟩, ?_⟩
      · by_cases e : q = r
        · rw [e, a1]; omega
        · rw [a2 q hq e]; exact b1 q hq
      · by_cases q : r' = r ∧ j' = dg c' r
        · rw [q.1, q.2, upB_e]
          exact ⟨Nat.lt_succ_self k, hw⟩
        · rw [upB_n q]
          have g := b2 r' j' hr' (old r' j' hr' hj' q)
          exact ⟨Nat.lt_succ_of_lt g.1, g.2⟩
      · by_cases q1 : r1 = r ∧ j1 = dg c' r
        · by_cases q2 : r2 = r ∧ j2 = dg c' r
          · exact ⟨q1.1.trans q2.1.symm, q1.2.trans q2.2.symm⟩
          · rw [q1.1, q1.2, upB_e, upB_n q2] at e
            have g := (b2 r2 j2 h2 (old r2 j2 h2 g2 q2)).1
            omega
        · by_cases q2 : r2 = r ∧ j2 = dg c' r
          · rw [q2.1, q2.2, upB_e, upB_n q1] at e
            have g := (b2 r1 j1 h1 (old r1 j1 h1 g1 q1)).1
            omega
          · rw [upB_n q1, upB_n q2] at e
            exact b3 r1 j1 r2 j2 h1 (old r1 j1 h1 g1 q1) h2 (old r2 j2 h2 g2 q2) e
      · by_cases e : q = r
        · subst e
          have hd' : dg c' q = 1 := by omega
          rw [hd', upB_e, upB_n (by omega)]
          exact (b2 q 0 hq (by omega)).1
        · rw [upB_n (fun z => e z.1), upB_n (fun z => e z.1)]
          exact b4 q hq (by rw [a2 q hq e] at hj; exact hj)
      · rw [cdS_add hr a1 a2, cdS_c (b2 := b) (fun r' j' hr' hj' => upB_n (fun z => by rw [z.1, z.2] at hj'; omega))]
        unfold tm
        rw [upB_e]
        omega
/-- each hand is a way -/
theorem PV_Way {n : Nat} {W : Nat → Nat → Int} : ∀ k c b, c < 81 → PV n W k c b → Way n W k c (cdS n W c b) := by
  intro k
  induction k with
  | zero =>
    intro c b hc h
    obtain ⟨b1, b2, b3, b4⟩ := h
    have z : ∀ r, r < 4 → dg c r = 0 := fun r hr => by
      by_cases q : 0 < dg c r
      · exact absurd (b2 r 0 hr q).1 (Nat.not_lt_zero _)
      · omega
    refine ⟨dg_0 hc z, ?_⟩
    unfold cdS
    rw [z 0 (by decide), z 1 (by decide), z 2 (by decide), z 3 (by decide)]
    rfl
  | succ k ih =>
    intro c b hc h
    obtain ⟨b1, b2, b3, b4⟩ := h
    by_cases q : ∃ r j, r < 4 ∧ j < dg c r ∧ b r j = k
    · obtain ⟨r, j, hr, hj, e⟩ := q
      obtain ⟨c', ec, a1, a2⟩ := dg_sub hr (show 0 < dg c r by omega)
      have hg : dg n r ≤ 2 := dg_le
      have hd := b1 r hr
      -- he is the last of his rank
      have hl : j = dg c' r := by
        have h2 : dg c r ≤ 2 := dg_le
        by_cases q0 : j + 1 = dg c r
        · omega
        · exfalso
          have hj0 : j = 0 := by omega
          have h1 : 1 < dg c r := by omega
          have g := b4 r hr h1
          have g2 := (b2 r 1 hr h1).1
          rw [hj0] at e
          omega
      have hp : 0 < 3 ^ r := Nat.pow_pos (by decide)
      have lt : ∀ r' j', r' < 4 → j' < dg c' r' → j' < dg c r' := fun r' j' hr' hj' => by
        by_cases e2 : r' = r
        · rw [e2] at hj' ⊢; omega
        · rw [a2 r' hr' e2]; exact hj'
      have pv : PV n W k c' b := by
        refine ⟨fun q hq => ?_, fun r' j' hr' hj' => ?_, fun r1 j1 r2 j2 h1 g1 h2 g2 e => b3 r1 j1 r2 j2 h1 (lt r1 j1 h1 g1) h2 (lt r2 j2 h2 g2) e, fun q hq hj => b4 q hq (lt q 1 hq hj)⟩
        · by_cases e2 : q = r
          · rw [e2]; omega
          · rw [← a2 q hq e2]; exact b1 q hq
        · have g := b2 r' j' hr' (lt r' j' hr' hj')
          refine ⟨?_, g.2⟩
          have ne : b r' j' ≠ k := fun e2 => by
            have z := b3 r' j' r j hr' (lt r' j' hr' hj') hr hj (e2.trans e.symm)
            rw [z.1, z.2] at hj'
            omega
          omega
      have w := ih c' b (by omega) pv
      refine Or.inr ⟨r, c', hr, ec, ?_, by omega, ?_⟩
      · have g := (b2 r j hr hj).2
        rw [e] at g
        exact g
      · rw [cdS_add hr a1 a2]
        have et : tm n W b r (dg c' r) = cdI n r k (dg c' r) (W k r) := by
          unfold tm
          rw [← hl, e]
        rw [et, Int.add_sub_cancel]
        exact w
    · refine Or.inl (ih c b hc ⟨b1, fun r j hr hj => ⟨?_, (b2 r j hr hj).2⟩, b3, b4⟩)
      have g := (b2 r j hr hj).1
      have ne : b r j ≠ k := fun e => q ⟨r, j, hr, hj, e⟩
      omega
/-- the least of some numbers, or none -/
def Mn (P : Int → Prop) (x : Int) : Prop := (x = 1152921504606846976 ∧ ∀ y, ¬ P y) ∨ (P x ∧ ∀ y, P y → x ≤ y)
theorem Way_b {n : Nat} {W : Nat → Nat → Int} (hW : ∀ k r, W k r ≤ 9999) : ∀ k c x, k ≤ 12 → Way n W k c x → 0 ≤ x ∧ x ≤ (k : Int) * 70368744177664 := by
  intro k
  induction k with
  | zero =>
    intro c x _ h
    obtain ⟨-, h2⟩ := h
    omega
  | succ k ih =>
    intro c x hk h
    rcases h with h | ⟨r, c', hr, ec, hw, hd, h⟩
    · have := ih c x (by omega) h
      omega
    · have g := ih c' _ (by omega) h
      have w := hW k r
      have e : cdI n r k (dg c' r) (W k r) = W k r * 4294967296 + (k : Int) * 16 ^ (7 - (fpl n r + dg c' r)) := rfl
      have p0 : (0 : Int) ≤ 16 ^ (7 - (fpl n r + dg c' r)) := Int.pow_nonneg (by decide)
      have p1 : (16 : Int) ^ (7 - (fpl n r + dg c' r)) ≤ 16 ^ 7 := by
        have := Nat.pow_le_pow_right (show 0 < 16 by decide) (show 7 - (fpl n r + dg c' r) ≤ 7 by omega)
        have e2 : ∀ m : Nat, ((16 ^ m : Nat) : Int) = (16 : Int) ^ m := fun m => by rw [Int.natCast_pow]; rfl
        rw [← e2, ← e2]
        exact Int.ofNat_le.mpr this
      have p2 : (k : Int) * 16 ^ (7 - (fpl n r + dg c' r)) ≤ 12 * 16 ^ 7 := Int.mul_le_mul (by omega) p1 p0 (by decide)
      have p3 : (0 : Int) ≤ (k : Int) * 16 ^ (7 - (fpl n r + dg c' r)) := Int.mul_nonneg (by omega) p0
      have p4 : (16 : Int) ^ 7 = 268435456 := by decide
      rw [p4] at p2
      omega
