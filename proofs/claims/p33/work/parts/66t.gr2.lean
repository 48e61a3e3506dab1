


theorem dv_m {B q X r : Int} (e : B = q * X + r) (h0 : 0 ≤ r) (h1 : r < X) : B / X = q := by
  rw [e, Int.add_comm, Int.add_mul_ediv_right _ _ (by omega), Int.ediv_eq_zero_of_lt h0 h1, Int.zero_add]
theorem pc_hi {b : Nat → Nat} {p : Nat} : ∀ {d : Nat}, (∀ q, q < p + d → b q < 16) → ∃ low, low < 16 ^ d ∧ pc b (p + d) = pc b p * 16 ^ d + low := by
  intro d
  induction d with
  | zero => intro _; exact ⟨0, by decide, by rw [Nat.pow_zero, Nat.mul_one]; rfl⟩
  | succ d ih =>
    intro g
    obtain ⟨low, l1, l2⟩ := ih (fun q hq => g q (by omega))
    have g0 := g (p + d) (by omega)
    refine ⟨16 * low + b (p + d), by rw [Nat.pow_succ]; omega, ?_⟩
    show 16 * pc b (p + d) + b (p + d) = _
    rw [l2, Nat.pow_succ, ← Nat.mul_assoc]
    omega
theorem i16 (m : Nat) : ((16 ^ m : Nat) : Int) = (16 : Int) ^ m := by
  rw [Int.natCast_pow]
  rfl
theorem p16 (m : Nat) : (0 : Int) < 16 ^ m := by
  rw [← i16]
  exact Int.ofNat_lt.mpr (Nat.pow_pos (by decide))
/-- what stands at a place's bits; the sum above them -/
theorem nib {B s : Int} {b : Nat → Nat} {p H : Nat} (hp : p < H) (hH : H ≤ 8) (g : ∀ q, q < H → b q < 16) (e : B = s * 4294967296 + (pc b H : Int) * 16 ^ (8 - H)) : B / 16 ^ (7 - p) % 16 = (b p : Int) := by
  obtain ⟨d, rfl⟩ : ∃ d, H = (p + 1) + d := ⟨H - (p + 1), by omega⟩
  obtain ⟨low, l1, l2⟩ := pc_hi (b := b) (p := p + 1) (d := d) (fun q hq => g q hq)
  have g0 := g p (by omega)
  have e1 : (16 : Int) ^ (7 - p) = 16 ^ d * 16 ^ (8 - (p + 1 + d)) := by rw [← Int.pow_add, show d + (8 - (p + 1 + d)) = 7 - p by omega]
  have e2 : (4294967296 : Int) = 16 ^ p * 16 * 16 ^ (7 - p) := by
    rw [← Int.pow_succ, ← Int.pow_add, show p + 1 + (7 - p) = 8 by omega]
    decide
  have lX : (low : Int) * 16 ^ (8 - (p + 1 + d)) < 16 ^ (7 - p) := by
    rw [e1]
    exact Int.mul_lt_mul_of_pos_right (by rw [← i16]; exact Int.ofNat_lt.mpr l1) (p16 _)
  have l0 : (0 : Int) ≤ (low : Int) * 16 ^ (8 - (p + 1 + d)) := Int.mul_nonneg (by omega) (Int.le_of_lt (p16 _))
  have key : B = (s * (16 ^ p * 16) + (pc b (p + 1) : Int)) * 16 ^ (7 - p) + (low : Int) * 16 ^ (8 - (p + 1 + d)) := by
    rw [e, l2, e2, Int.natCast_add, Int.natCast_mul, i16, Int.add_mul, Int.add_mul, ← Int.mul_assoc s, e1, ← Int.mul_assoc (pc b (p + 1) : Int), Int.mul_assoc s]
    omega
  rw [dv_m key l0 lX]
  have e3 : (pc b (p + 1) : Int) = 16 * (pc b p : Int) + (b p : Int) := by
    show ((16 * pc b p + b p : Nat) : Int) = _
    omega
  rw [e3, ← Int.mul_assoc s]
  generalize s * 16 ^ p = Y
  omega
theorem hi_s {B s : Int} {b : Nat → Nat} {H : Nat} (hH : H ≤ 8) (g : ∀ q, q < H → b q < 16) (e : B = s * 4294967296 + (pc b H : Int) * 16 ^ (8 - H)) : B / 4294967296 = s := by
  refine dv_m e (Int.mul_nonneg (by omega) (Int.le_of_lt (p16 _))) ?_
  have l1 := pc_lt (h := H) g
  have e2 : (4294967296 : Int) = 16 ^ H * 16 ^ (8 - H) := by
    rw [← Int.pow_add, show H + (8 - H) = 8 by omega]
    decide
  rw [e2]
  exact Int.mul_lt_mul_of_pos_right (by rw [← i16]; exact Int.ofNat_lt.mpr l1) (p16 _)
/-- what both find is one -/
theorem cw_one {n M : Nat} {W : Nat → Nat → Int} {L B : Int} {b : Nat → Nat} (hn : n < 81) (hM : M ≤ 12) (hR : RS n M W 0 1 L b) (hB : Mn (Way n W M n) B) : (L = -9 ∧ B = 1152921504606846976) ∨ (0 ≤ L ∧ PR n M W (hnd n) b ∧ L = sw n W b (hnd n) ∧ B = L * 4294967296 + (pc b (hnd n) : Int) * 16 ^ (8 - hnd n)) := by
  have h8 := hnd_8 (n := n)
  have cd : ∀ c : Nat → Nat, PR n M W (hnd n) c → Way n W M n (sw n W c (hnd n) * 4294967296 + (pc c (hnd n) : Int) * 16 ^ (8 - hnd n)) := fun c hc => by
    have w := PV_Way M n _ hn (PR_PV hc)
    rw [cdS_P, smI_cd h8] at w
    exact w
  have dc : ∀ y, Way n W M n y → ∃ c, PR n M W (hnd n) c ∧ y = sw n W c (hnd n) * 4294967296 + (pc c (hnd n) : Int) * 16 ^ (8 - hnd n) := fun y hy => by
    obtain ⟨b2, p2, e2⟩ := Way_PV M n y hn hy
    refine ⟨_, PV_PR p2, ?_⟩
    rw [e2, ← smI_cd h8, ← cdS_P]
    refine cdS_c (fun r j hr hj => ?_)
    have q := pl_1 hr hj
    show b2 r j = b2 (rkp n (fpl n r + j)) (fpl n r + j - fpl n (rkp n (fpl n r + j)))
    rw [q.2, show fpl n r + j - fpl n r = j by omega]
  rcases hR with ⟨g1, g2⟩ | ⟨g1, g2, g3, g4, g5⟩
  · refine Or.inl ⟨g1, ?_⟩
    rcases hB with ⟨h1, -⟩ | ⟨h1, -⟩
    · exact h1
    · obtain ⟨c, hc, -⟩ := dc B h1
      exact absurd (show (0 : Nat) < 1 by decide) (g2 c hc)
  · refine Or.inr ⟨g1, g2, g4, ?_⟩
    rw [g4]
    rcases hB with ⟨-, h2⟩ | ⟨h1, h2⟩
    · exact absurd (cd b g2) (h2 _)
    · have le := h2 _ (cd b g2)
      obtain ⟨c, hc, ec⟩ := dc B h1
      have g := g5 c hc (show (0 : Nat) < 1 by decide)
      have lb := pc_lt (h := hnd n) (PR_16 hM g2)
      have lc := pc_lt (h := hnd n) (PR_16 hM hc)
      have X0 := p16 (8 - hnd n)
      have mb : (pc b (hnd n) : Int) * 16 ^ (8 - hnd n) < 4294967296 := by
        rw [show (4294967296 : Int) = 16 ^ hnd n * 16 ^ (8 - hnd n) by rw [← Int.pow_add, show hnd n + (8 - hnd n) = 8 by omega]; decide]
        exact Int.mul_lt_mul_of_pos_right (by rw [← i16]; exact Int.ofNat_lt.mpr lb) X0
      have m0 : (0 : Int) ≤ (pc c (hnd n) : Int) * 16 ^ (8 - hnd n) := Int.mul_nonneg (by omega) (Int.le_of_lt X0)
      rcases g with g | ⟨g, gp⟩
      · omega
      · have mm : (pc b (hnd n) : Int) * 16 ^ (8 - hnd n) ≤ (pc c (hnd n) : Int) * 16 ^ (8 - hnd n) := Int.mul_le_mul_of_nonneg_right (Int.ofNat_le.mpr gp) (Int.le_of_lt X0)
        omega
/-- shifts and masks of longs -/
theorem l_nn {x : Int64} (h0 : 0 ≤ x.toInt) : (x.toBitVec.toNat : Int) = x.toInt := by
  have c := BitVec.toInt_eq_toNat_cond x.toBitVec
  have l := x.toBitVec.isLt
  have e : x.toInt = x.toBitVec.toInt := rfl
  rw [e] at h0 ⊢
  split at c
  · omega
  · omega
theorem sl_i {x s : Int64} {n : Nat} (hs : s.toBitVec.smod 64 = BitVec.ofNat 64 n) (hn : n < 64) (h0 : 0 ≤ x.toInt) (h1 : x.toInt * 2 ^ n < 9223372036854775808) : (x <<< s).toInt = x.toInt * 2 ^ n := by
  show (x.toBitVec <<< (s.toBitVec.smod 64)).toInt = _
  rw [hs, BitVec.shiftLeft_eq', BitVec.toNat_ofNat, Nat.mod_eq_of_lt (by omega), BitVec.toInt_shiftLeft, Nat.shiftLeft_eq, Int.natCast_mul, l_nn h0, show ((2 ^ n : Nat) : Int) = 2 ^ n by rw [Int.natCast_pow]; rfl]
  have p : (0 : Int) ≤ x.toInt * 2 ^ n := Int.mul_nonneg h0 (Int.pow_nonneg (by decide))
  exact Int.bmod_eq_of_le (by omega) (by omega)
theorem sr_i {x s : Int64} {n : Nat} (hs : s.toBitVec.smod 64 = BitVec.ofNat 64 n) (hn : n < 64) : (x >>> s).toInt = x.toInt / ((2 ^ n : Nat) : Int) := by
  show (x.toBitVec.sshiftRight (s.toBitVec.smod 64).toNat).toInt = _
  rw [hs, BitVec.toNat_ofNat, Nat.mod_eq_of_lt (by omega), BitVec.toInt_sshiftRight, Int.shiftRight_eq_div_pow]
  rfl
theorem an_i {x : Int64} (h0 : 0 ≤ x.toInt) : (x &&& 15).toInt = x.toInt % 16 := by
  have e := l_nn h0
  have h : ((x &&& 15).toBitVec.toNat) = x.toBitVec.toNat % 16 := by
    show (x.toBitVec &&& 15#64).toNat = _
    rw [BitVec.toNat_and, show (15#64).toNat = 2 ^ 4 - 1 by decide, Nat.and_two_pow_sub_one_eq_mod]
  have c := BitVec.toInt_eq_toNat_cond (x &&& 15).toBitVec
  have e2 : (x &&& 15).toInt = (x &&& 15).toBitVec.toInt := rfl
  rw [e2]
  rw [h] at c
  have l := Nat.mod_lt x.toBitVec.toNat (show 0 < 16 by decide)
  rw [if_pos (by omega)] at c
  omega
theorem li_i {x : Int64} (h0 : -2147483648 ≤ x.toInt) (h1 : x.toInt ≤ 2147483647) : x.toInt32.toInt = x.toInt := by
  rw [Int64.toInt_toInt32]
  exact Int.bmod_eq_of_le (by omega) (by omega)
