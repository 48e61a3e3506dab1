

/-- a bit of a row of bits -/
def ubI (x y : Int32) : Prop := ((x >>> (y &&& 31)) &&& 1) = 1
theorem ub_m : ∀ k : Nat, k < 12 → (nI k &&& 31).toBitVec.smod 32 = BitVec.ofNat 32 k := by decide
theorem ub_b : ∀ k : Nat, k < 12 → ∀ i : Nat, i < 12 → ((1 : Int32) <<< (nI k &&& 31)).toBitVec.getLsbD i = decide (i = k) := by decide
theorem ub_k {x y : Int32} (h0 : 0 ≤ y.toInt) (h1 : y.toInt < 12) : y = nI y.toNatClampNeg ∧ y.toNatClampNeg < 12 := by
  have e : y.toNatClampNeg = y.toInt.toNat := rfl
  refine ⟨Int32.toInt_inj.mp ?_, by omega⟩
  rw [nI_toInt (by omega), e]
  omega
theorem ub_i {x y : Int32} (h0 : 0 ≤ y.toInt) (h1 : y.toInt < 12) : ubI x y ↔ x.toBitVec.getLsbD y.toNatClampNeg = true := by
  obtain ⟨e, hk⟩ := ub_k (x := x) h0 h1
  have e1 : (x >>> (y &&& 31)).toBitVec = x.toBitVec.sshiftRight y.toNatClampNeg := by
    show x.toBitVec.sshiftRight ((y &&& 31).toBitVec.smod 32).toNat = _
    rw [show (y &&& 31) = (nI y.toNatClampNeg &&& 31) by rw [← e], ub_m _ hk, BitVec.toNat_ofNat, Nat.mod_eq_of_lt (by omega)]
  unfold ubI
  rw [← Int32.toBitVec_inj]
  show ((x >>> (y &&& 31)).toBitVec &&& 1#32) = 1#32 ↔ _
  rw [e1, ← BitVec.toNat_inj, BitVec.toNat_and, show (1#32).toNat = 2 ^ 1 - 1 by decide, Nat.and_two_pow_sub_one_eq_mod]
  have g : (x.toBitVec.sshiftRight y.toNatClampNeg).getLsbD 0 = x.toBitVec.getLsbD y.toNatClampNeg := by
    rw [BitVec.getLsbD_sshiftRight, if_pos (by omega), Nat.add_zero]
    rfl
  rw [← g]
  unfold BitVec.getLsbD
  rw [Nat.testBit_zero, decide_eq_true_iff]
theorem ub_s {x y i : Int32} (h0 : 0 ≤ y.toInt) (h1 : y.toInt < 12) (i0 : 0 ≤ i.toInt) (i1 : i.toInt < 12) : ubI (x ||| (1 <<< (i &&& 31))) y ↔ ubI x y ∨ y.toNatClampNeg = i.toNatClampNeg := by
  obtain ⟨e, hk⟩ := ub_k (x := x) h0 h1
  obtain ⟨ei, hi⟩ := ub_k (x := x) i0 i1
  rw [ub_i h0 h1, ub_i h0 h1]
  show (x.toBitVec ||| (1 <<< (i &&& 31) : Int32).toBitVec).getLsbD y.toNatClampNeg = true ↔ _
  rw [BitVec.getLsbD_or, show (i &&& 31) = (nI i.toNatClampNeg &&& 31) by rw [← ei], ub_b _ hi _ hk, Bool.or_eq_true, decide_eq_true_iff]
theorem ub_0 {y : Int32} (h0 : 0 ≤ y.toInt) (h1 : y.toInt < 12) : ¬ ubI 0 y := by
  rw [ub_i h0 h1]
  show ¬ (0#32).getLsbD y.toNatClampNeg = true
  rw [BitVec.getLsbD_zero]
  decide
/-- what a man among the some asks for at a rank; who fills a hand -/
def csW (fa : Nat → Nat → Int32) : Nat → Nat → Int := fun i r => (fa 5 (4 * (fa 54 i).toNatClampNeg + r)).toInt
def csT (fa : Nat → Nat → Int32) : Nat → Nat := fun p => (fa 56 p).toNatClampNeg
def csB (fa : Nat → Nat → Int32) : Nat → Nat := fun p => (fa 57 p).toNatClampNeg
/-- the search is laid out -/
def CS (n M : Nat) (v : Nat → Int32) (fa : Nat → Nat → Int32) : Prop := (v 59).toInt = hnd n ∧ (v 58).toInt = M ∧ M ≤ 12 ∧ (∀ p, p < hnd n → (fa 55 p).toInt = rkp n p) ∧ asB fa
/-- the search's lay-out stays -/
def smC (v : Nat → Int32) (fa : Nat → Nat → Int32) (z : Nat → Int32) (fz : Nat → Nat → Int32) : Prop := z 59 = v 59 ∧ z 58 = v 58 ∧ fz 55 = fa 55 ∧ fz 54 = fa 54 ∧ fz 5 = fa 5
/-- the hands below h stay -/
def hdE (h : Nat) (fa fz : Nat → Nat → Int32) : Prop := ∀ p, p < h → fz 56 p = fa 56 p
section
variable {n M h : Nat} {v z y : Nat → Int32} {fa fz fy : Nat → Nat → Int32}
theorem smC.rf : smC v fa v fa := ⟨rfl, rfl, rfl, rfl, rfl⟩
theorem smC.tr (g : smC v fa z fz) (k : smC z fz y fy) : smC v fa y fy := ⟨k.1.trans g.1, k.2.1.trans g.2.1, k.2.2.1.trans g.2.2.1, k.2.2.2.1.trans g.2.2.2.1, k.2.2.2.2.trans g.2.2.2.2⟩
theorem smC.up {i : Nat} {x : Int32} (g : smC v fa z fz) (h1 : 59 ≠ i) (h2 : 58 ≠ i) : smC v fa (upd z i x) fz := ⟨(if_neg h1).trans g.1, (if_neg h2).trans g.2.1, g.2.2⟩
theorem smC.uF {k j : Nat} {x : Int32} (g : smC v fa z fz) (h1 : 55 ≠ k) (h2 : 54 ≠ k) (h3 : 5 ≠ k) : smC v fa z (upF fz k j x) := ⟨g.1, g.2.1, (if_neg h1).trans g.2.2.1, (if_neg h2).trans g.2.2.2.1, (if_neg h3).trans g.2.2.2.2⟩
theorem hdE.rf : hdE h fa fa := fun _ _ => rfl
theorem hdE.tr (g : hdE h fa fz) (k : hdE h fz fy) : hdE h fa fy := fun p hp => (k p hp).trans (g p hp)
theorem hdE.le {h2 : Nat} (g : hdE h2 fa fz) (hh : h ≤ h2) : hdE h fa fz := fun p hp => g p (by omega)
theorem hdE.uF {k j : Nat} {x : Int32} (g : hdE h fa fz) (hk : 56 ≠ k ∨ h ≤ j) : hdE h fa (upF fz k j x) := fun p hp => by
  refine Eq.trans ?_ (g p hp)
  unfold upF
  rcases hk with hk | hk
  · rw [if_neg hk]
  · split
    · rename_i e
      rw [← e]
      exact if_neg (by omega)
    · rfl
theorem csW_e (g : smC v fa z fz) : csW fz = csW fa := by
  unfold csW
  rw [g.2.2.2.1, g.2.2.2.2]
theorem csT_e (g : hdE h fa fz) : ∀ p, p < h → csT fz p = csT fa p := fun p hp => by
  unfold csT
  rw [g p hp]
theorem CS_s (g : smC v fa z fz) (k : CS n M v fa) : CS n M z fz := by
  unfold CS asB at *
  rw [g.1, g.2.1, g.2.2.1, g.2.2.2.2]
  exact k
theorem csW_b (k : CS n M v fa) (i r : Nat) : 0 ≤ csW fa i r ∧ csW fa i r ≤ 9999 := k.2.2.2.2 _
end
