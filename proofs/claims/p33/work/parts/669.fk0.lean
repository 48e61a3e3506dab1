

/-- k bytes of the text were laid from 60 n on -/
def txI (fa fz : Nat → Nat → Int32) (n k : Nat) : Prop := (∀ j, j < k → fz 19 (60 * n + j) = fa 44 j) ∧ ∀ i, i < 60 * n → fz 19 i = fa 19 i
def smT (fa fz : Nat → Nat → Int32) : Prop := fz 16 = fa 16 ∧ fz 17 = fa 17 ∧ fz 18 = fa 18 ∧ fz 44 = fa 44
theorem txI_0 {fa fz : Nat → Nat → Int32} {n : Nat} {i : Int32} (h : fz = fa) (hi : i.toInt = 0) : txI fa fz n i.toNatClampNeg := ⟨al_0 hi, fun _ _ => by rw [h]⟩
theorem txI_s {fa fz fy : Nat → Nat → Int32} {n : Nat} {i i1 x y : Int32} (h : txI fa fz n i.toNatClampNeg) (ef : fy 19 = upd (fz 19) x.toNatClampNeg y) (hx : x.toInt = 60 * (n : Int) + i.toInt) (hy : y = fa 44 i.toNatClampNeg) (h0 : 0 ≤ i.toInt) (e : i1.toInt = i.toInt + 1) : txI fa fy n i1.toNatClampNeg := by
  have ex : x.toNatClampNeg = 60 * n + i.toNatClampNeg := (show x.toInt.toNat = 60 * n + i.toInt.toNat by omega)
  refine ⟨al_s (fun j hj => ?_) ?_ e h0, fun j hj => ?_⟩
  · rw [ef, upd_ne (by omega)]; exact h.1 j hj
  · rw [ef, ex, upd_eq]; exact hy
  · rw [ef, upd_ne (by omega)]; exact h.2 j hj
theorem smT_s {fa fz fy : Nat → Nat → Int32} {j : Nat} {y : Int32} (h : smT fa fz) (e : fy = upF fz 19 j y) : smT fa fy := by
  rw [e]
  exact ⟨(if_neg (by decide)).trans h.1, (if_neg (by decide)).trans h.2.1, (if_neg (by decide)).trans h.2.2.1, (if_neg (by decide)).trans h.2.2.2⟩
/-- an act more -/
def acM (v : Nat → Int32) (fa : Nat → Nat → Int32) (p d : Int32) (u : (Nat → Int32) × (Nat → Nat → Int32)) : Prop := u.2 16 = upd (fa 16) (v 42).toNatClampNeg (v 46) ∧ u.2 17 = upd (fa 17) (v 42).toNatClampNeg p ∧ u.2 18 = upd (fa 18) (v 42).toNatClampNeg d ∧ txI fa u.2 (v 42).toNatClampNeg (v 46).toNatClampNeg