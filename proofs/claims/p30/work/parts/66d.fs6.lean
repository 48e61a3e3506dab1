

section
variable {S : oS} {o b lw a n : Nat} {v z : Nat → Int32} {fa fz : Nat → Nat → Int32} {d k x : Int}
theorem mLr_0 : mLr (fun _ => 0) = fun _ => 0 := funext fun c => (by decide : hld (0 : Int32).toInt64 = 0)
theorem ifA_w (hL : rLw S lw v fa) (hb : b = ifA S lw fa 4 d (v 42).toNatClampNeg) : (oI S b 2).toInt = wPr v fa d := by
  have hlt := acB_lt (fa := fa) (p := 4) (d := d) (n := (v 42).toNatClampNeg)
  unfold ifA at hb
  unfold wPr wrt
  by_cases g : acB fa 4 d (v 42).toNatClampNeg < 0
  · rw [if_pos g] at hb
    rw [if_neg (by omega), if_neg (by decide), if_neg (by decide), if_neg (by decide), if_neg (by decide), hb, show Int.toNat 4 = 4 from rfl, (hL.2.2 4 (by decide)).2.2.2]
    decide
  · rw [if_neg g] at hb
    rw [if_pos (by omega), hb, (hL.2.1 (acB fa 4 d (v 42).toNatClampNeg).toNat (by omega)).2.2.2.2.2, mLr_0]
theorem wPr_b (hW : wlA v fa) : -1000000000 ≤ wPr v fa d ∧ wPr v fa d ≤ 1000000000 := wrt_b hW (by decide)
theorem lmR_n {w : Int} (h : lmR S fa none (if w < 0 then none else some w.toNat)) : w < 0 := by
  rcases h with ⟨-, h⟩ | ⟨p, i, h, -⟩
  · by_cases g : w < 0
    · exact g
    · rw [if_neg g] at h; exact absurd h (by simp)
  · exact absurd h (by simp)
theorem lmR_s {w : Int} (h : lmR S fa (some b) (if w < 0 then none else some w.toNat)) : 0 ≤ w ∧ rHp S fa b w.toNat ∧ (fa 10 w.toNat).toInt ≠ 4 := by
  rcases h with ⟨h, -⟩ | ⟨p, i, h1, h2, h3, h4⟩
  · exact absurd h (by simp)
  · by_cases g : w < 0
    · rw [if_pos g] at h2; exact absurd h2 (by simp)
    · rw [if_neg g] at h2
      cases h1
      cases h2
      exact ⟨by omega, h3, h4⟩
/-- an answer about a thing, a day, a knowledge -/
def bSt (n now x j k : Int) : Prop := ¬ (0 ≤ x ∧ x < n) ∨ j < 0 ∨ k < 0 ∨ k < j ∨ now < k
def aSt (n now x j k st r : Int) : Prop := (¬ (0 ≤ x ∧ x < n) ∧ r = -1) ∨ (0 ≤ x ∧ x < n ∧ (j < 0 ∨ k < 0) ∧ r = -4) ∨ (0 ≤ x ∧ x < n ∧ 0 ≤ j ∧ 0 ≤ k ∧ (k < j ∨ now < k) ∧ r = -3) ∨ (0 ≤ x ∧ x < n ∧ 0 ≤ j ∧ j ≤ k ∧ k ≤ now ∧ r = st)
theorem aSt_e {n now x j k st r r1 : Int} (h : aSt n now x j k st r) (g : aSt n now x j k st r1) : r = r1 := by
  unfold aSt at h g
  omega
/-- refused, or nothing written -/
def rQo (Z : oS) (o : Nat) (u : oS) (r : Int32) (bad : Prop) : Prop := (bad ∧ rfO Z o u r) ∨ (¬ bad ∧ u = Z)
def rQr (v : Nat → Int32) (fa : Nat → Nat → Int32) (u : (Nat → Int32) × (Nat → Nat → Int32)) (r : Int32) (bad : Prop) : Prop := (bad ∧ sm1 v fa u r) ∨ (¬ bad ∧ u.2 0 = fa 0)
end
