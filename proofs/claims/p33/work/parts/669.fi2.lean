

/-- an act more: the law's row, the new act, its code -/
def acO (Z : oS) (lw : Nat) (p d : Int32) (E : List Int32) (u : oS) : Prop := ∃ q, q ∉ oL Z ∧ oty u q 0 ∧ acN u q p d E ∧ oP u (oQ Z lw 0) = va_up (oP Z (oQ Z lw 0)) (oI Z lw 2).toNatClampNeg (some q)
theorem acN_o {W : List Nat} {S u : oS} {b : Nat} {p d : Int32} {E : List Int32} (X : oX W S u) (tb : oty S b 0) (hk : ∀ k ∈ [0, 1, 2, 3, 4, 5000], k ∉ W) (h : acN S b p d E) : acN u b p d E := by
  obtain ⟨⟨h1, h2⟩, h3, h4⟩ := h
  exact ⟨⟨by rw [X.i (i := 0) tb (hk 0 (by decide))]; exact h1, by rw [X.i (i := 1) tb (hk 1 (by decide))]; exact h2⟩, rCd_o X tb (hk 3 (by decide)) (hk 4 (by decide)) (hk 5000 (by decide)) h3, fun x hx => by rw [X.i (i := 2) tb (hk 2 (by decide))]; exact h4 x hx⟩
theorem tP_w {Z u : oS} {o cd : Nat} {r : Int32} {R : Nat × Bool × List Int32} (h : tP Z u o cd r R) (hr : r.toInt < 0) : R.2.1 = true ∧ tN u o = R.2.2.length ∧ isE u cd R.2.2 := by
  rcases h with ⟨h1, h2, h3, h4, h5⟩ | ⟨h1, h2, h5⟩
  · exact ⟨h1, h4, h5⟩
  · omega