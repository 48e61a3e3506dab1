

/-- a man more, with a row of wages of his own -/
def mnO (Z : oS) (o : Nat) (a b d : Int32) (u : oS) : Prop := ∃ q, q ∉ oL Z ∧ oty u q 6 ∧ (oI u q 0 = oI Z o 2 ∧ oI u q 1 = a ∧ oI u q 2 = b ∧ oI u q 3 = d) ∧ (∃ w, oP u q 4 = some w ∧ w ∉ oL Z ∧ oI u w = fun _ => 0) ∧ oP u (oQ Z o 1) = va_up (oP Z (oQ Z o 1)) (oI Z o 2).toNatClampNeg (some q)