

/-- the bytes of the tape, the reader's place, the code's end -/
def tC (S : oS) (o rw : Nat) : Nat → Int32 := cI (oI S rw) (oI S o 1).toNatClampNeg
def tA (S : oS) (o : Nat) : Nat := (oI S o 4).toNatClampNeg
def tN (S : oS) (o : Nat) : Nat := (oI S o 3).toNatClampNeg
theorem tA_i (S : oS) (o : Nat) : tA S o = (oI S o 4).toInt.toNat := rfl
theorem tN_i (S : oS) (o : Nat) : tN S o = (oI S o 3).toInt.toNat := rfl
/-- from Z to u the code E was laid behind the code's end -/
def tE (Z u : oS) (o cd : Nat) (E : List Int32) : Prop := tN u o = tN Z o + E.length ∧ (∀ j, j < tN Z o → oI u cd j = oI Z cd j) ∧ ∀ j, j < E.length → E[j]? = some (oI u cd (tN Z o + j))
/-- behind a reader that has read R -/
def tR (Z u : oS) (o cd : Nat) (R : Nat × Bool × List Int32) : Prop := tA u o = R.1 ∧ tA Z o ≤ tA u o ∧ (R.2.1 = false → (oI u o 5).toInt = (R.1 : Int)) ∧ (R.2.1 = true → (oI u o 5).toInt = -1 ∧ tN u o + tA Z o ≤ tA u o + tN Z o ∧ tE Z u o cd R.2.2)
/-- one step more of the code -/
def emF (Z u : oS) (o cd : Nat) (x : Int32) : Prop := tN u o = tN Z o + 1 ∧ oI u cd = upd (oI Z cd) (tN Z o) x
/-- the code of a letter, of a sign, of a joined pair -/
def cLt (c : Int32) : List Int32 := [if c = 119 then -1 else if c = 114 then -2 else if c = 97 then -3 else if c = 100 then -4 else if c = 110 then -5 else if c = 115 then -6 else if c = 108 then -7 else -8]
def scd (s : Int32) : Int32 := if s = 43 then -11 else if s = 45 then -12 else if s = 42 then -13 else if s = 47 then -14 else if s = 60 then -15 else if s = 61 then -16 else -17
def cop (s : Int32) (x y : List Int32) : List Int32 := x ++ y ++ [scd s]
abbrev cU (c : Nat → Int32) (d : Nat) : Nat → Nat × Bool × List Int32 := pU (fun x => [x]) cLt cop [] c d
abbrev cT (c : Nat → Int32) (d : Nat) : Nat → Nat × Bool × List Int32 := pT (cU c d) c cop
abbrev cS (c : Nat → Int32) (d : Nat) : Nat → Nat × Bool × List Int32 := pS (cU c d) c cop
section
variable {W : List Nat} {Z S S1 S2 S3 u : oS} {o cd rw q m m' : Nat} {x y : Int32} {E E' : List Int32} {w : Bool} {R R0 : Nat × Bool × List Int32} {U : Nat → Nat × Bool × List Int32} {C : Nat → Int32} {s1 s2 : Int32}
theorem tX_C (X : oX W S S1) (to : oty S o 8) (tr : oty S rw 160) (h1 : 801 ∉ W) (h2 : 2160 ∉ W) : tC S1 o rw = tC S o rw := by
  unfold tC
  rw [X.f tr (fun _ => nkw (by decide +kernel) (by decide +kernel) h2), X.i (i := 1) to h1]
theorem tX_A (X : oX W S S1) (to : oty S o 8) (h : 804 ∉ W) : tA S1 o = tA S o := by
  unfold tA
  rw [X.i (i := 4) to h]
theorem tX_N (X : oX W S S1) (to : oty S o 8) (h : 803 ∉ W) : tN S1 o = tN S o := by
  unfold tN
  rw [X.i (i := 3) to h]
theorem tX_F (X : oX W S S1) (to : oty S o 8) (h : 805 ∉ W) : oI S1 o 5 = oI S o 5 := X.i (i := 5) to h
theorem tX_cd (X : oX W S S1) (tc : oty S cd 63) (h : 2063 ∉ W) : oI S1 cd = oI S cd := X.f tc (fun _ => nkw (by decide +kernel) (by decide +kernel) h)
theorem tE_nil (hN : tN u o = tN Z o) (hc : oI u cd = oI Z cd) : tE Z u o cd [] := ⟨hN, fun j _ => by rw [hc], fun j h => absurd h (Nat.not_lt_zero j)⟩
theorem tE_em (h : tE Z S o cd E) (e : emF S u o cd x) : tE Z u o cd (E ++ [x]) := by
  obtain ⟨h1, h2, h3⟩ := h
  obtain ⟨e1, e2⟩ := e
  refine ⟨by rw [e1, h1, List.length_append, List.length_singleton, Nat.add_assoc], fun j hj => ?_, fun j hj => ?_⟩
  · rw [e2, show upd (oI S cd) (tN S o) x j = oI S cd j from if_neg (by omega)]
    exact h2 j hj
  · rw [List.length_append, List.length_singleton] at hj
    rw [e2]
    by_cases g : j < E.length
    · rw [show upd (oI S cd) (tN S o) x (tN Z o + j) = oI S cd (tN Z o + j) from if_neg (by omega), List.getElem?_append_left g]
      exact h3 j g
    · have ej : j = E.length := by omega
      subst ej
      rw [show upd (oI S cd) (tN S o) x (tN Z o + E.length) = x from if_pos h1.symm, List.getElem?_append_right (Nat.le_refl _), Nat.sub_self]
      rfl
theorem tE_tr (h : tE Z S o cd E) (g : tE S u o cd E') : tE Z u o cd (E ++ E') := by
  obtain ⟨h1, h2, h3⟩ := h
  obtain ⟨g1, g2, g3⟩ := g
  refine ⟨by rw [g1, h1, List.length_append, Nat.add_assoc], fun j hj => ?_, fun j hj => ?_⟩
  · rw [g2 j (by omega)]
    exact h2 j hj
  · rw [List.length_append] at hj
    by_cases k : j < E.length
    · rw [List.getElem?_append_left k, g2 _ (by omega)]
      exact h3 j k
    · rw [List.getElem?_append_right (by omega), g3 (j - E.length) (by omega), show tN S o + (j - E.length) = tN Z o + j by omega]
theorem tE_l (h : tE S1 u o cd E) (hN : tN S1 o = tN Z o) (hc : oI S1 cd = oI Z cd) : tE Z u o cd E := ⟨by rw [h.1, hN], fun j hj => by rw [h.2.1 j (by rw [hN]; exact hj), hc], fun j hj => by rw [h.2.2 j hj, hN]⟩
theorem tE_r (h : tE Z S o cd E) (hN : tN u o = tN S o) (hc : oI u cd = oI S cd) : tE Z u o cd E := ⟨by rw [hN, h.1], fun j hj => by rw [hc]; exact h.2.1 j hj, fun j hj => by rw [hc]; exact h.2.2 j hj⟩
theorem tR_t (h : tR Z S o cd (q, w, E)) (hf : (oI S o 5).toInt < 0) : w = true := by
  cases w with
  | true => rfl
  | false =>
    have := h.2.2.1 rfl
    simp only at this
    omega
theorem tR_f (h : tR Z S o cd (q, w, E)) (hf : 0 ≤ (oI S o 5).toInt) : w = false := by
  cases w with
  | false => rfl
  | true =>
    have := (h.2.2.2 rfl).1
    omega
/-- the place went on by one ahead of a reader -/
theorem tR_at (X : oX [804] Z S1) (to : oty Z o 8) (tc : oty Z cd 63) (hA : tA S1 o = tA Z o + 1) (h : tR S1 u o cd R) : tR Z u o cd R := by
  obtain ⟨h1, h2, h3, h4⟩ := h
  have hN := tX_N X to (by decide +kernel)
  refine ⟨h1, by omega, h3, fun hw => ?_⟩
  obtain ⟨a, b, c⟩ := h4 hw
  exact ⟨a, by omega, tE_l c hN (tX_cd X tc (by decide +kernel))⟩
/-- a place and a step -/
theorem tR_one (X : oX [804] Z S1) (to : oty Z o 8) (tc : oty Z cd 63) (hA : tA S1 o = tA Z o + 1) (X2 : oX [803, 2063] S1 u) (hf : (oI Z o 5).toInt = -1) (e : emF S1 u o cd x) : tR Z u o cd (tA Z o + 1, true, [x]) := by
  have hN := tX_N X to (by decide +kernel)
  have to1 := X.ty to
  have hA2 := tX_A X2 to1 (by decide +kernel)
  refine ⟨hA2.trans hA, by omega, (fun h => by cases h), fun _ => ⟨by rw [tX_F X2 to1 (by decide +kernel), tX_F X to (by decide +kernel)]; exact hf, ?_, ?_⟩⟩
  · have := e.1
    omega
  · exact tE_em (E := []) (tE_nil hN (tX_cd X tc (by decide +kernel))) e
/-- it breaks here -/
theorem tR_brk (h : tR Z S o cd (q, true, E)) (to : oty S o 8) (X : oX [805] S u) (hf : (oI u o 5).toInt = (oI S o 4).toInt) (h0 : 0 ≤ (oI S o 4).toInt) : tR Z u o cd (q, false, E') := by
  have hA := tX_A X to (by decide +kernel)
  have h1 := h.1
  have e := tA_i S o
  simp only at h1
  refine ⟨hA.trans h1, by rw [hA]; exact h.2.1, fun _ => ?_, (fun g => by cases g)⟩
  show _ = (q : Int)
  omega
theorem tR_brk0 (to : oty Z o 8) (X : oX [805] Z u) (hf : (oI u o 5).toInt = (oI Z o 4).toInt) (h0 : 0 ≤ (oI Z o 4).toInt) : tR Z u o cd (tA Z o, false, E') := by
  have hA := tX_A X to (by decide +kernel)
  have e := tA_i Z o
  refine ⟨hA, by omega, fun _ => ?_, (fun g => by cases g)⟩
  show _ = (tA Z o : Int)
  omega
/-- a part, a sign, a part -/
theorem tR_op (hr : tR Z S o cd (q, true, E)) (to : oty S o 8) (tc : oty S cd 63) (X1 : oX [804] S S1) (hA1 : tA S1 o = tA S o + 1) (h2 : tR S1 S2 o cd R) (X3 : oX [803, 2063] S2 S3) (to2 : oty S2 o 8) (hN0 : tN Z o ≤ tA Z o) (hA6 : tA S2 o ≤ 60) (hem : (oI S2 o 3).toInt < 60 → emF S2 S3 o cd (scd x)) : tR Z S3 o cd (R.1, R.2.1, cop x E R.2.2) := by
  obtain ⟨q2, w2, E2⟩ := R
  have hA3 := tX_A X3 to2 (by decide +kernel)
  obtain ⟨a1, a2, -, a4⟩ := hr
  obtain ⟨b1, b2, b3, b4⟩ := h2
  have hN1 := tX_N X1 to (by decide +kernel)
  cases w2 with
  | false =>
    refine ⟨hA3.trans b1, by omega, fun g => ?_, (fun g => by cases g)⟩
    rw [tX_F X3 to2 (by decide +kernel)]
    exact b3 g
  | true =>
    obtain ⟨a5, a6, a7⟩ := a4 rfl
    obtain ⟨b5, b6, b7⟩ := b4 rfl
    have e2 := tN_i S2 o
    have em := hem (by omega)
    refine ⟨hA3.trans b1, by omega, (fun g => by cases g), fun _ => ⟨by rw [tX_F X3 to2 (by decide +kernel)]; exact b5, ?_, ?_⟩⟩
    · have := em.1
      omega
    · exact tE_em (tE_tr a7 (tE_l b7 hN1 (tX_cd X1 tc (by decide +kernel)))) em
/-- the loop over parts joined by two signs: a turn, and its end -/
def tLp (Z S : oS) (o cd : Nat) (U : Nat → Nat × Bool × List Int32) (C : Nat → Int32) (s1 s2 : Int32) (m : Nat) (R0 : Nat × Bool × List Int32) : Prop := ∃ R, pL U C s1 s2 cop m R = R0 ∧ tR Z S o cd R
theorem tLp_go (h : tLp Z S o cd U C s1 s2 m R0) (hm : m = m' + 1) (hf : (oI S o 5).toInt < 0) (hc : C (tA S o) = x) (hx : x = s1 ∨ x = s2) (to : oty S o 8) (tc : oty S cd 63) (X1 : oX [804] S S1) (hA1 : tA S1 o = tA S o + 1) (h2 : tR S1 S2 o cd (U (tA S1 o))) (X3 : oX [803, 2063] S2 S3) (to2 : oty S2 o 8) (hN0 : tN Z o ≤ tA Z o) (hA6 : tA S2 o ≤ 60) (hem : (oI S2 o 3).toInt < 60 → emF S2 S3 o cd (scd x)) : tLp Z S3 o cd U C s1 s2 m' R0 := by
  obtain ⟨⟨q0, w0, E0⟩, hp, hr⟩ := h
  have ew := tR_t hr hf
  subst ew
  have eq : tA S o = q0 := hr.1
  refine ⟨((U (q0 + 1)).1, (U (q0 + 1)).2.1, cop x E0 (U (q0 + 1)).2.2), ?_, ?_⟩
  · have hc' : C q0 = x := by rw [← eq]; exact hc
    rw [← hp, hm, pL_go (q := (U (q0 + 1)).1) (w := (U (q0 + 1)).2.1) (y := (U (q0 + 1)).2.2) (by rw [hc']; exact hx) rfl, hc']
  · rw [hA1, eq] at h2
    exact tR_op hr to tc X1 hA1 h2 X3 to2 hN0 hA6 hem
theorem tLp_f (h : tLp Z S o cd U C s1 s2 m R0) (hf : 0 ≤ (oI S o 5).toInt) : tR Z S o cd R0 := by
  obtain ⟨⟨q0, w0, E0⟩, hp, hr⟩ := h
  have ew := tR_f hr hf
  subst ew
  rw [pL_stop (fun h => Bool.false_ne_true h.1)] at hp
  rw [← hp]
  exact hr
theorem tLp_n (h : tLp Z S o cd U C s1 s2 m R0) (h1 : ¬ C (tA S o) = s1) (h2 : ¬ C (tA S o) = s2) : tR Z S o cd R0 := by
  obtain ⟨⟨q0, w0, E0⟩, hp, hr⟩ := h
  have eq : tA S o = q0 := hr.1
  rw [eq] at h1 h2
  rw [pL_stop (fun h => h.2.elim h1 h2)] at hp
  rw [← hp]
  exact hr
theorem tLp_0 (h : tLp Z S o cd U C s1 s2 m R0) (hm : m = 0) : tR Z S o cd R0 := by
  obtain ⟨R, hp, hr⟩ := h
  subst hm
  rw [← hp]
  exact hr
theorem sf_0 (h : (oI S o 1).toInt ≤ (oI S o 4).toInt) (h0 : 0 ≤ (oI S o 4).toInt) : tC S o rw (tA S o) = -1 := cI_ge (show ¬ (oI S o 4).toInt.toNat < (oI S o 1).toInt.toNat by omega)
theorem sf_e (h : (oI S o 4).toInt < (oI S o 1).toInt) (h0 : 0 ≤ (oI S o 4).toInt) (ei : y.toInt = (oI S o 4).toInt) (e : x = oI S rw y.toNatClampNeg) : tC S o rw (tA S o) = x := by
  have ey : y = oI S o 4 := Int32.toInt_inj.mp ei
  rw [e, ey]
  exact cI_lt (show (oI S o 4).toInt.toNat < (oI S o 1).toInt.toNat by omega)
theorem sf_lt (hx : ¬ x = -1) (h : tC S o rw (tA S o) = x) (h0 : 0 ≤ (oI S o 4).toInt) : (oI S o 4).toInt < (oI S o 1).toInt := by
  have : (oI S o 4).toInt.toNat < (oI S o 1).toInt.toNat := cI_in h hx
  omega
theorem sf_ge (h : 48 ≤ tC S o rw (tA S o)) (h0 : 0 ≤ (oI S o 4).toInt) : (oI S o 4).toInt < (oI S o 1).toInt := by
  have : (oI S o 4).toInt.toNat < (oI S o 1).toInt.toNat := cI_gt h (by decide +kernel)
  omega
theorem pNum_ge {c : Nat → Int32} : ∀ {k p : Nat} {v : Int32}, p ≤ (pNum c k v p).1
  | 0, p, v => Nat.le_refl p
  | k + 1, p, v => by
    rw [pNum]
    split
    · exact Nat.le_trans (Nat.le_succ p) pNum_ge
    · exact Nat.le_refl p
end
theorem bz0 {r : Int32} {P Q : Prop} (h : (r = 1 ∧ P) ∨ (r = 0 ∧ Q)) (e : r = 0) : Q := by
  rcases h with h | h
  · exact absurd (h.1.symm.trans e) (by decide +kernel)
  · exact h.2
theorem bz1 {r : Int32} {P Q : Prop} (h : (r = 1 ∧ P) ∨ (r = 0 ∧ Q)) (e : ¬ r = 0) : P := by
  rcases h with h | h
  · exact h.2
  · exact absurd h.1 e
theorem dg_nl {c : Int32} (h1 : 48 ≤ c) (h2 : c ≤ 57) : ¬ isLt c := by
  rw [Int32.le_iff_toInt_le] at h1 h2
  have e1 : (48 : Int32).toInt = 48 := by decide
  have e2 : (57 : Int32).toInt = 57 := by decide
  intro h
  rcases h with h | h | h | h | h | h | h | h <;> rw [h] at h2 <;> exact absurd h2 (by decide +kernel)
theorem dg_40 {c : Int32} (h1 : 48 ≤ c) : ¬ c = 40 := fun h => by
  rw [h] at h1
  exact absurd h1 (by decide +kernel)
theorem uX_d {α : Type} {li lt : Int32 → α} {dv : α} {c : Nat → Int32} {br : Nat → Nat × Bool × α} {p : Nat} (h1 : 48 ≤ c p) (h2 : c p ≤ 57) : pX li lt dv c br p = ((pNum c 5 0 p).1, true, li (pNum c 5 0 p).2) := by
  refine uX_n (q := (pNum c 5 0 p).1) (z := (pNum c 5 0 p).2) (dg_nl h1 h2) (dg_40 h1) rfl ?_
  rw [pNum_s h1 h2]
  have := pNum_ge (c := c) (k := 4) (p := p + 1) (v := 10 * 0 + c p - 48)
  omega
section
variable {Z S u : oS} {o cd rw m m' p p' : Nat} {x x1 x2 y b : Int32} {C : Nat → Int32} {R : Nat × Int32}
theorem pn_go (h : pNum C m y p = R) (hm : m = m' + 1) (d1 : 48 ≤ C p) (d2 : C p ≤ 57) (hb : C p = b) (e1 : x1 = y * 10) (e2 : x2 = x1 + b) (e3 : x = x2 - 48) (hp : p' = p + 1) : pNum C m' x p' = R := by
  subst hm hp
  rw [← h, pNum_s d1 d2, e3, e2, e1, ← hb, Int32.mul_comm y 10]
theorem pn_0 (h : pNum C m y p = R) (hm : m = 0) : R = (p, y) := by
  subst hm
  exact h.symm
theorem pn_e (h : pNum C m y p = R) (hd : ¬ (48 ≤ C p ∧ C p ≤ 57)) : R = (p, y) := h.symm.trans (pNum_e hd)
theorem pn_gt (d1 : 48 ≤ C p) (d2 : C p ≤ 57) : p + 1 ≤ (pNum C 5 0 p).1 := by
  rw [pNum_s d1 d2]
  exact pNum_ge
theorem tR_num (X : oX [804] Z S) (to : oty Z o 8) (tc : oty Z cd 63) (hp : pNum C 5 0 (tA Z o) = (tA S o, x)) (hA : tA Z o + 1 ≤ (pNum C 5 0 (tA Z o)).1) (X2 : oX [803, 2063] S u) (hf : (oI Z o 5).toInt = -1) (e : emF S u o cd x) : tR Z u o cd ((pNum C 5 0 (tA Z o)).1, true, [(pNum C 5 0 (tA Z o)).2]) := by
  rw [hp] at hA
  rw [hp]
  have hN := tX_N X to (by decide +kernel)
  have to1 := X.ty to
  have hA2 := tX_A X2 to1 (by decide +kernel)
  simp only at hA
  refine ⟨hA2, by omega, (fun h => by cases h), fun _ => ⟨by rw [tX_F X2 to1 (by decide +kernel), tX_F X to (by decide +kernel)]; exact hf, ?_, ?_⟩⟩
  · have := e.1
    omega
  · exact tE_em (E := []) (tE_nil hN (tX_cd X tc (by decide +kernel))) e
theorem sf_l (h : isLt (tC S o rw (tA S o))) (h0 : 0 ≤ (oI S o 4).toInt) : (oI S o 4).toInt < (oI S o 1).toInt := by
  have : (oI S o 4).toInt.toNat < (oI S o 1).toInt.toNat := isLt_in h
  omega
end
theorem lh0 {r : Int32} {P Q : Prop} (h : (r = -1 ∧ P) ∨ (0 ≤ r.toInt ∧ Q)) (e : r.toInt < 0) : P := by
  rcases h with h | h
  · exact h.2
  · exact absurd h.1 (by omega)
theorem lh1 {r : Int32} {P Q : Prop} (h : (r = -1 ∧ P) ∨ (0 ≤ r.toInt ∧ Q)) (e : 0 ≤ r.toInt) : Q := by
  rcases h with h | h
  · rw [h.1] at e
    exact absurd e (by decide +kernel)
  · exact h.2
