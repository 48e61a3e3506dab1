

/-- the act in force of the first n -/
def ifA (S : oS) (lw : Nat) (fa : Nat → Nat → Int32) (p d : Int) (n : Nat) : Nat := if acB fa p d n < 0 then cuA S lw p.toNat else acA S lw (acB fa p d n).toNat
theorem hld_id {x : Int32} (h1 : -1000000000 ≤ x.toInt) (h2 : x.toInt ≤ 1000000000) : hld x.toInt64 = x := by
  unfold hld
  have e1 : (1000000000 : Int64).toInt = 1000000000 := by decide
  have e2 : (-1000000000 : Int64).toInt = -1000000000 := by decide
  have l1 : x.toInt64 ≤ 1000000000 := Int64.le_iff_toInt_le.mpr (by rw [Int32.toInt_toInt64, e1]; exact h2)
  have l2 : (-1000000000 : Int64) ≤ x.toInt64 := Int64.le_iff_toInt_le.mpr (by rw [Int32.toInt_toInt64, e2]; exact h1)
  rw [if_pos ((lg_cmp_le _ _).mpr l1), if_pos ((lg_cmp_ge _ _).mpr l2)]
  apply Int32.toInt_inj.mp
  rw [Int64.toInt_toInt32, Int32.toInt_toInt64]
  exact Int.bmod_eq_of_le (by have := Int32.le_toInt x; omega) (by have := Int32.toInt_lt x; omega)
/-- the office's letters are the reference's -/
def eqO (L R : Nat → Int32) : Prop := L 0 = R 119 ∧ L 1 = R 114 ∧ L 2 = R 97 ∧ L 3 = R 100 ∧ L 4 = R 110 ∧ L 5 = R 115 ∧ L 6 = R 108 ∧ L 7 = R 120
def okL (R : Nat → Int32) : Prop := ∀ c, c = 119 ∨ c = 114 ∨ c = 97 ∨ c = 100 ∨ c = 110 ∨ c = 115 ∨ c = 108 ∨ c = 120 → -1000000000 ≤ (R c).toInt ∧ (R c).toInt ≤ 1000000000
theorem okL_m {R : Nat → Int32} (h : okL R) {c : Int32} {n : Nat} (e : c.toNatClampNeg = n) (hc : n = 119 ∨ n = 114 ∨ n = 97 ∨ n = 100 ∨ n = 110 ∨ n = 115 ∨ n = 108 ∨ n = 120) : R n = mLr R c := by
  unfold mLr
  rw [e, hld_id (h n hc).1 (h n hc).2]
theorem exE_1 {L : Nat → Int32} {x : Int32} (h1 : ¬ x ≤ -11) (h2 : ¬ (0 ≤ (-1 - x).toInt ∧ (-1 - x).toInt < 8)) : exE L [x] [] = [x] := by
  show exS L [] x = _
  unfold exS
  rw [if_neg h1]
  unfold vlO
  rw [if_neg h2]
section
variable {S u : oS} {lw : Nat} {v : Nat → Int32} {fa : Nat → Nat → Int32} {p d : Int} {L R : Nat → Int32} {b : Nat}
theorem actW (hL : rLw S lw v fa) (hb : b = ifA S lw fa p d (v 42).toNatClampNeg) (hp : 0 ≤ p ∧ p < 5) (hq : eqO L R) (ho : okL R) : ∃ E, rCd S b E ∧ exE L E [] = [wrt v fa p d R] := by
  obtain ⟨q0, q1, q2, q3, q4, q5, q6, q7⟩ := hq
  have hlt := acB_lt (fa := fa) (p := p) (d := d) (n := (v 42).toNatClampNeg)
  unfold ifA at hb
  unfold wrt
  by_cases g : acB fa p d (v 42).toNatClampNeg < 0
  · rw [if_pos g] at hb
    rw [if_neg (by omega)]
    have hc := (hL.2.2 p.toNat (by omega)).2.2.1
    rw [← hb] at hc
    refine ⟨_, hc, ?_⟩
    have h5 : p = 0 ∨ p = 1 ∨ p = 2 ∨ p = 3 ∨ p = 4 := by omega
    rcases h5 with rfl | rfl | rfl | rfl | rfl
    · exact exE_1 (by decide +kernel) (by decide +kernel)
    · rw [if_neg (by decide +kernel), if_pos rfl, ← q5]
      exact (exQ_le [] (by decide +kernel) (by decide +kernel)).trans (congrArg (fun k => [L k]) (by decide : (-1 - (-6) : Int32).toNatClampNeg = 5))
    · exact exE_1 (by decide +kernel) (by decide +kernel)
    · exact exE_1 (by decide +kernel) (by decide +kernel)
    · exact exE_1 (by decide +kernel) (by decide +kernel)
  · rw [if_neg g] at hb
    rw [if_pos (by omega)]
    have hc := hL.2.1 (acB fa p d (v 42).toNatClampNeg).toNat (by omega)
    rw [← hb] at hc
    obtain ⟨-, -, -, hw, hc, -⟩ := hc
    refine ⟨_, hc, ?_⟩
    exact cm_valx (lt := mLr R) (q0.trans (okL_m ho (by decide +kernel) (by decide +kernel))) (q1.trans (okL_m ho (by decide +kernel) (by decide +kernel))) (q2.trans (okL_m ho (by decide +kernel) (by decide +kernel))) (q3.trans (okL_m ho (by decide +kernel) (by decide +kernel))) (q4.trans (okL_m ho (by decide +kernel) (by decide +kernel))) (q5.trans (okL_m ho (by decide +kernel) (by decide +kernel))) (q6.trans (okL_m ho (by decide +kernel) (by decide +kernel))) (q7.trans (okL_m ho (by decide +kernel) (by decide +kernel))) hw []
theorem rLw_wl (hL : rLw S lw v fa) : wlA v fa := fun k hk => (hL.2.1 k hk).2.2.2.1
theorem rCd_o {W : List Nat} {E : List Int32} (X : oX W S u) (tb : oty S b 0) (k3 : 3 ∉ W) (k4 : 4 ∉ W) (k5 : 5000 ∉ W) (h : rCd S b E) : rCd u b E := by
  obtain ⟨h1, cd, sk, h2, h3, h4, h5, h6⟩ := h
  refine ⟨h1, cd, sk, ?_, X.ty h3, ?_, X.ty h5, fun j hj => ?_⟩
  · rw [X.p (i := 3) tb k3]; exact h2
  · rw [X.p (i := 4) tb k4]; exact h4
  · rw [X.i (i := j) h3 (by rw [wk_ar (by omega)]; exact k5)]; exact h6 j hj
theorem aA_e (hI : oInv S) (tl : oty S lw 5) {k : Nat} (hk : k < (oI S lw 2).toNatClampNeg) : oP S (oQ S lw 0) k = some (acA S lw k) ∧ oty S (acA S lw k) 0 := by
  obtain ⟨row, h⟩ := oInv.nn (i := 0) hI tl rfl
  have t1 : oty S row 12 := oInv.rd hI tl.2 h rfl rfl
  obtain ⟨b, hb⟩ := hI.2.2.1 lw tl.1 2 0 (by rw [tl.2]; rfl) row h k hk
  unfold acA
  rw [oQ_e h, oQ_e hb]
  exact ⟨hb, oInv.rd hI t1.2 hb rfl rfl⟩
theorem cA_e (hI : oInv S) (tl : oty S lw 5) {k : Nat} (hk : k < 5) : oP S (oQ S lw 1) k = some (cuA S lw k) ∧ oty S (cuA S lw k) 0 := by
  obtain ⟨row, h⟩ := oInv.nn (i := 1) hI tl rfl
  have t1 : oty S row 13 := oInv.rd hI tl.2 h rfl rfl
  obtain ⟨b, hb⟩ := hI.2.2.2.1 lw tl.1 tl.2 row h k hk
  unfold cuA
  rw [oQ_e h, oQ_e hb]
  exact ⟨hb, oInv.rd hI t1.2 hb rfl rfl⟩
theorem rLw_o {W : List Nat} (X : oX W S u) (hI : oInv S) (tl : oty S lw 5) (hk : ∀ k ∈ [500, 501, 502, 2012, 2013, 0, 1, 2, 3, 4, 5000], k ∉ W) (h : rLw S lw v fa) : rLw u lw v fa := by
  obtain ⟨h1, h2, h3⟩ := h
  have e0 : oQ u lw 0 = oQ S lw 0 := by unfold oQ; rw [X.p (i := 0) tl (hk 500 (by decide +kernel))]
  have e1 : oQ u lw 1 = oQ S lw 1 := by unfold oQ; rw [X.p (i := 1) tl (hk 501 (by decide +kernel))]
  refine ⟨by rw [X.i (i := 2) tl (hk 502 (by decide +kernel))]; exact h1, fun k hk2 => ?_, fun p hp => ?_⟩
  · have hk3 : k < (oI S lw 2).toNatClampNeg := by rw [cn_c h1]; exact hk2
    obtain ⟨-, tb⟩ := aA_e hI tl hk3
    have tr : oty S (oQ S lw 0) 12 := (ro_e (p := 0) hI tl rfl rfl rfl).2
    have ea : acA u lw k = acA S lw k := by unfold acA; rw [e0]; show (oP u (oQ S lw 0) k).getD 0 = (oP S (oQ S lw 0) k).getD 0; rw [X.fp tr (fun _ => nkw (by decide +kernel) (by decide +kernel) (hk 2012 (by decide +kernel)))]
    obtain ⟨g0, g1, g2, g3, g4, g5⟩ := h2 k hk2
    rw [ea]
    exact ⟨by rw [X.i (i := 0) tb (hk 0 (by decide +kernel))]; exact g0, by rw [X.i (i := 1) tb (hk 1 (by decide +kernel))]; exact g1, g2, g3, rCd_o X tb (hk 3 (by decide +kernel)) (hk 4 (by decide +kernel)) (hk 5000 (by decide +kernel)) g4, by rw [X.i (i := 2) tb (hk 2 (by decide +kernel))]; exact g5⟩
  · obtain ⟨-, tb⟩ := cA_e hI tl hp
    have tr : oty S (oQ S lw 1) 13 := (ro_e (p := 1) hI tl rfl rfl rfl).2
    have ea : cuA u lw p = cuA S lw p := by unfold cuA; rw [e1]; show (oP u (oQ S lw 1) p).getD 0 = (oP S (oQ S lw 1) p).getD 0; rw [X.fp tr (fun _ => nkw (by decide +kernel) (by decide +kernel) (hk 2013 (by decide +kernel)))]
    obtain ⟨g0, g1, g4, g5⟩ := h3 p hp
    rw [ea]
    exact ⟨by rw [X.i (i := 0) tb (hk 0 (by decide +kernel))]; exact g0, by rw [X.i (i := 1) tb (hk 1 (by decide +kernel))]; exact g1, rCd_o X tb (hk 3 (by decide +kernel)) (hk 4 (by decide +kernel)) (hk 5000 (by decide +kernel)) g4, by rw [X.i (i := 2) tb (hk 2 (by decide +kernel))]; exact g5⟩
theorem if_day (hL : rLw S lw v fa) {n : Nat} (hn : n ≤ (v 42).toNatClampNeg) (hp : 0 ≤ p ∧ p < 5) (hb : b = ifA S lw fa p d n) : ((oI S b 1).toInt = -1 ∧ acB fa p d n < 0) ∨ (0 ≤ acB fa p d n ∧ (oI S b 1).toInt = (fa 18 (acB fa p d n).toNat).toInt) := by
  have hlt := acB_lt (fa := fa) (p := p) (d := d) (n := n)
  unfold ifA at hb
  by_cases g : acB fa p d n < 0
  · rw [if_pos g] at hb
    rw [hb]
    exact Or.inl ⟨(hL.2.2 p.toNat (by omega)).2.1, g⟩
  · rw [if_neg g] at hb
    rw [hb]
    exact Or.inr ⟨by omega, (hL.2.1 _ (by omega)).2.1⟩
theorem if_0 {i : Int32} {x : Int32} (hi : i.toInt = 0) (hx : 0 ≤ x.toInt) (hb : b = cuA S lw x.toNatClampNeg) : b = ifA S lw fa x.toInt d i.toNatClampNeg := by
  rw [show i.toNatClampNeg = 0 from (show i.toInt.toNat = 0 by omega)]
  exact hb
theorem if_t {i i1 : Int32} {b1 : Nat} (hL : rLw S lw v fa) (hn : i.toInt < (v 42).toInt) (hp : 0 ≤ p ∧ p < 5) (hb : b = ifA S lw fa p d i.toNatClampNeg) (e : i1.toInt = i.toInt + 1) (h0 : 0 ≤ i.toInt) (h1 : (oI S b1 0).toInt = p) (h2 : (oI S b1 1).toInt ≤ d) (h3 : (oI S b 1).toInt ≤ (oI S b1 1).toInt) (hb1 : b1 = acA S lw i.toNatClampNeg) : b1 = ifA S lw fa p d i1.toNatClampNeg := by
  have hi : i.toNatClampNeg < (v 42).toNatClampNeg := ni_lt h0 hn
  obtain ⟨g0, g1, g2, -⟩ := hL.2.1 _ hi
  rw [← hb1] at g0 g1
  have hd := if_day hL (by omega) hp hb
  rw [show i1.toNatClampNeg = i.toNatClampNeg + 1 from (show i1.toInt.toNat = i.toInt.toNat + 1 by omega)]
  unfold ifA acB
  rw [if_pos (c := (fa 17 i.toNatClampNeg).toInt = p ∧ (fa 18 i.toNatClampNeg).toInt ≤ d ∧ (acB fa p d i.toNatClampNeg < 0 ∨ (fa 18 (acB fa p d i.toNatClampNeg).toNat).toInt ≤ (fa 18 i.toNatClampNeg).toInt)) ⟨by omega, by omega, by omega⟩, if_neg (by omega), Int.toNat_natCast]
  exact hb1
theorem if_f {i i1 : Int32} {b1 : Nat} (hL : rLw S lw v fa) (hn : i.toInt < (v 42).toInt) (hp : 0 ≤ p ∧ p < 5) (hb : b = ifA S lw fa p d i.toNatClampNeg) (e : i1.toInt = i.toInt + 1) (h0 : 0 ≤ i.toInt) (hc : ¬ ((oI S b1 0).toInt = p ∧ (oI S b1 1).toInt ≤ d ∧ (oI S b 1).toInt ≤ (oI S b1 1).toInt)) (hb1 : b1 = acA S lw i.toNatClampNeg) : b = ifA S lw fa p d i1.toNatClampNeg := by
  have hi : i.toNatClampNeg < (v 42).toNatClampNeg := ni_lt h0 hn
  obtain ⟨g0, g1, g2, -⟩ := hL.2.1 _ hi
  rw [← hb1] at g0 g1
  have hd := if_day hL (by omega) hp hb
  rw [show i1.toNatClampNeg = i.toNatClampNeg + 1 from (show i1.toInt.toNat = i.toInt.toNat + 1 by omega)]
  have hn : ¬ ((fa 17 i.toNatClampNeg).toInt = p ∧ (fa 18 i.toNatClampNeg).toInt ≤ d ∧ (acB fa p d i.toNatClampNeg < 0 ∨ (fa 18 (acB fa p d i.toNatClampNeg).toNat).toInt ≤ (fa 18 i.toNatClampNeg).toInt)) := fun q => hc ⟨by omega, by omega, by omega⟩
  unfold ifA acB
  rw [if_neg hn]
  exact hb
end
theorem fl_s {f f1 : Nat → Int32} {x i i1 : Int32} (h : ∀ j, j < i.toNatClampNeg → f j = x) (e : i1.toInt = i.toInt + 1) (h0 : 0 ≤ i.toInt) (ef : f1 = upd f i.toNatClampNeg x) : ∀ j, j < i1.toNatClampNeg → f1 j = x := by
  intro j hj
  have n1 : i.toNatClampNeg = i.toInt.toNat := rfl
  have n2 : i1.toNatClampNeg = i1.toInt.toNat := rfl
  rw [ef]
  by_cases q : j = i.toNatClampNeg
  · exact if_pos q
  · exact (if_neg q).trans (h j (by omega))
theorem lt_sg {f f0 : Nat → Int32} {w k y : Int32} (hz : ∀ j, j < 8 → f0 j = 0) (e : f = upd (upd (upd f0 0 w) 1 k) 2 y) : eqO f (ltS w k y) := by
  subst e
  have key : ∀ j, j < 8 → j ≠ 0 → j ≠ 1 → j ≠ 2 → upd (upd (upd f0 0 w) 1 k) 2 y j = 0 := fun j h h1 h2 h3 => (if_neg h3).trans ((if_neg h2).trans ((if_neg h1).trans (hz j h)))
  exact ⟨rfl, rfl, rfl, key 3 (by decide +kernel) (by decide +kernel) (by decide +kernel) (by decide +kernel), key 4 (by decide +kernel) (by decide +kernel) (by decide +kernel) (by decide +kernel), key 5 (by decide +kernel) (by decide +kernel) (by decide +kernel) (by decide +kernel), key 6 (by decide +kernel) (by decide +kernel) (by decide +kernel) (by decide +kernel), key 7 (by decide +kernel) (by decide +kernel) (by decide +kernel) (by decide +kernel)⟩
theorem ok_sg {w k y : Int32} (h1 : 0 ≤ w.toInt ∧ w.toInt ≤ 9999) (h2 : 0 ≤ k.toInt ∧ k.toInt ≤ 3) (h3 : 0 ≤ y.toInt ∧ y.toInt ≤ 1000) : okL (ltS w k y) := by
  intro c hc
  have z : (0 : Int32).toInt = 0 := by decide
  rcases hc with rfl | rfl | rfl | rfl | rfl | rfl | rfl | rfl
  · show _ ≤ w.toInt ∧ w.toInt ≤ _; omega
  · show _ ≤ k.toInt ∧ k.toInt ≤ _; omega
  · show _ ≤ y.toInt ∧ y.toInt ≤ _; omega
  all_goals (show _ ≤ (0 : Int32).toInt ∧ (0 : Int32).toInt ≤ _; omega)
theorem yr_i {a b : Int32} (h1 : 0 ≤ a.toInt ∧ a.toInt ≤ 3000) (h2 : -30000 ≤ b.toInt ∧ b.toInt ≤ a.toInt) : 0 ≤ ((a - b) / 365).toInt ∧ ((a - b) / 365).toInt ≤ 1000 := by
  have e := sb_i (x := a) (y := b) rfl rfl (by omega) (by omega)
  rw [dv_i (k := 365) e (by decide +kernel) (by omega) (by decide +kernel)]
  omega
