

/-- two men of the office are alike; the office's labels -/
def alO (S : oS) (p q : Nat) : Prop := (oI S p 2).toInt = (oI S q 2).toInt ∨ ((oI S p 1).toInt = (oI S q 1).toInt ∧ dga 5 (oI S p 2).toInt (oI S q 2).toInt < 2)
def alM (S : oS) (o a b : Nat) : Prop := alO S (mnA S o a) (mnA S o b)
def lbO (S : oS) (o m : Nat) : Int := (oI S (mnA S o m) 5).toInt
/-- how many men; their marks' bounds; each has his own address; the labels are right -/
def nM (S : oS) (o : Nat) : Nat := (oI S o 2).toNatClampNeg
def moD (S : oS) (o : Nat) : Prop := ∀ m, m < nM S o → 0 ≤ (oI S (mnA S o m) 2).toInt ∧ (oI S (mnA S o m) 2).toInt ≤ 99999
def moB (S : oS) (o : Nat) : Prop := ∀ m m', m < nM S o → m' < nM S o → mnA S o m = mnA S o m' → m = m'
def moL (S : oS) (o : Nat) : Prop := lab (gE (alM S o) (nM S o)) (nM S o) (lbO S o)
theorem alO_sy {S : oS} {p q : Nat} (h : alO S p q) : alO S q p := by
  unfold alO at *
  rw [dga_sy 5 (oI S q 2).toInt (oI S p 2).toInt]
  omega
theorem alM_sy {S : oS} {o : Nat} : ∀ a b, alM S o a b → alM S o b a := fun _ _ h => alO_sy h
theorem alO_fr {W : List Nat} {S u : oS} {p q : Nat} (hX : oX W S u) (tp : oty S p 6) (tq : oty S q 6) (hk : ∀ k ∈ [601, 602], k ∉ W) : alO u p q = alO S p q := by
  unfold alO
  rw [hX.i (i := 1) tp (hk 601 (by decide)), hX.i (i := 2) tp (hk 602 (by decide)), hX.i (i := 1) tq (hk 601 (by decide)), hX.i (i := 2) tq (hk 602 (by decide))]
/-- labels are merged: on the way -/
def mgI (Z S : oS) (o n : Nat) (x y : Int) (i : Nat) : Prop := ∀ m, m < n → lbO S o m = if m < i then mrg (lbO Z o) x y m else lbO Z o m
section
variable {Z S S1 : oS} {o n i i1 b : Nat} {x y : Int}
theorem mgI_0 (hi : i = 0) : mgI Z Z o n x y i := fun m _ => by rw [if_neg (by omega)]
theorem mgI_n (h : mgI Z S o n x y i) (hi : i < n) (eb : b = mnA S o i) (hc : (oI S b 5).toInt ≠ if x ≤ y then y else x) (ei : i1 = i + 1) : mgI Z S o n x y i1 := fun m hm => by
  have h0 := h m hm
  by_cases c : m = i
  · subst c
    rw [if_neg (Nat.lt_irrefl m)] at h0
    rw [eb] at hc
    have hc : ¬ lbO S o m = if x ≤ y then y else x := hc
    rw [if_pos (by omega), h0]
    rw [h0] at hc
    exact (if_neg hc).symm
  · by_cases d : m < i
    · rw [if_pos d] at h0
      rw [if_pos (by omega)]
      exact h0
    · rw [if_neg d] at h0
      rw [if_neg (by omega)]
      exact h0
theorem mgI_y {z : Int32} (h : mgI Z S o n x y i) (hi : i < n) (eb : b = mnA S o i) (hA1 : ∀ m, mnA S1 o m = mnA S o m) (hB : ∀ m m', m < n → m' < n → mnA S o m = mnA S o m' → m = m') (e1 : S1 = setI S b 5 z) (hc : (oI S b 5).toInt = if x ≤ y then y else x) (hz : z.toInt = if x ≤ y then x else y) (ei : i1 = i + 1) : mgI Z S1 o n x y i1 := fun m hm => by
  have h0 := h m hm
  unfold lbO at *
  rw [hA1]
  by_cases c : m = i
  · subst c
    rw [if_neg (Nat.lt_irrefl m)] at h0
    rw [if_pos (by omega), e1, eb, setI_same, hz]
    rw [eb, h0] at hc
    exact (if_pos hc).symm
  · have nb : mnA S o m ≠ b := fun e => c (hB m i hm hi (e.trans eb))
    rw [e1, setI_oth nb]
    by_cases d : m < i
    · rw [if_pos d] at h0
      rw [if_pos (by omega)]
      exact h0
    · rw [if_neg d] at h0
      rw [if_neg (by omega)]
      exact h0
theorem mgI_e (h : mgI Z S o n x y i) (hi : n ≤ i) : ∀ m, m < n → lbO S o m = mrg (lbO Z o) x y m := fun m hm => by
  rw [h m hm, if_pos (by omega)]
theorem lab_g {E : Nat → Nat → Prop} {g g2 : Nat → Int} (h : lab E n g) (hd : ∀ m o, E m o → m < n ∧ o < n) (hg : ∀ m, m < n → g2 m = g m) : lab E n g2 := lab_E h (fun _ _ => Iff.rfl) (fun m hm => (hg m hm).symm) hd
variable {A : Nat → Nat → Prop} {k : Nat} {g g2 : Nat → Int}
theorem jg_0 (h : lab (gE A k) k g) (hk : g k = k) (ei : i = 0) : lab (gEi A k i) (k + 1) g := by
  rw [ei]
  exact lab_0 h hk
theorem jg_y (h : lab (gEi A k i) (k + 1) g) (hA : ∀ m o, A m o → A o m) (hi : i < k + 1) (ha : A k i) (hx : x = g k) (hy : y = g i) (h2 : ∀ m, m < k + 1 → g2 m = mrg g x y m) (ei : i1 = i + 1) : lab (gEi A k i1) (k + 1) g2 := by
  rw [ei]
  rw [hx, hy] at h2
  exact lab_g (lab_y h hA hi ha) (fun m o e => ⟨e.2.1, e.2.2.1⟩) h2
theorem jg_n (h : lab (gEi A k i) (k + 1) g) (hA : ∀ m o, A m o → A o m) (ha : ¬ A k i) (ei : i1 = i + 1) : lab (gEi A k i1) (k + 1) g := by
  rw [ei]
  exact lab_n h hA ha
theorem jg_e (h : lab (gEi A k i) (k + 1) g) (ei : i = k + 1) : lab (gE A (k + 1)) (k + 1) g := by
  rw [ei] at h
  exact lab_e h
end
/-- the marks of the reference in their bounds, the labels of the office right -/
def rGr (S : oS) (o : Nat) (_v : Nat → Int32) (fa : Nat → Nat → Int32) : Prop := mkB fa ∧ moL S o
section
variable {W : List Nat} {S u : oS} {o : Nat} {v z : Nat → Int32} {fa fz : Nat → Nat → Int32}
theorem nM_v (hR : RC S o v fa) : nM S o = (v 39).toNatClampNeg := cn_c (RC.n hR).2.1
theorem moD_r (hR : RC S o v fa) (h : rGr S o v fa) : moD S o := fun m hm => by
  rw [nM_v hR] at hm
  rw [(RC.m hR hm).2.2.1]
  exact h.1 m
theorem moB_r (hR : RC S o v fa) : moB S o := fun m m' hm hm' e => by
  rw [nM_v hR] at hm hm'
  exact RC.mi hR hm hm' e
theorem moL_r (h : rGr S o v fa) : moL S o := h.2
theorem grL_o (hR : RC S o v fa) (h : rGr S o v fa) : lab (gE (alF fa) (v 39).toNatClampNeg) (v 39).toNatClampNeg (lbO S o) := by
  have g := h.2
  unfold moL at g
  rw [nM_v hR] at g
  refine lab_E g (fun m p => ?_) (fun _ _ => rfl) (fun m p e => e.2)
  unfold gE alM alO alF alk
  constructor
  · rintro ⟨h1, h2, h3⟩
    rw [(RC.m hR h2).2.2.1, (RC.m hR h3).2.2.1, (RC.m hR h2).2.1, (RC.m hR h3).2.1] at h1
    exact ⟨h1, h2, h3⟩
  · rintro ⟨h1, h2, h3⟩
    rw [(RC.m hR h2).2.2.1, (RC.m hR h3).2.2.1, (RC.m hR h2).2.1, (RC.m hR h3).2.1]
    exact ⟨h1, h2, h3⟩
theorem rGr_fr (hX : oX W S u) (hI : oInv S) (to : oty S o 10) (hk : ∀ k ∈ [1001, 2014, 1002, 601, 602, 605], k ∉ W) (hm : fz 3 = fa 3) (h : rGr S o v fa) : rGr u o z fz := by
  have eA := mnA_o hX hI to (hk 1001 (by decide)) (hk 2014 (by decide))
  have eN : nM u o = nM S o := by unfold nM; rw [hX.i (i := 2) to (hk 1002 (by decide))]
  have tm : ∀ m, m < nM S o → oty S (mnA S o m) 6 := fun m hm => (mnA_e hI to hm).2
  refine ⟨fun i => by rw [hm]; exact h.1 i, ?_⟩
  unfold moL
  rw [eN]
  refine lab_E h.2 (fun m p => ?_) (fun m hm => ?_) (fun m p e => e.2)
  · unfold gE alM
    rw [eA, eA]
    constructor
    · rintro ⟨h1, h2, h3⟩
      rw [alO_fr hX (tm m h2) (tm p h3) (fun k hk2 => hk k (by revert k; decide))]
      exact ⟨h1, h2, h3⟩
    · rintro ⟨h1, h2, h3⟩
      rw [alO_fr hX (tm m h2) (tm p h3) (fun k hk2 => hk k (by revert k; decide))] at h1
      exact ⟨h1, h2, h3⟩
  · unfold lbO
    rw [eA, hX.i (i := 5) (tm m hm) (hk 605 (by decide))]
theorem rGr_st (hn : oI S o 2 = 0) : rGr S o (fun _ => 0) (fun _ _ => 0) := by
  have e : nM S o = 0 := by unfold nM; rw [hn]; rfl
  refine ⟨fun _ => (show 0 ≤ (0 : Int32).toInt ∧ (0 : Int32).toInt ≤ 99999 by decide), ?_⟩
  unfold moL
  rw [e]
  exact ⟨fun m hm => absurd hm (Nat.not_lt_zero m), fun m p h => absurd h.2.1 (Nat.not_lt_zero m), fun m hm => absurd hm (Nat.not_lt_zero m)⟩
theorem rGr_mn {a b d r r1 : Int32} {P : Prop} (hI : oInv S) (to : oty S o 10) (hp : (gmn (oI S o 0).toInt (oI S o 2).toInt a.toInt b.toInt d.toInt r.toInt (oI u o 2).toInt ∧ P ∧ (r.toInt < 0 → oX [2107] S u)) ∧ (0 ≤ r.toInt → moL u o)) (hq : gmn (v 38).toInt (v 39).toInt a.toInt b.toInt d.toInt r1.toInt (z 39).toInt ∧ (0 ≤ r1.toInt → mnN v fa a b d (z, fz)) ∧ (r1.toInt < 0 → sm0 v fa (z, fz))) (er : r.toInt = r1.toInt) (h : rGr S o v fa) : rGr u o z fz := by
  obtain ⟨⟨p1, -, p3⟩, p4⟩ := hp
  obtain ⟨q1, q2, q3⟩ := hq
  by_cases c : 0 ≤ r.toInt
  · refine ⟨fun i => ?_, p4 c⟩
    rw [show fz 3 = upd (fa 3) (v 39).toNatClampNeg b from (q2 (by omega)).2.1]
    unfold upd
    split
    · unfold gmn at p1
      omega
    · exact h.1 i
  · exact rGr_fr (p3 (by omega)) hI to (by decide) ((q3 (by omega)).2 3 (by decide)) h
/-- the paper of an agreement -/
theorem fpp_n {p : Int} {i : Nat} {r A : Option Nat} (h : (p < 0 ∧ r = none) ∨ (0 ≤ p ∧ p < (i : Int) ∧ r = A)) (e : r = none) (hA : A ≠ none) : p < 0 := by
  rcases h with h | h
  · exact h.1
  · exact absurd (h.2.2.symm.trans e) hA
theorem fpp_s {p : Int} {i b A : Nat} {r : Option Nat} (h : (p < 0 ∧ r = none) ∨ (0 ≤ p ∧ p < (i : Int) ∧ r = some A)) (e : r = some b) : 0 ≤ p ∧ p < (i : Int) ∧ b = A := by
  rcases h with h | h
  · exact absurd (h.2.symm.trans e) (by simp)
  · exact ⟨h.1, h.2.1, (Option.some.inj (h.2.2.symm.trans e)).symm⟩
theorem lpp {p y : Int32} {i : Nat} (h0 : 0 ≤ p.toInt) (h1 : p.toInt < (i : Int)) (hi : i < y.toNatClampNeg) : p.toNatClampNeg < y.toNatClampNeg := by
  have e : p.toNatClampNeg = p.toInt.toNat := rfl
  omega
end
