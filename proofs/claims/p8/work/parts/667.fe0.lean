

/-- 1 for what holds -/
noncomputable def b01 (p : Prop) : Int := @ite Int p (Classical.propDecidable p) 1 0
theorem b01_t {p : Prop} (h : p) : b01 p = 1 := @if_pos p (Classical.propDecidable p) h Int 1 0
theorem b01_f {p : Prop} (h : ¬ p) : b01 p = 0 := @if_neg p (Classical.propDecidable p) h Int 1 0
theorem b01_i (p : Prop) : 0 ≤ b01 p ∧ b01 p ≤ 1 := by
  by_cases h : p
  · rw [b01_t h]; decide
  · rw [b01_f h]; decide
theorem b01_1 {p : Prop} (h : b01 p = 1) : p := by
  by_cases g : p
  · exact g
  · rw [b01_f g] at h; omega
theorem b01_0 {p : Prop} (h : b01 p = 0) : ¬ p := fun g => by rw [b01_t g] at h; omega
theorem b01_c {p q : Prop} (h : p ↔ q) : b01 p = b01 q := by rw [propext h]
theorem b1_t {p : Prop} (h : p) : (1 : Int32).toInt = b01 p := by rw [b01_t h]; decide
theorem b1_f {p : Prop} (h : ¬ p) : (0 : Int32).toInt = b01 p := by rw [b01_f h]; decide
theorem al_s {P : Nat → Prop} {i i1 : Int32} (h : ∀ j, j < i.toNatClampNeg → P j) (hn : P i.toNatClampNeg) (e : i1.toInt = i.toInt + 1) (h0 : 0 ≤ i.toInt) : ∀ j, j < i1.toNatClampNeg → P j := by
  intro j hj
  have n1 : i.toNatClampNeg = i.toInt.toNat := rfl
  have n2 : i1.toNatClampNeg = i1.toInt.toNat := rfl
  by_cases q : j = i.toNatClampNeg
  · rw [q]; exact hn
  · exact h j (by omega)
theorem al_0 {P : Nat → Prop} {i : Int32} (h : i.toInt = 0) : ∀ j, j < i.toNatClampNeg → P j := fun j hj => by
  have n1 : i.toNatClampNeg = i.toInt.toNat := rfl
  omega
theorem al_e {P : Nat → Prop} {i x : Int32} (h : ∀ j, j < i.toNatClampNeg → P j) (e : x.toInt ≤ i.toInt) : ∀ j, j < x.toNatClampNeg → P j := fun j hj => h j (by
  have n1 : i.toNatClampNeg = i.toInt.toNat := rfl
  have n2 : x.toNatClampNeg = x.toInt.toNat := rfl
  omega)
theorem tn_i {x : Int32} (h : 0 ≤ x.toInt) : ((x.toNatClampNeg : Nat) : Int) = x.toInt := by
  show ((x.toInt.toNat : Nat) : Int) = x.toInt
  omega
/-- a happening of a kind is told of a thing -/
noncomputable def tldI (v : Nat → Int32) (fa : Nat → Nat → Int32) (k o : Int) : Int := b01 (∃ j, j < (v 41).toNatClampNeg ∧ (fa 10 j).toInt = k ∧ (fa 11 j).toInt = o)
/-- an agreement goes on -/
noncomputable def gonI (v : Nat → Int32) (fa : Nat → Nat → Int32) (a : Nat) : Int := if (fa 26 a).toInt < 0 then (if tldI v fa 4 a = 0 then (if tldI v fa 2 (fa 21 a).toInt = 0 then 1 else 0) else 0) else 0
/-- a man is in no agreement that goes on -/
noncomputable def frI (v : Nat → Int32) (fa : Nat → Nat → Int32) (m : Int) : Int := b01 (∀ j, j < (v 43).toNatClampNeg → ¬ ((fa 20 j).toInt = m ∧ gonI v fa j = 1))
/-- a ship has a voyage -/
noncomputable def hvI (v : Nat → Int32) (fa : Nat → Nat → Int32) (s : Int) : Int := b01 (∃ j, j < (v 40).toNatClampNeg ∧ (fa 6 j).toInt = s ∧ (fa 9 j).toInt < 0)
/-- a sum over the places below n -/
def smN (g : Nat → Int) : Nat → Int
  | 0 => 0
  | n + 1 => smN g n + g n
theorem smN_s {g : Nat → Int} {n : Nat} : smN g (n + 1) = smN g n + g n := rfl
theorem smN_c {g g' : Nat → Int} : ∀ {n : Nat}, (∀ j, j < n → g j = g' j) → smN g n = smN g' n := by
  intro n
  induction n with
  | zero => intro _; rfl
  | succ n ih =>
    intro h
    rw [smN_s, smN_s, ih (fun j hj => h j (by omega)), h n (by omega)]
/-- how many agreements of a voyage go on -/
noncomputable def cgI (v : Nat → Int32) (fa : Nat → Nat → Int32) (x : Int) : Int := smN (fun a => if (fa 21 a).toInt = x ∧ gonI v fa a = 1 then 1 else 0) (v 43).toNatClampNeg
-- what calls answer
def aHp (d least now nh r : Int) : Prop := (d < least ∧ r = -4) ∨ (least ≤ d ∧ (now < d ∨ 200 ≤ nh) ∧ r = -6) ∨ (least ≤ d ∧ d ≤ now ∧ nh < 200 ∧ r = nh + 1)
def aVy (s p hv nv r : Int) : Prop := (¬ (0 ≤ s ∧ s < 10 ∧ 0 ≤ p ∧ p < 10) ∧ r = -1) ∨ ((0 ≤ s ∧ s < 10 ∧ 0 ≤ p ∧ p < 10) ∧ hv = 1 ∧ r = -3) ∨ ((0 ≤ s ∧ s < 10 ∧ 0 ≤ p ∧ p < 10) ∧ hv = 0 ∧ 20 ≤ nv ∧ r = -6) ∨ ((0 ≤ s ∧ s < 10 ∧ 0 ≤ p ∧ p < 10) ∧ hv = 0 ∧ nv < 20 ∧ r = nv)
def aHt (x nv en t op d now nh r : Int) : Prop := (¬ (0 ≤ x ∧ x < nv) ∧ r = -1) ∨ ((0 ≤ x ∧ x < nv) ∧ (0 ≤ en ∨ t = 1) ∧ r = -3) ∨ ((0 ≤ x ∧ x < nv) ∧ en < 0 ∧ t = 0 ∧ aHp d op now nh r)
def aHo (a ng off sg d now nh r : Int) : Prop := (¬ (0 ≤ a ∧ a < ng) ∧ r = -1) ∨ ((0 ≤ a ∧ a < ng) ∧ 0 ≤ off ∧ r = -3) ∨ ((0 ≤ a ∧ a < ng) ∧ off < 0 ∧ aHp d sg now nh r)
def aLe (a ng p w off sg d now nh r : Int) : Prop := (¬ (0 ≤ a ∧ a < ng ∧ 0 ≤ p ∧ p < 10) ∧ r = -1) ∨ ((0 ≤ a ∧ a < ng ∧ 0 ≤ p ∧ p < 10) ∧ ¬ (0 ≤ w ∧ w < 3) ∧ r = -2) ∨ ((0 ≤ a ∧ a < ng ∧ 0 ≤ p ∧ p < 10) ∧ (0 ≤ w ∧ w < 3) ∧ 0 ≤ off ∧ r = -3) ∨ ((0 ≤ a ∧ a < ng ∧ 0 ≤ p ∧ p < 10) ∧ (0 ≤ w ∧ w < 3) ∧ off < 0 ∧ aHp d sg now nh r)
def aEn (x nv p en t n r : Int) : Prop := (¬ (0 ≤ x ∧ x < nv ∧ 0 ≤ p ∧ p < 10) ∧ r = -1) ∨ ((0 ≤ x ∧ x < nv ∧ 0 ≤ p ∧ p < 10) ∧ (0 ≤ en ∨ t = 1) ∧ r = -3) ∨ ((0 ≤ x ∧ x < nv ∧ 0 ≤ p ∧ p < 10) ∧ en < 0 ∧ t = 0 ∧ r = n)
def aOf (a ng p g r : Int) : Prop := (¬ (0 ≤ a ∧ a < ng ∧ 0 ≤ p ∧ p < 10) ∧ r = -1) ∨ ((0 ≤ a ∧ a < ng ∧ 0 ≤ p ∧ p < 10) ∧ g = 0 ∧ r = -3) ∨ ((0 ≤ a ∧ a < ng ∧ 0 ≤ p ∧ p < 10) ∧ g = 1 ∧ r = 1)
def sgK (m men x nv p ng : Int) : Prop := 0 ≤ m ∧ m < men ∧ 0 ≤ x ∧ x < nv ∧ (p = -1 ∨ (0 ≤ p ∧ p < ng))
def sgY (en t0 t2 p pof fr : Int) : Prop := en < 0 ∧ t0 = 0 ∧ t2 = 0 ∧ (p < 0 ∨ 0 ≤ pof) ∧ fr = 1
def aSg (m men x nv p ng w k en t0 t2 pof fr wo r : Int) : Prop := (¬ sgK m men x nv p ng ∧ r = -1) ∨ (sgK m men x nv p ng ∧ (w < 1 ∨ k < 0) ∧ r = -4) ∨ (sgK m men x nv p ng ∧ ¬ (w < 1 ∨ k < 0) ∧ (9999 < w ∨ 3 < k ∨ 60 ≤ ng) ∧ r = -6) ∨ (sgK m men x nv p ng ∧ ¬ (w < 1 ∨ k < 0) ∧ ¬ (9999 < w ∨ 3 < k ∨ 60 ≤ ng) ∧ (¬ sgY en t0 t2 p pof fr ∨ wo ≤ 0) ∧ r = -3) ∨ (sgK m men x nv p ng ∧ ¬ (w < 1 ∨ k < 0) ∧ ¬ (9999 < w ∨ 3 < k ∨ 60 ≤ ng) ∧ sgY en t0 t2 p pof fr ∧ 0 < wo ∧ r = ng)
-- what the reference does
/-- a refusal: one more of its kind -/
def sm1 (v : Nat → Int32) (fa : Nat → Nat → Int32) (u : (Nat → Int32) × (Nat → Nat → Int32)) (co : Int32) : Prop := u.1 = v ∧ u.2 = upF fa 0 (-co).toNatClampNeg (fa 0 (-co).toNatClampNeg + 1)
theorem sm1_0 {v : Nat → Int32} {fa : Nat → Nat → Int32} {u : (Nat → Int32) × (Nat → Nat → Int32)} {co : Int32} (h : sm1 v fa u co) : sm0 v fa u := ⟨h.1, fun i hi => by rw [h.2]; exact if_neg hi⟩
/-- a happening more -/
def hpN (v : Nat → Int32) (fa : Nat → Nat → Int32) (k o d w p : Int32) (u : (Nat → Int32) × (Nat → Nat → Int32)) : Prop := (u.1 41).toInt = (v 41).toInt + 1 ∧ u.2 10 = upd (fa 10) (v 41).toNatClampNeg k ∧ u.2 11 = upd (fa 11) (v 41).toNatClampNeg o ∧ u.2 12 = upd (fa 12) (v 41).toNatClampNeg d ∧ u.2 13 = upd (fa 13) (v 41).toNatClampNeg (v 38) ∧ u.2 14 = upd (fa 14) (v 41).toNatClampNeg w ∧ u.2 15 = upd (fa 15) (v 41).toNatClampNeg p
/-- refused, with the answer as its number; or done -/
def rOr (v : Nat → Int32) (fa : Nat → Nat → Int32) (u : (Nat → Int32) × (Nat → Nat → Int32)) (r : Int32) (P : Prop) : Prop := (r.toInt < 0 ∧ sm1 v fa u r) ∨ (0 ≤ r.toInt ∧ u.2 0 = fa 0 ∧ P)
def vyN (v : Nat → Int32) (fa : Nat → Nat → Int32) (s p : Int32) (u : (Nat → Int32) × (Nat → Nat → Int32)) : Prop := (u.1 40).toInt = (v 40).toInt + 1 ∧ u.2 6 = upd (fa 6) (v 40).toNatClampNeg s ∧ u.2 7 = upd (fa 7) (v 40).toNatClampNeg (v 38) ∧ u.2 8 = upd (fa 8) (v 40).toNatClampNeg p ∧ u.2 9 = upd (fa 9) (v 40).toNatClampNeg (-1)
