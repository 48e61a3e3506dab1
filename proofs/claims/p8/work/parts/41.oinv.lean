

/-- a thing that is being made has the kind 30 above its own -/
def bsk (k : Nat) : Nat := if 30 ≤ k ∧ k < 41 then k - 30 else k
def rL0 (k i : Nat) : Nat := match k, i with
  | 0, 3 => 300
  | 0, 4 => 1001
  | 1, 0 => 6
  | 1, 1 => 9
  | 1, 3 => 1
  | 1, 8 => 3
  | 1, 12 => 17
  | 1, 14 => 120
  | 1, 15 => 64
  | 3, 5 => 3
  | 4, 0 => 18
  | 4, 1 => 62
  | 4, 3 => 61
  | 5, 0 => 12
  | 5, 1 => 13
  | 6, 4 => 104
  | 7, 0 => 200
  | 7, 1 => 110
  | 8, 0 => 160
  | 8, 2 => 63
  | 9, 9 => 3
  | 10, 1 => 14
  | 10, 3 => 15
  | 10, 5 => 16
  | 10, 8 => 5
  | 10, 9 => 8
  | 10, 10 => 7
  | 10, 11 => 4
  | 10, 12 => 108
  | 10, 13 => 112
  | 10, 15 => 107
  | _, _ => 1
def rH0 (k i : Nat) : Nat := match k, i with
  | 0, 3 => 360
  | 0, 4 => 1061
  | 1, 0 => 6
  | 1, 1 => 9
  | 1, 3 => 1
  | 1, 8 => 3
  | 1, 12 => 17
  | 1, 14 => 120
  | 1, 15 => 64
  | 3, 5 => 3
  | 4, 0 => 18
  | 4, 1 => 62
  | 4, 3 => 61
  | 5, 0 => 12
  | 5, 1 => 13
  | 6, 4 => 104
  | 7, 0 => 200
  | 7, 1 => 110
  | 8, 0 => 160
  | 8, 2 => 63
  | 9, 9 => 3
  | 10, 1 => 14
  | 10, 3 => 15
  | 10, 5 => 16
  | 10, 8 => 5
  | 10, 9 => 8
  | 10, 10 => 7
  | 10, 11 => 4
  | 10, 12 => 108
  | 10, 13 => 112
  | 10, 15 => 107
  | _, _ => 0
def iL0 (k i : Nat) : Int := match k, i with
  | 1, 13 => 0
  | 1, 16 => 0
  | 4, 2 => 0
  | 4, 4 => 0
  | 5, 2 => 0
  | 8, 1 => 0
  | 8, 3 => 0
  | 8, 4 => 0
  | 9, 2 => 0
  | 9, 3 => 0
  | 9, 5 => 0
  | 10, 0 => 0
  | 10, 2 => 0
  | 10, 4 => 0
  | 10, 6 => 0
  | 10, 14 => 0
  | _, _ => -2147483648
def iH0 (k i : Nat) : Int := match k, i with
  | 1, 13 => 6
  | 1, 16 => 20
  | 4, 2 => 12
  | 4, 4 => 80
  | 5, 2 => 30
  | 8, 1 => 60
  | 8, 3 => 60
  | 8, 4 => 60
  | 9, 2 => 9
  | 9, 3 => 3000
  | 9, 5 => 1000000
  | 10, 0 => 3000
  | 10, 2 => 40
  | 10, 4 => 20
  | 10, 6 => 60
  | 10, 14 => 12
  | _, _ => 2147483647
def nnP (k i : Nat) : Bool := match k, i with
  | 0, 3 => true
  | 0, 4 => true
  | 1, 0 => true
  | 1, 1 => true
  | 1, 12 => true
  | 1, 14 => true
  | 1, 15 => true
  | 4, 0 => true
  | 4, 1 => true
  | 4, 3 => true
  | 5, 0 => true
  | 5, 1 => true
  | 6, 4 => true
  | 7, 0 => true
  | 7, 1 => true
  | 8, 0 => true
  | 8, 2 => true
  | 10, 1 => true
  | 10, 3 => true
  | 10, 5 => true
  | 10, 8 => true
  | 10, 9 => true
  | 10, 10 => true
  | 10, 11 => true
  | 10, 12 => true
  | 10, 13 => true
  | 10, 15 => true
  | _, _ => false
def ctI (k i : Nat) : Option Nat := match k, i with
  | 1, 13 => some 12
  | 5, 2 => some 0
  | 10, 2 => some 1
  | 10, 4 => some 3
  | 10, 6 => some 5
  | _, _ => none
def ctP (k i : Nat) : Bool := match k, i with
  | 1, 12 => true
  | 5, 0 => true
  | 10, 1 => true
  | 10, 3 => true
  | 10, 5 => true
  | _, _ => false
def rL (k i : Nat) : Nat := match k with
  | 12 => 0
  | 13 => 0
  | 14 => 6
  | 15 => 9
  | 16 => 1
  | 17 => 2
  | _ => rL0 (bsk k) i
def rH (k i : Nat) : Nat := match k with
  | 12 => 0
  | 13 => 0
  | 14 => 6
  | 15 => 9
  | 16 => 1
  | 17 => 2
  | _ => rH0 (bsk k) i
def iLo (k i : Nat) : Int := iL0 (bsk k) i
def iHi (k i : Nat) : Int := iH0 (bsk k) i
/-- references go where they should; some are never null; counted rows are filled; ints lie in their bounds; a happening's chain ends; who left sick left at a port -/
def oInv (S : oS) : Prop :=
  (∀ a i b, oP S a i = some b → b ∈ oL S ∧ rL (oK S a) i ≤ oK S b ∧ oK S b ≤ rH (oK S a) i) ∧
  (∀ a, a ∈ oL S → ∀ i, nnP (oK S a) i = true → ∃ b, oP S a i = some b) ∧
  (∀ a, a ∈ oL S → ∀ i p, ctI (oK S a) i = some p → ∀ r, oP S a p = some r → ∀ k, k < (oI S a i).toNatClampNeg → ∃ b, oP S r k = some b) ∧
  (∀ a, a ∈ oL S → oK S a = 5 → ∀ r, oP S a 1 = some r → ∀ k, k < 5 → ∃ b, oP S r k = some b) ∧
  (∀ a i, iLo (oK S a) i ≤ (oI S a i).toInt ∧ (oI S a i).toInt ≤ iHi (oK S a) i) ∧
  (∀ a b, oK S a = 3 → oP S a 5 = some b → oG S b < oG S a) ∧
  (∀ a, oK S a = 3 → (oI S a 3).toInt = -9 ∨ (0 ≤ (oI S a 4).toInt ∧ (oI S a 4).toInt ≤ 9))
/-- where a write goes: an object's field has a key of its own, a row has one by its kind -/
def wk (k i : Nat) : Nat := if k < 11 then 100 * k + i else if 1000 ≤ k then 5001 else if 300 ≤ k then 5000 else 2000 + k
theorem wk_as {n i : Nat} : wk (1000 + n) i = 5001 := by
  unfold wk
  rw [if_neg (by omega), if_pos (by omega)]
theorem wk_ar {n i : Nat} (hn : n < 700) : wk (300 + n) i = 5000 := by
  unfold wk
  rw [if_neg (by omega), if_neg (by omega), if_pos (by omega)]
/-- the addresses stay, with their kinds; only what W names has changed -/
def oX (W : List Nat) (S S1 : oS) : Prop := ∀ a, a ∈ oL S → a ∈ oL S1 ∧ oK S1 a = oK S a ∧ ∀ i, wk (oK S a) i ∉ W → oI S1 a i = oI S a i ∧ oP S1 a i = oP S a i ∧ oJ S1 a i = oJ S a i
theorem oX.rf {W : List Nat} {S : oS} : oX W S S := fun _ h => ⟨h, rfl, fun _ _ => ⟨rfl, rfl, rfl⟩⟩
theorem oX.st {W W1 : List Nat} {S S1 S2 : oS} (h : oX W S S1) (g : oX W1 S1 S2) (hs : ∀ x ∈ W1, x ∈ W) : oX W S S2 := fun a q => by
  obtain ⟨h1, h2, h3⟩ := h a q
  obtain ⟨g1, g2, g3⟩ := g a h1
  refine ⟨g1, g2.trans h2, fun i n => ?_⟩
  obtain ⟨a1, a2, a3⟩ := h3 i n
  obtain ⟨b1, b2, b3⟩ := g3 i (by rw [h2]; exact fun m => n (hs _ m))
  exact ⟨b1.trans a1, b2.trans a2, b3.trans a3⟩
theorem oX.mono {W W1 : List Nat} {S S1 : oS} (g : oX W1 S S1) (hs : ∀ x ∈ W1, x ∈ W) : oX W S S1 := oX.st oX.rf g hs
theorem oX.tr {W : List Nat} {S S1 S2 : oS} (h : oX W S S1) (g : oX W S1 S2) : oX W S S2 := oX.st h g (fun _ q => q)
theorem oX.ty {W : List Nat} {S S1 : oS} {a k : Nat} (h : oX W S S1) (t : oty S a k) : oty S1 a k := ⟨(h a t.1).1, (h a t.1).2.1.trans t.2⟩
theorem oX.I {W : List Nat} {S : oS} {a i k key : Nat} {x : Int32} (hk : oK S a = k) (e : wk k i = key) (hw : key ∈ W) : oX W S (setI S a i x) := fun b h => ⟨h, rfl, fun j n => ⟨setI_if (fun ⟨e1, e2⟩ => n (by rw [e1, e2, hk, e]; exact hw)), rfl, rfl⟩⟩
theorem oX.J {W : List Nat} {S : oS} {a i k key : Nat} {x : Int64} (hk : oK S a = k) (e : ∀ j, wk k j = key) (hw : key ∈ W) : oX W S (setJ S a i x) := fun b h => ⟨h, rfl, fun j n => ⟨rfl, rfl, congrFun (setJ_oth (fun e1 => n (by rw [e1, hk, e]; exact hw))) j⟩⟩
theorem oX.P {W : List Nat} {S : oS} {a i k key : Nat} {x : Option Nat} (hk : oK S a = k) (e : wk k i = key) (hw : key ∈ W) : oX W S (setP S a i x) := fun b h => ⟨h, rfl, fun j n => ⟨rfl, setP_if (fun ⟨e1, e2⟩ => n (by rw [e1, e2, hk, e]; exact hw)), rfl⟩⟩
theorem oX.i {W : List Nat} {S S1 : oS} {a k i : Nat} (h : oX W S S1) (t : oty S a k) (hw : wk k i ∉ W) : oI S1 a i = oI S a i := ((h a t.1).2.2 i (by rw [t.2]; exact hw)).1
theorem oX.p {W : List Nat} {S S1 : oS} {a k i : Nat} (h : oX W S S1) (t : oty S a k) (hw : wk k i ∉ W) : oP S1 a i = oP S a i := ((h a t.1).2.2 i (by rw [t.2]; exact hw)).2.1
theorem oInv.J {S : oS} {a i : Nat} {x : Int64} (h : oInv S) : oInv (setJ S a i x) := h
theorem ct_P : ∀ k i p, ctI k i = some p → ctP k p = true := by
  intro k i p h
  unfold ctI at h
  split at h <;> first | (cases h; rfl) | (cases h)
theorem oInv.I {S : oS} {a i k : Nat} {x : Int32} {lo hi : Int} (h : oInv S) (hk : oK S a = k) (h3 : k ≠ 3) (e1 : iLo k i = lo) (e2 : iHi k i = hi) (hx : lo ≤ x.toInt ∧ x.toInt ≤ hi) (hc : ∀ p, ctI k i = some p → ∀ r, oP S a p = some r → ∀ j, j < x.toNatClampNeg → ∃ b, oP S r j = some b) : oInv (setI S a i x) := by
  obtain ⟨h1, h2, h4, h5, h6, h7, h8⟩ := h
  refine ⟨h1, h2, ?_, h5, ?_, h7, ?_⟩
  · intro b hb j p hp r hr n hn
    by_cases q : b = a ∧ j = i
    · obtain ⟨rfl, rfl⟩ := q
      rw [setI_same] at hn
      exact hc p (by rw [← hk]; exact hp) r hr n hn
    · rw [setI_if q] at hn
      exact h4 b hb j p hp r hr n hn
  · intro b j
    by_cases q : b = a ∧ j = i
    · obtain ⟨rfl, rfl⟩ := q
      rw [setI_same]
      show iLo (oK S b) j ≤ _ ∧ _ ≤ iHi (oK S b) j
      rw [hk, e1, e2]
      exact hx
    · rw [setI_if q]
      exact h6 b j
  · intro b hb
    have q : b ≠ a := fun e => h3 (by rw [← hk, ← e]; exact hb)
    rw [setI_oth q]
    exact h8 b hb
theorem oInv.I0 {S : oS} {a i k : Nat} {x : Int32} {lo hi : Int} (h : oInv S) (hk : oK S a = k) (h3 : k ≠ 3) (hn : ctI k i = none) (e1 : iLo k i = lo) (e2 : iHi k i = hi) (hx : lo ≤ x.toInt ∧ x.toInt ≤ hi) : oInv (setI S a i x) := h.I hk h3 e1 e2 hx (fun p hp => by rw [hn] at hp; cases hp)
theorem iLo_a1 {k i : Nat} (h : 41 ≤ k) : iLo k i = -2147483648 := by
  unfold iLo bsk
  rw [if_neg (by omega)]
  unfold iL0
  split <;> first | rfl | omega
theorem iHi_a1 {k i : Nat} (h : 41 ≤ k) : iHi k i = 2147483647 := by
  unfold iHi bsk
  rw [if_neg (by omega)]
  unfold iH0
  split <;> first | rfl | omega
theorem ctI_a1 {k i : Nat} (h : 41 ≤ k) : ctI k i = none := by
  unfold ctI
  split <;> first | rfl | omega
theorem iLo_ar {n i : Nat} : iLo (300 + n) i = -2147483648 := by
  unfold iLo bsk
  rw [if_neg (by omega)]
  unfold iL0
  split <;> first | rfl | omega
theorem iHi_ar {n i : Nat} : iHi (300 + n) i = 2147483647 := by
  unfold iHi bsk
  rw [if_neg (by omega)]
  unfold iH0
  split <;> first | rfl | omega
theorem ctI_ar {n i : Nat} : ctI (300 + n) i = none := by
  unfold ctI
  split <;> first | rfl | omega
theorem oInv.A {S : oS} {a i k : Nat} {x : Int32} (h : oInv S) (hk : oK S a = k) (hn : 41 ≤ k) : oInv (setI S a i x) := h.I0 hk (by omega) (ctI_a1 hn) (iLo_a1 hn) (iHi_a1 hn) (iv_all x)
theorem oInv.P {S : oS} {a i b k t : Nat} (h : oInv S) (hk : oK S a = k) (h3 : k ≠ 3) (hc : ctP k i = false) (hc5 : ¬ (k = 5 ∧ i = 1)) (hb : oty S b t) (hr : rL k i ≤ t ∧ t ≤ rH k i) : oInv (setP S a i (some b)) := by
  obtain ⟨h1, h2, h4, h5, h6, h7, h8⟩ := h
  have key : ∀ c j d, oP S c j = some d → ∃ e, oP (setP S a i (some b)) c j = some e := fun c j d hd => by
    by_cases q : c = a ∧ j = i
    · obtain ⟨rfl, rfl⟩ := q
      exact ⟨b, setP_same⟩
    · exact ⟨d, by rw [setP_if q]; exact hd⟩
  refine ⟨?_, ?_, ?_, ?_, h6, ?_, h8⟩
  · intro c j d hd
    by_cases q : c = a ∧ j = i
    · obtain ⟨rfl, rfl⟩ := q
      rw [setP_same] at hd
      cases hd
      refine ⟨hb.1, ?_⟩
      show rL (oK S c) j ≤ oK S b ∧ oK S b ≤ rH (oK S c) j
      rw [hk, hb.2]
      exact hr
    · rw [setP_if q] at hd
      exact h1 c j d hd
  · intro c hcL j hj
    obtain ⟨d, hd⟩ := h2 c hcL j hj
    exact key c j d hd
  · intro c hcL j p hp r hr2 n hn
    have q : ¬ (c = a ∧ p = i) := fun ⟨e1, e2⟩ => by
      subst e1 e2
      have := ct_P _ _ _ hp
      rw [show oK (setP S c p (some b)) c = oK S c from rfl, hk, hc] at this
      cases this
    rw [setP_if q] at hr2
    obtain ⟨d, hd⟩ := h4 c hcL j p hp r hr2 n hn
    exact key r n d hd
  · intro c hcL hc2 r hr2 n hn
    have q : ¬ (c = a ∧ 1 = i) := fun ⟨e1, e2⟩ => by
      subst e1
      exact hc5 ⟨by rw [← hk]; exact hc2, e2.symm⟩
    rw [setP_if q] at hr2
    obtain ⟨d, hd⟩ := h5 c hcL hc2 r hr2 n hn
    exact key r n d hd
  · intro c d hc2 hd
    have q : c ≠ a := fun e => h3 (by rw [← hk, ← e]; exact hc2)
    rw [setP_oth q] at hd
    exact h7 c d hc2 hd
/-- what a read gives -/
theorem oInv.rd {S : oS} {a i b k t : Nat} (h : oInv S) (hk : oK S a = k) (hb : oP S a i = some b) (e1 : rL k i = t) (e2 : rH k i = t) : oty S b t := by
  have := h.1 a i b hb
  rw [hk, e1, e2] at this
  exact ⟨this.1, by omega⟩
theorem oInv.rd2 {S : oS} {a i b k : Nat} {lo hi : Nat} (h : oInv S) (hk : oK S a = k) (hb : oP S a i = some b) (e1 : rL k i = lo) (e2 : rH k i = hi) : b ∈ oL S ∧ lo ≤ oK S b ∧ oK S b ≤ hi := by
  have := h.1 a i b hb
  rw [hk, e1, e2] at this
  exact this
theorem oInv.nn {S : oS} {a i k : Nat} (h : oInv S) (ha : oty S a k) (hn : nnP k i = true) : ∃ b, oP S a i = some b := h.2.1 a ha.1 i (by rw [ha.2]; exact hn)
theorem oInv.iv {S : oS} {a i k : Nat} {lo hi : Int} (h : oInv S) (hk : oK S a = k) (e1 : iLo k i = lo) (e2 : iHi k i = hi) : lo ≤ (oI S a i).toInt ∧ (oI S a i).toInt ≤ hi := by
  have := h.2.2.2.2.1 a i
  rw [hk, e1, e2] at this
  exact this
theorem oInv.el {S : oS} {a i p k r : Nat} {x : Int32} (h : oInv S) (ha : oty S a k) (hc : ctI k i = some p) (hr : oP S a p = some r) (h0 : 0 ≤ x.toInt) (hx : x.toInt < (oI S a i).toInt) : ∃ b, oP S r x.toNatClampNeg = some b := h.2.2.1 a ha.1 i p (by rw [ha.2]; exact hc) r hr _ (by
  show x.toInt.toNat < (oI S a i).toInt.toNat
  omega)
theorem oInv.cu {S : oS} {a r : Nat} {x : Int32} (h : oInv S) (ha : oty S a 5) (hr : oP S a 1 = some r) (h0 : 0 ≤ x.toInt ∧ x.toInt ≤ 4) : ∃ b, oP S r x.toNatClampNeg = some b := h.2.2.2.1 a ha.1 ha.2 r hr _ (by
  show x.toInt.toNat < 5
  omega)
