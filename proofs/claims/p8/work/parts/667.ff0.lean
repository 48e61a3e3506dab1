

/-- a man's, a voyage's, an agreement's address -/
def mnA (S : oS) (o x : Nat) : Nat := oQ S (oQ S o 1) x
def voA (S : oS) (o x : Nat) : Nat := oQ S (oQ S o 3) x
def agA (S : oS) (o x : Nat) : Nat := oQ S (oQ S o 5) x
theorem el_e {S : oS} {o i p kr ke x : Nat} (hI : oInv S) (to : oty S o 10) (hn : nnP 10 p = true) (hc : ctI 10 i = some p) (e1 : rL 10 p = kr) (e2 : rH 10 p = kr) (e3 : rL kr x = ke) (e4 : rH kr x = ke) (hx : x < (oI S o i).toNatClampNeg) : oP S (oQ S o p) x = some (oQ S (oQ S o p) x) ∧ oty S (oQ S (oQ S o p) x) ke := by
  obtain ⟨row, h⟩ := oInv.nn (i := p) hI to hn
  have t1 : oty S row kr := oInv.rd hI to.2 h e1 e2
  obtain ⟨b, hb⟩ := hI.2.2.1 o to.1 i p (by rw [to.2]; exact hc) row h x hx
  rw [oQ_e h, oQ_e hb]
  exact ⟨hb, oInv.rd hI t1.2 hb e3 e4⟩
theorem ro_e {S : oS} {o p kr : Nat} {k : Nat} (hI : oInv S) (to : oty S o k) (hn : nnP k p = true) (e1 : rL k p = kr) (e2 : rH k p = kr) : oP S o p = some (oQ S o p) ∧ oty S (oQ S o p) kr := by
  obtain ⟨row, h⟩ := oInv.nn (i := p) hI to hn
  rw [oQ_e h]
  exact ⟨h, oInv.rd hI to.2 h e1 e2⟩
theorem mnA_e {S : oS} {o x : Nat} (hI : oInv S) (to : oty S o 10) (hx : x < (oI S o 2).toNatClampNeg) : oP S (oQ S o 1) x = some (mnA S o x) ∧ oty S (mnA S o x) 6 := el_e (i := 2) (p := 1) (kr := 14) hI to rfl rfl rfl rfl rfl rfl hx
theorem voA_e {S : oS} {o x : Nat} (hI : oInv S) (to : oty S o 10) (hx : x < (oI S o 4).toNatClampNeg) : oP S (oQ S o 3) x = some (voA S o x) ∧ oty S (voA S o x) 9 := el_e (i := 4) (p := 3) (kr := 15) hI to rfl rfl rfl rfl rfl rfl hx
theorem agA_e {S : oS} {o x : Nat} (hI : oInv S) (to : oty S o 10) (hx : x < (oI S o 6).toNatClampNeg) : oP S (oQ S o 5) x = some (agA S o x) ∧ oty S (agA S o x) 1 := el_e (i := 6) (p := 5) (kr := 16) hI to rfl rfl rfl rfl rfl rfl hx
/-- the happening at b is the reference's i-th -/
def rHp (S : oS) (fa : Nat → Nat → Int32) (b i : Nat) : Prop := (oI S b 1).toInt = (fa 12 i).toInt ∧ (oI S b 2).toInt = (fa 13 i).toInt ∧ (((fa 10 i).toInt = 1 ∧ (oI S b 0).toInt = 3) ∨ ((fa 10 i).toInt = 3 ∧ (oI S b 0).toInt = 0 ∧ (oI S b 3).toInt = (fa 14 i).toInt ∧ (oI S b 4).toInt = (fa 15 i).toInt) ∨ ((fa 10 i).toInt = 4 ∧ (oI S b 0).toInt = 2) ∨ ((fa 10 i).toInt = 5 ∧ (oI S b 0).toInt = 1))
/-- a chain of happenings, the newest first -/
def chn (S : oS) (fa : Nat → Nat → Int32) : List Nat → Option Nat → Prop
  | [], r => r = none
  | i :: l, r => ∃ b, r = some b ∧ rHp S fa b i ∧ chn S fa l (oP S b 5)
/-- the places below n that P chooses, the last first -/
def hls (P : Nat → Bool) : Nat → List Nat
  | 0 => []
  | n + 1 => if P n = true then n :: hls P n else hls P n
theorem hls_mem {P : Nat → Bool} : ∀ {n i : Nat}, i ∈ hls P n ↔ i < n ∧ P i = true := by
  intro n
  induction n with
  | zero =>
    intro i
    exact ⟨fun h => (nomatch h), fun h => absurd h.1 (Nat.not_lt_zero i)⟩
  | succ n ih =>
    intro i
    unfold hls
    split
    · rename_i g
      rw [List.mem_cons, ih]
      constructor
      · rintro (h | h)
        · rw [h]; exact ⟨by omega, g⟩
        · exact ⟨by omega, h.2⟩
      · intro h
        by_cases q : i = n
        · exact Or.inl q
        · exact Or.inr ⟨by omega, h.2⟩
    · rename_i g
      rw [ih]
      constructor
      · intro h; exact ⟨by omega, h.2⟩
      · intro h
        refine ⟨?_, h.2⟩
        by_cases q : i = n
        · rw [q] at h; exact absurd h.2 g
        · omega
theorem hls_c {P P' : Nat → Bool} : ∀ {n : Nat}, (∀ j, j < n → P j = P' j) → hls P n = hls P' n := by
  intro n
  induction n with
  | zero => intro _; rfl
  | succ n ih =>
    intro h
    unfold hls
    rw [ih (fun j hj => h j (by omega)), h n (by omega)]
def hvS (fa : Nat → Nat → Int32) (x i : Nat) : Bool := decide ((fa 10 i).toInt = 1 ∧ (fa 11 i).toInt = (x : Int))
def tdS (fa : Nat → Nat → Int32) (a i : Nat) : Bool := decide (((fa 10 i).toInt = 3 ∨ (fa 10 i).toInt = 4 ∨ (fa 10 i).toInt = 5) ∧ (fa 11 i).toInt = (a : Int))
/-- what is told once of a voyage: its day and when it was told -/
def onc (S : oS) (b d t : Nat) (v : Nat → Int32) (fa : Nat → Nat → Int32) (k : Int) (x : Nat) : Prop := (tldI v fa k x = 0 ∧ (oI S b d).toInt = 1000000 ∧ (oI S b t).toInt = 1000000) ∨ (tldI v fa k x = 1 ∧ ∃ j, j < (v 41).toNatClampNeg ∧ (fa 10 j).toInt = k ∧ (fa 11 j).toInt = x ∧ (∀ i, i < (v 41).toNatClampNeg → (fa 10 i).toInt = k → (fa 11 i).toInt = x → i = j) ∧ (oI S b d).toInt = (fa 12 j).toInt ∧ (oI S b t).toInt = (fa 13 j).toInt ∧ 0 ≤ (oI S b t).toInt ∧ (oI S b t).toInt ≤ 3000 ∧ 0 ≤ (oI S b d).toInt ∧ (oI S b d).toInt ≤ 3000)
/-- the voyage at b is the reference's x-th -/
def rV (S : oS) (b x : Nat) (v : Nat → Int32) (fa : Nat → Nat → Int32) : Prop := (oI S b 0).toInt = (x : Int) ∧ (oI S b 1).toInt = (fa 6 x).toInt ∧ (oI S b 2).toInt = (fa 8 x).toInt ∧ (oI S b 3).toInt = (fa 7 x).toInt ∧ (((oI S b 4).toInt = 0 ∧ (fa 9 x).toInt < 0) ∨ ((oI S b 4).toInt = 1 ∧ 0 ≤ (fa 9 x).toInt)) ∧ onc S b 5 6 v fa 0 x ∧ onc S b 7 8 v fa 2 x ∧ chn S fa (hls (hvS fa x) (v 41).toNatClampNeg) (oP S b 9)
/-- the agreement at b is the reference's a-th -/
def rA (S : oS) (o b a : Nat) (v : Nat → Int32) (fa : Nat → Nat → Int32) : Prop := (0 ≤ (fa 20 a).toInt ∧ (fa 20 a).toInt < (v 39).toInt ∧ oP S b 0 = some (mnA S o (fa 20 a).toNatClampNeg)) ∧ (0 ≤ (fa 21 a).toInt ∧ (fa 21 a).toInt < (v 40).toInt ∧ oP S b 1 = some (voA S o (fa 21 a).toNatClampNeg)) ∧ (oI S b 2).toInt = (fa 25 a).toInt ∧ (((fa 24 a).toInt < 0 ∧ oP S b 3 = none) ∨ (0 ≤ (fa 24 a).toInt ∧ (fa 24 a).toInt < (a : Int) ∧ oP S b 3 = some (agA S o (fa 24 a).toNatClampNeg))) ∧ (oI S b 4).toInt = (fa 22 a).toInt ∧ (oI S b 5).toInt = (fa 23 a).toInt ∧ (((fa 26 a).toInt < 0 ∧ (oI S b 6).toInt = 1000000) ∨ (0 ≤ (fa 26 a).toInt ∧ (fa 26 a).toInt ≤ 3000 ∧ (oI S b 6).toInt = (fa 26 a).toInt)) ∧ (oI S b 7).toInt = tldI v fa 4 a ∧ chn S fa (hls (tdS fa a) (v 41).toNatClampNeg) (oP S b 8)
/-- the man at b is the reference's m-th -/
def rM (S : oS) (b m : Nat) (fa : Nat → Nat → Int32) : Prop := (oI S b 0).toInt = (m : Int) ∧ (oI S b 1).toInt = (fa 2 m).toInt ∧ (oI S b 2).toInt = (fa 3 m).toInt ∧ (oI S b 3).toInt = (fa 4 m).toInt
/-- a row of ints that a thing has is a code -/
def rCd (S : oS) (b : Nat) (E : List Int32) : Prop := E.length ≤ 60 ∧ ∃ cd sk, oP S b 3 = some cd ∧ oty S cd (300 + E.length) ∧ oP S b 4 = some sk ∧ oty S sk (1000 + (E.length + 1)) ∧ isE S cd E
/-- the act at b is the reference's k-th -/
def rAc (S : oS) (b k : Nat) (fa : Nat → Nat → Int32) : Prop := (oI S b 0).toInt = (fa 17 k).toInt ∧ (oI S b 1).toInt = (fa 18 k).toInt ∧ 0 ≤ (fa 18 k).toInt ∧ (cS (txF fa k) 5 0).2.1 = true ∧ rCd S b (cS (txF fa k) 5 0).2.2 ∧ oI S b 2 = (mvS (fun _ => 0) (txF fa k) 5 0).2.2
/-- what holds where no act is in force -/
def cuE (p : Nat) : List Int32 := if p = 0 then [1] else if p = 1 then [-6] else if p = 2 then [100] else if p = 3 then [50] else [90]
def cuW (p : Nat) : Int32 := if p = 0 then 1 else if p = 1 then 0 else if p = 2 then 100 else if p = 3 then 50 else 90
def rCu (S : oS) (b p : Nat) : Prop := (oI S b 0).toInt = (p : Int) ∧ (oI S b 1).toInt = -1 ∧ rCd S b (cuE p) ∧ oI S b 2 = cuW p
def acA (S : oS) (lw k : Nat) : Nat := oQ S (oQ S lw 0) k
def cuA (S : oS) (lw p : Nat) : Nat := oQ S (oQ S lw 1) p
def rLw (S : oS) (lw : Nat) (v : Nat → Int32) (fa : Nat → Nat → Int32) : Prop := (oI S lw 2).toInt = (v 42).toInt ∧ (∀ k, k < (v 42).toNatClampNeg → rAc S (acA S lw k) k fa) ∧ ∀ p, p < 5 → rCu S (cuA S lw p) p
def cN (S : oS) (o : Nat) (v : Nat → Int32) : Prop := (oI S o 0).toInt = (v 38).toInt ∧ (oI S o 2).toInt = (v 39).toInt ∧ (oI S o 4).toInt = (v 40).toInt ∧ (oI S o 6).toInt = (v 43).toInt ∧ (oI S o 7).toInt = (v 41).toInt
def cM (S : oS) (o : Nat) (v : Nat → Int32) (fa : Nat → Nat → Int32) : Prop := ∀ m, m < (v 39).toNatClampNeg → rM S (mnA S o m) m fa
def cV (S : oS) (o : Nat) (v : Nat → Int32) (fa : Nat → Nat → Int32) : Prop := ∀ x, x < (v 40).toNatClampNeg → rV S (voA S o x) x v fa
def cA (S : oS) (o : Nat) (v : Nat → Int32) (fa : Nat → Nat → Int32) : Prop := (∀ a, a < (v 43).toNatClampNeg → rA S o (agA S o a) a v fa) ∧ ∀ a a', a < (v 43).toNatClampNeg → a' < (v 43).toNatClampNeg → agA S o a = agA S o a' → a = a'
def cTp (S : oS) (o : Nat) (v : Nat → Int32) (fa : Nat → Nat → Int32) : Prop := (oI S (oQ S o 9) 1).toInt = (v 46).toInt ∧ ∀ j, j < (v 46).toNatClampNeg → oI S (oQ S (oQ S o 9) 0) j = fa 44 j
/-- of the reference alone -/
def cPm (v : Nat → Int32) (fa : Nat → Nat → Int32) : Prop := (∀ m, m < (v 39).toNatClampNeg → -30000 ≤ (fa 4 m).toInt ∧ (fa 4 m).toInt ≤ (v 38).toInt) ∧ (∀ a, a < (v 43).toNatClampNeg → 1 ≤ (fa 22 a).toInt ∧ (fa 22 a).toInt ≤ 9999 ∧ 0 ≤ (fa 23 a).toInt ∧ (fa 23 a).toInt ≤ 3 ∧ (fa 25 a).toInt ≤ (v 38).toInt) ∧ (∀ i, i < (v 41).toNatClampNeg → (fa 12 i).toInt ≤ (v 38).toInt ∧ 0 ≤ (fa 13 i).toInt ∧ (fa 13 i).toInt ≤ (v 38).toInt ∧ ((fa 10 i).toInt = 0 ∨ (fa 10 i).toInt = 1 ∨ (fa 10 i).toInt = 2 → 0 ≤ (fa 11 i).toInt ∧ (fa 11 i).toInt < (v 40).toInt) ∧ ((fa 10 i).toInt = 3 ∨ (fa 10 i).toInt = 4 ∨ (fa 10 i).toInt = 5 → 0 ≤ (fa 11 i).toInt ∧ (fa 11 i).toInt < (v 43).toInt)) ∧ mV v ∧ mA fa
/-- what holds of both -/
def RC (S : oS) (o : Nat) (v : Nat → Int32) (fa : Nat → Nat → Int32) : Prop := cN S o v ∧ cM S o v fa ∧ cV S o v fa ∧ cA S o v fa ∧ rLw S (oQ S o 8) v fa ∧ cTp S o v fa ∧ cPm v fa
section
variable {S : oS} {o : Nat} {v : Nat → Int32} {fa : Nat → Nat → Int32}
theorem RC.n (h : RC S o v fa) : cN S o v := h.1
theorem RC.m (h : RC S o v fa) {m : Nat} (hm : m < (v 39).toNatClampNeg) : rM S (mnA S o m) m fa := h.2.1 m hm
theorem RC.vo (h : RC S o v fa) {x : Nat} (hx : x < (v 40).toNatClampNeg) : rV S (voA S o x) x v fa := h.2.2.1 x hx
theorem RC.a (h : RC S o v fa) {a : Nat} (ha : a < (v 43).toNatClampNeg) : rA S o (agA S o a) a v fa := h.2.2.2.1.1 a ha
theorem RC.inj (h : RC S o v fa) {a a' : Nat} (ha : a < (v 43).toNatClampNeg) (ha' : a' < (v 43).toNatClampNeg) (e : agA S o a = agA S o a') : a = a' := h.2.2.2.1.2 a a' ha ha' e
theorem RC.l (h : RC S o v fa) : rLw S (oQ S o 8) v fa := h.2.2.2.2.1
theorem RC.t (h : RC S o v fa) : cTp S o v fa := h.2.2.2.2.2.1
theorem RC.p (h : RC S o v fa) : cPm v fa := h.2.2.2.2.2.2
theorem RC.V (h : RC S o v fa) : mV v := h.2.2.2.2.2.2.2.2.2.1
theorem RC.A (h : RC S o v fa) : mA fa := h.2.2.2.2.2.2.2.2.2.2
theorem cn_c {x y : Int32} (h : x.toInt = y.toInt) : x.toNatClampNeg = y.toNatClampNeg := congrArg Int32.toNatClampNeg (Int32.toInt_inj.mp h)
theorem RC.tm (h : RC S o v fa) (hI : oInv S) (to : oty S o 10) {m : Nat} (hm : m < (v 39).toNatClampNeg) : oP S (oQ S o 1) m = some (mnA S o m) ∧ oty S (mnA S o m) 6 := mnA_e hI to (by rw [cn_c h.1.2.1]; exact hm)
theorem RC.tv (h : RC S o v fa) (hI : oInv S) (to : oty S o 10) {x : Nat} (hx : x < (v 40).toNatClampNeg) : oP S (oQ S o 3) x = some (voA S o x) ∧ oty S (voA S o x) 9 := voA_e hI to (by rw [cn_c h.1.2.2.1]; exact hx)
theorem RC.ta (h : RC S o v fa) (hI : oInv S) (to : oty S o 10) {a : Nat} (ha : a < (v 43).toNatClampNeg) : oP S (oQ S o 5) a = some (agA S o a) ∧ oty S (agA S o a) 1 := agA_e hI to (by rw [cn_c h.1.2.2.2.1]; exact ha)
end
/-- refused: one more of its kind -/
def rfO (Z : oS) (o : Nat) (u : oS) (c : Int32) : Prop := u = setI Z (oQ Z o 15) (-c).toNatClampNeg (oI Z (oQ Z o 15) (-c).toNatClampNeg + 1)
def rOo (Z : oS) (o : Nat) (u : oS) (r : Int32) (P : Prop) : Prop := (r.toInt < 0 ∧ rfO Z o u r) ∨ (0 ≤ r.toInt ∧ P)
