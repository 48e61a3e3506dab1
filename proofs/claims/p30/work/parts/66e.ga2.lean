

/-- a fine more -/
def fiO (Z : oS) (b : Nat) (d s rd r : Int32) (u : oS) : Prop := ∃ q S1, q ∉ oL Z ∧ oX [] Z S1 ∧ oty S1 q 2 ∧ (oI S1 q 0 = d ∧ oI S1 q 1 = s ∧ oI S1 q 2 = rd) ∧ r.toInt = (oI Z b 13).toInt + 1 ∧ u = setI (setP S1 (oQ Z b 12) (oI Z b 13).toNatClampNeg (some q)) b 13 r
def fiN (v : Nat → Int32) (fa : Nat → Nat → Int32) (a : Nat) (d s rd : Int32) (u : (Nat → Int32) × (Nat → Nat → Int32)) : Prop := ∃ y : Int32, y.toInt = (fa 30 a).toInt + 1 ∧ u.2 33 = upd (fa 33) (6 * a + (fa 30 a).toNatClampNeg) d ∧ u.2 34 = upd (fa 34) (6 * a + (fa 30 a).toNatClampNeg) s ∧ u.2 37 = upd (fa 37) (6 * a + (fa 30 a).toNatClampNeg) rd ∧ u.2 30 = upd (fa 30) a y
/-- short rations more -/
def raO (Z : oS) (b : Nat) (nw y r : Int32) (u : oS) : Prop := ∃ c : Int32, c.toInt = (oI Z b 16).toInt + 1 ∧ u = setI (setI (setI (setI Z (oQ Z b 14) (oI Z b 16).toNatClampNeg nw) (oQ Z b 15) (oI Z b 16).toNatClampNeg y) b 16 c) b 17 r
def raN (v : Nat → Int32) (fa : Nat → Nat → Int32) (a : Nat) (y r : Int32) (u : (Nat → Int32) × (Nat → Nat → Int32)) : Prop := ∃ c : Int32, c.toInt = (fa 31 a).toInt + 1 ∧ u.2 35 = upd (fa 35) (20 * a + (fa 31 a).toNatClampNeg) (v 38) ∧ u.2 36 = upd (fa 36) (20 * a + (fa 31 a).toNatClampNeg) y ∧ u.2 31 = upd (fa 31) a c ∧ u.2 32 = upd (fa 32) a r
section
variable {W : List Nat} {S u Z : oS} {o b x a n : Nat} {v z : Nat → Int32} {fa fz : Nat → Nat → Int32}
theorem fn_t (hI : oInv Z) (tb : oty Z b 1) {i : Nat} (hi : i < (oI Z b 13).toNatClampNeg) : oP Z (oQ Z b 12) i = some (fnA Z b i) ∧ oty Z (fnA Z b i) 2 := by
  have t12 := ro_e (p := 12) (kr := 17) hI tb rfl rfl rfl
  obtain ⟨f, hf⟩ := hI.2.2.1 b tb.1 13 12 (by rw [tb.2]; rfl) _ t12.1 i hi
  have e : fnA Z b i = f := oQ_e hf
  rw [e]
  exact ⟨hf, oInv.rd hI t12.2.2 hf rfl rfl⟩
theorem r12 (hI : oInv Z) (tb : oty Z b 1) : oP Z b 12 = some (oQ Z b 12) ∧ oty Z (oQ Z b 12) 17 := ro_e (p := 12) (kr := 17) hI tb rfl rfl rfl
theorem r14 (hI : oInv Z) (tb : oty Z b 1) : oP Z b 14 = some (oQ Z b 14) ∧ oty Z (oQ Z b 14) 120 := ro_e (p := 14) (kr := 120) hI tb rfl rfl rfl
theorem r15 (hI : oInv Z) (tb : oty Z b 1) : oP Z b 15 = some (oQ Z b 15) ∧ oty Z (oQ Z b 15) 64 := ro_e (p := 15) (kr := 64) hI tb rfl rfl rfl
/-- behind read -/
theorem RX_read {i : Nat} (hI : oInv Z) (to : oty Z o 10) (hn : (oI Z o 6).toInt = (v 43).toInt) (hA : mA fa) (ha : a < (v 43).toNatClampNeg) (hi : i < (fa 30 a).toNatClampNeg) (hu : u = setI Z (fnA Z (agA Z o a) i) 2 1) (hz : z 43 = v 43) (hw : fz 37 = upd (fa 37) (6 * a + i) 1) (hf : ∀ k ∈ rowX, k ≠ 37 → fz k = fa k) (h : RX Z o v fa) : RX u o z fz := by
  obtain ⟨h1, h2, h3⟩ := h
  have tag : ∀ m, m < (v 43).toNatClampNeg → oty Z (agA Z o m) 1 := fun m hm => tb_ hI to hn hm
  have cnt : ∀ m, m < (v 43).toNatClampNeg → (oI Z (agA Z o m) 13).toNatClampNeg = (fa 30 m).toNatClampNeg := fun m hm => cn_c (h1 m hm).2.2.2.1.1
  have ti := (fn_t hI (tag a ha) (i := i) (by rw [cnt a ha]; exact hi)).2
  have eQ : ∀ b j, oQ u b j = oQ Z b j := fun b j => by unfold oQ; rw [hu]; rfl
  have ea : ∀ m, agA u o m = agA Z o m := fun m => by unfold agA; rw [eQ, eQ]
  have ef : ∀ b j, fnA u b j = fnA Z b j := fun b j => by unfold fnA; rw [eQ, eQ]
  have eI : ∀ c k j, oty Z c k → k ≠ 2 → oI u c j = oI Z c j := fun c k j t m => by rw [hu, setI_oth (ty_ne t ti m)]
  have bF : ∀ m, (fa 30 m).toNatClampNeg ≤ 6 := fun m => by
    have q : 0 ≤ (fa 30 m).toInt ∧ (fa 30 m).toInt ≤ 6 := hA 30 m
    show (fa 30 m).toInt.toNat ≤ 6
    omega
  refine ⟨fun m hm => ?_, ?_, nX_m hz (fun k hk m _ => congrFun (hf k (by revert k; decide) (fun e => by have := mem5 hk; omega)) m) h3⟩
  · rw [hz] at hm
    rw [ea]
    obtain ⟨g1, g2, g3, ⟨g4, g5⟩, ⟨g6, g7, g8, g9, g10⟩⟩ := h1 m hm
    have tm := tag m hm
    refine ⟨?_, ?_, ?_, ⟨?_, fun j hj => ?_⟩, ?_⟩
    · unfold rXn at *
      rw [eI _ 1 9 tm (by decide), hf 27 (by decide) (by decide)]; exact g1
    · unfold rXg at *
      rw [eI _ 1 10 tm (by decide), hf 28 (by decide) (by decide)]; exact g2
    · unfold rXl at *
      rw [eI _ 1 11 tm (by decide), hf 29 (by decide) (by decide)]; exact g3
    · rw [eI _ 1 13 tm (by decide), hf 30 (by decide) (by decide)]; exact g4
    · rw [hf 30 (by decide) (by decide)] at hj
      have q := g5 j hj
      rw [ef]
      have b6 := bF m
      have b7 := bF a
      by_cases c : m = a ∧ j = i
      · obtain ⟨rfl, rfl⟩ := c
        obtain ⟨q1, q2, q3, q4, q5, q6, q7⟩ := q
        unfold rF
        rw [hf 33 (by decide) (by decide), hf 34 (by decide) (by decide), hw, upd_eq, hu, setI_same, setI_ne (by decide), setI_ne (by decide)]
        exact ⟨q1, q2, rfl, by decide, by decide, q6, q7⟩
      · have nf : fnA Z (agA Z o m) j ≠ fnA Z (agA Z o a) i := fun e => c (h2.2.2.2 m a j i hm ha (by rw [cnt m hm]; exact hj) (by rw [cnt a ha]; exact hi) e)
        have nk : 6 * m + j ≠ 6 * a + i := by omega
        unfold rF at *
        rw [hf 33 (by decide) (by decide), hf 34 (by decide) (by decide), hw, upd_ne nk, hu, setI_oth nf]
        exact q
    · unfold rXs
      rw [eI _ 1 16 tm (by decide), eI _ 1 17 tm (by decide), hf 31 (by decide) (by decide), hf 32 (by decide) (by decide), hf 35 (by decide) (by decide), hf 36 (by decide) (by decide), eQ, eQ]
      refine ⟨g6, g7, g8, g9, fun j hj => ?_⟩
      rw [eI _ 120 j (r14 hI tm).2 (by decide), eI _ 64 j (r15 hI tm).2 (by decide)]
      exact g10 j hj
  · rw [hz]
    obtain ⟨s1, s2, s3, s4⟩ := h2
    refine ⟨fun m m' q q' e => ?_, fun m m' q q' e => ?_, fun m m' q q' e => ?_, fun m m' j j' q q' hj hj' e => ?_⟩
    · rw [ea, ea, eQ, eQ] at e; exact s1 m m' q q' e
    · rw [ea, ea, eQ, eQ] at e; exact s2 m m' q q' e
    · rw [ea, ea, eQ, eQ] at e; exact s3 m m' q q' e
    · rw [ea, eI _ 1 13 (tag m q) (by decide)] at hj
      rw [ea, eI _ 1 13 (tag m' q') (by decide)] at hj'
      rw [ea, ea, ef, ef] at e
      exact s4 m m' j j' q q' hj hj' e
/-- behind fine -/
theorem RX_fine {d s rd r : Int32} (hI : oInv Z) (to : oty Z o 10) (hn : (oI Z o 6).toInt = (v 43).toInt) (hA : mA fa) (hinj : ∀ m m', m < (v 43).toNatClampNeg → m' < (v 43).toNatClampNeg → agA Z o m = agA Z o m' → m = m') (ha : a < (v 43).toNatClampNeg) (h6 : (fa 30 a).toInt < 6) (ho : fiO Z (agA Z o a) d s rd r u) (hp : fiN v fa a d s rd (z, fz)) (hs : 1 ≤ s.toInt ∧ s.toInt ≤ 9999) (hr : 0 ≤ rd.toInt ∧ rd.toInt ≤ 1) (hz : z 43 = v 43) (hf : ∀ k ∈ [27, 28, 29, 31, 32, 35, 36], fz k = fa k) (h : RX Z o v fa) : RX u o z fz := by
  obtain ⟨h1, h2, h3⟩ := h
  obtain ⟨q, S1, hq, hX, tq, ⟨f0, f1, f2⟩, er, hu⟩ := ho
  obtain ⟨y, hy, w1, w2, w3, w4⟩ := hp
  dsimp only at w1 w2 w3 w4
  have tag : ∀ m, m < (v 43).toNatClampNeg → oty Z (agA Z o m) 1 := fun m hm => tb_ hI to hn hm
  have cnt : ∀ m, m < (v 43).toNatClampNeg → (oI Z (agA Z o m) 13).toNatClampNeg = (fa 30 m).toNatClampNeg := fun m hm => cn_c (h1 m hm).2.2.2.1.1
  have tb := tag a ha
  have b0 : 0 ≤ (fa 30 a).toInt := (hA 30 a).1
  have n0 : (fa 30 a).toNatClampNeg = (fa 30 a).toInt.toNat := rfl
  have ny : y.toNatClampNeg = (fa 30 a).toNatClampNeg + 1 := (show y.toInt.toNat = (fa 30 a).toInt.toNat + 1 by omega)
  have nr : r.toNatClampNeg = (fa 30 a).toNatClampNeg + 1 := by
    have e := (h1 a ha).2.2.2.1.1
    show r.toInt.toNat = (fa 30 a).toInt.toNat + 1
    omega
  have bF : ∀ m, (fa 30 m).toNatClampNeg ≤ 6 := fun m => by
    have q : 0 ≤ (fa 30 m).toInt ∧ (fa 30 m).toInt ≤ 6 := hA 30 m
    show (fa 30 m).toInt.toNat ≤ 6
    omega
  have eI : ∀ c j, c ∈ oL Z → ¬ (c = agA Z o a ∧ j = 13) → oI u c j = oI Z c j := fun c j hc hn => by
    rw [hu, setI_if hn]
    exact ((hX c hc).2.2 j (by simp)).1
  have eP : ∀ c j, c ∈ oL Z → ¬ (c = oQ Z (agA Z o a) 12 ∧ j = (fa 30 a).toNatClampNeg) → oP u c j = oP Z c j := fun c j hc hn => by
    rw [hu]
    show oP (setP S1 (oQ Z (agA Z o a) 12) (oI Z (agA Z o a) 13).toNatClampNeg (some q)) c j = _
    rw [cnt a ha, setP_if hn]
    exact ((hX c hc).2.2 j (by simp)).2.1
  have eN : oP u (oQ Z (agA Z o a) 12) (fa 30 a).toNatClampNeg = some q := by
    rw [hu]
    show oP (setP S1 (oQ Z (agA Z o a) 12) (oI Z (agA Z o a) 13).toNatClampNeg (some q)) _ _ = _
    rw [cnt a ha, setP_same]
  have eQ : ∀ c k j, oty Z c k → k ≠ 17 → oQ u c j = oQ Z c j := fun c k j t hk => by
    unfold oQ
    rw [eP c j t.1 (fun q => ty_ne t (r12 hI tb).2 hk q.1)]
  have ea : ∀ m, agA u o m = agA Z o m := fun m => by
    unfold agA
    rw [eQ o 10 5 to (by decide), eQ (oQ Z o 5) 16 m (ro_e (p := 5) (kr := 16) hI to rfl rfl rfl).2 (by decide)]
  have ef : ∀ m j, m < (v 43).toNatClampNeg → ¬ (m = a ∧ j = (fa 30 a).toNatClampNeg) → fnA u (agA Z o m) j = fnA Z (agA Z o m) j := fun m j hm hn => by
    unfold fnA
    rw [eQ _ 1 12 (tag m hm) (by decide)]
    show (oP u (oQ Z (agA Z o m) 12) j).getD 0 = (oP Z (oQ Z (agA Z o m) 12) j).getD 0
    rw [eP _ j (r12 hI (tag m hm)).2.1 (fun g => hn ⟨h2.1 m a hm ha g.1, g.2⟩)]
  have efn : fnA u (agA Z o a) (fa 30 a).toNatClampNeg = q := by
    unfold fnA
    rw [eQ _ 1 12 tb (by decide)]
    exact oQ_e eN
  have nqb : q ≠ agA Z o a := fun e => hq (by rw [e]; exact tb.1)
  have eq : ∀ j, oI u q j = oI S1 q j := fun j => by rw [hu, setI_oth nqb]; rfl
  have ft : ∀ m j, m < (v 43).toNatClampNeg → j < (fa 30 m).toNatClampNeg → oty Z (fnA Z (agA Z o m) j) 2 := fun m j hm hj => (fn_t hI (tag m hm) (by rw [cnt m hm]; exact hj)).2
  have nin : ∀ m j, m < (v 43).toNatClampNeg → j < (fa 30 m).toNatClampNeg → fnA Z (agA Z o m) j ≠ q := fun m j hm hj e => hq (by rw [← e]; exact (ft m j hm hj).1)
  have nba : ∀ m, m < (v 43).toNatClampNeg → m ≠ a → agA Z o m ≠ agA Z o a := fun m hm c e => c (hinj m a hm ha e)
  refine ⟨fun m hm => ?_, ?_, fun m hm => ?_⟩
  · rw [hz] at hm
    rw [ea]
    obtain ⟨g1, g2, g3, ⟨g4, g5⟩, ⟨g6, g7, g8, g9, g10⟩⟩ := h1 m hm
    have tm := tag m hm
    have bm := bF m
    have ba := bF a
    refine ⟨?_, ?_, ?_, ?_, ?_⟩
    · unfold rXn at *
      rw [eI _ 9 tm.1 (fun q => absurd q.2 (by decide)), hf 27 (by decide)]; exact g1
    · unfold rXg at *
      rw [eI _ 10 tm.1 (fun q => absurd q.2 (by decide)), hf 28 (by decide)]; exact g2
    · unfold rXl at *
      rw [eI _ 11 tm.1 (fun q => absurd q.2 (by decide)), hf 29 (by decide)]; exact g3
    · have old : ∀ j, j < (fa 30 m).toNatClampNeg → rF u fz (fnA u (agA Z o m) j) (6 * m + j) := fun j hj => by
        have q := g5 j hj
        have nk : 6 * m + j ≠ 6 * a + (fa 30 a).toNatClampNeg := by
          intro e
          have : m = a := by omega
          subst this
          omega
        rw [ef m j hm (fun c => by have := c.1; subst this; omega)]
        have t2 := ft m j hm hj
        have nb : ∀ k, ¬ (fnA Z (agA Z o m) j = agA Z o a ∧ k = 13) := fun k c => ty_ne t2 tb (by decide) c.1
        unfold rF at *
        rw [w1, w2, w3, upd_ne nk, upd_ne nk, upd_ne nk, eI _ 0 t2.1 (nb 0), eI _ 1 t2.1 (nb 1), eI _ 2 t2.1 (nb 2)]
        exact q
      by_cases c : m = a
      · subst c
        unfold rXf
        rw [w4, upd_eq, ny]
        refine ⟨by rw [hu, setI_same]; omega, fun j hj => ?_⟩
        by_cases cj : j < (fa 30 m).toNatClampNeg
        · exact old j cj
        · rw [show j = (fa 30 m).toNatClampNeg by omega, efn]
          unfold rF
          rw [w1, w2, w3, upd_eq, upd_eq, upd_eq, eq, eq, eq, f0, f1, f2]
          exact ⟨rfl, rfl, rfl, hr.1, hr.2, hs.1, hs.2⟩
      · unfold rXf
        rw [w4, upd_ne c, eI _ 13 tm.1 (fun q => nba m hm c q.1)]
        exact ⟨g4, old⟩
    · unfold rXs
      rw [eI _ 16 tm.1 (fun q => absurd q.2 (by decide)), eI _ 17 tm.1 (fun q => absurd q.2 (by decide)), hf 31 (by decide), hf 32 (by decide), hf 35 (by decide), hf 36 (by decide), eQ _ 1 14 tm (by decide), eQ _ 1 15 tm (by decide)]
      refine ⟨g6, g7, g8, g9, fun j hj => ?_⟩
      rw [eI _ j (r14 hI tm).2.1 (fun c => ty_ne (r14 hI tm).2 tb (by decide) c.1), eI _ j (r15 hI tm).2.1 (fun c => ty_ne (r15 hI tm).2 tb (by decide) c.1)]
      exact g10 j hj
  · rw [hz]
    obtain ⟨s1, s2, s3, s4⟩ := h2
    refine ⟨fun m m' q q' e => ?_, fun m m' q q' e => ?_, fun m m' q q' e => ?_, fun m m' j j' q1 q2 hj hj' e => ?_⟩
    · rw [ea, ea, eQ _ 1 12 (tag m q) (by decide), eQ _ 1 12 (tag m' q') (by decide)] at e; exact s1 m m' q q' e
    · rw [ea, ea, eQ _ 1 14 (tag m q) (by decide), eQ _ 1 14 (tag m' q') (by decide)] at e; exact s2 m m' q q' e
    · rw [ea, ea, eQ _ 1 15 (tag m q) (by decide), eQ _ 1 15 (tag m' q') (by decide)] at e; exact s3 m m' q q' e
    · have lt : ∀ m j, m < (v 43).toNatClampNeg → j < (oI u (agA u o m) 13).toNatClampNeg → j < (fa 30 m).toNatClampNeg ∨ (m = a ∧ j = (fa 30 a).toNatClampNeg) := fun m j hm hj => by
        rw [ea] at hj
        by_cases c : m = a
        · subst c
          rw [hu, setI_same, nr] at hj
          by_cases cj : j < (fa 30 m).toNatClampNeg
          · exact Or.inl cj
          · exact Or.inr ⟨rfl, by omega⟩
        · rw [eI _ 13 (tag m hm).1 (fun q => nba m hm c q.1), cnt m hm] at hj
          exact Or.inl hj
      rw [ea, ea] at e
      rcases lt m j q1 hj with c | c
      · rcases lt m' j' q2 hj' with c' | c'
        · rw [ef m j q1 (fun g => by have := g.1; subst this; omega), ef m' j' q2 (fun g => by have := g.1; subst this; omega)] at e
          exact s4 m m' j j' q1 q2 (by rw [cnt m q1]; exact c) (by rw [cnt m' q2]; exact c') e
        · exfalso
          rw [ef m j q1 (fun g => by have := g.1; subst this; omega), c'.1, c'.2, efn] at e
          exact nin m j q1 c e
      · rcases lt m' j' q2 hj' with c' | c'
        · exfalso
          rw [ef m' j' q2 (fun g => by have := g.1; subst this; omega), c.1, c.2, efn] at e
          exact nin m' j' q2 c' e.symm
        · exact ⟨c.1.trans c'.1.symm, c.2.trans c'.2.symm⟩
  · rw [hz] at hm
    rw [hf 27 (by decide), hf 29 (by decide), hf 31 (by decide), hf 32 (by decide), w4, upd_ne (by omega)]
    exact h3 m hm
/-- behind rations -/
theorem RX_rat {nw y y1 r r1 : Int32} (hI : oInv Z) (to : oty Z o 10) (hn : (oI Z o 6).toInt = (v 43).toInt) (hA : mA fa) (hinj : ∀ m m', m < (v 43).toNatClampNeg → m' < (v 43).toNatClampNeg → agA Z o m = agA Z o m' → m = m') (ha : a < (v 43).toNatClampNeg) (h20 : (fa 31 a).toInt < 20) (ho : raO Z (agA Z o a) nw y r u) (hp : raN v fa a y1 r1 (z, fz)) (hnw : nw.toInt = (v 38).toInt) (hy : y.toInt = y1.toInt) (hyb : 0 ≤ y.toInt ∧ y.toInt ≤ 98901) (hr : r.toInt = r1.toInt) (hrb : 0 ≤ r.toInt ∧ r.toInt ≤ 999) (hz : z 43 = v 43) (hf : ∀ k ∈ [27, 28, 29, 30, 33, 34, 37], fz k = fa k) (h : RX Z o v fa) : RX u o z fz := by
  obtain ⟨h1, h2, h3⟩ := h
  obtain ⟨c, hc, hu⟩ := ho
  obtain ⟨c1, hc1, w1, w2, w3, w4⟩ := hp
  dsimp only at w1 w2 w3 w4
  have en : nw = v 38 := Int32.toInt_inj.mp hnw
  have ey : y = y1 := Int32.toInt_inj.mp hy
  have tag : ∀ m, m < (v 43).toNatClampNeg → oty Z (agA Z o m) 1 := fun m hm => tb_ hI to hn hm
  have tb := tag a ha
  have b0 : 0 ≤ (fa 31 a).toInt := (hA 31 a).1
  have cs := (h1 a ha).2.2.2.2.1
  have es : (oI Z (agA Z o a) 16).toNatClampNeg = (fa 31 a).toNatClampNeg := cn_c cs
  have n1 : c1.toNatClampNeg = (fa 31 a).toNatClampNeg + 1 := (show c1.toInt.toNat = (fa 31 a).toInt.toNat + 1 by omega)
  have bS : ∀ m, (fa 31 m).toNatClampNeg ≤ 20 := fun m => by
    have q : 0 ≤ (fa 31 m).toInt ∧ (fa 31 m).toInt ≤ 20 := hA 31 m
    show (fa 31 m).toInt.toNat ≤ 20
    omega
  have n0 : (fa 31 a).toNatClampNeg = (fa 31 a).toInt.toNat := rfl
  have eP : ∀ b j, oP u b j = oP Z b j := fun b j => by rw [hu]; rfl
  have eQ : ∀ b j, oQ u b j = oQ Z b j := fun b j => by unfold oQ; rw [eP]
  have ea : ∀ m, agA u o m = agA Z o m := fun m => by unfold agA; rw [eQ, eQ]
  have ef : ∀ b j, fnA u b j = fnA Z b j := fun b j => by unfold fnA; rw [eQ, eQ]
  have n14 : oQ Z (agA Z o a) 14 ≠ agA Z o a := ty_ne (r14 hI tb).2 tb (by decide)
  have n15 : oQ Z (agA Z o a) 15 ≠ agA Z o a := ty_ne (r15 hI tb).2 tb (by decide)
  have n45 : oQ Z (agA Z o a) 14 ≠ oQ Z (agA Z o a) 15 := ty_ne (r14 hI tb).2 (r15 hI tb).2 (by decide)
  have eI : ∀ b j, b ≠ oQ Z (agA Z o a) 14 → b ≠ oQ Z (agA Z o a) 15 → ¬ (b = agA Z o a ∧ (j = 16 ∨ j = 17)) → oI u b j = oI Z b j := fun b j k1 k2 k3 => by
    rw [hu, setI_if (fun q => k3 ⟨q.1, Or.inr q.2⟩), setI_if (fun q => k3 ⟨q.1, Or.inl q.2⟩), setI_oth k2, setI_oth k1]
  have eK : ∀ b k j, oty Z b k → k ≠ 120 → k ≠ 64 → ¬ (b = agA Z o a ∧ (j = 16 ∨ j = 17)) → oI u b j = oI Z b j := fun b k j t k1 k2 k3 => eI b j (ty_ne t (r14 hI tb).2 k1) (ty_ne t (r15 hI tb).2 k2) k3
  refine ⟨fun m hm => ?_, ?_, fun m hm => ?_⟩
  · rw [hz] at hm
    rw [ea]
    obtain ⟨g1, g2, g3, ⟨g4, g5⟩, ⟨g6, g7, g8, g9, g10⟩⟩ := h1 m hm
    have tm := tag m hm
    have cnt : (oI Z (agA Z o m) 13).toNatClampNeg = (fa 30 m).toNatClampNeg := cn_c g4
    refine ⟨?_, ?_, ?_, ⟨?_, fun j hj => ?_⟩, ?_⟩
    · unfold rXn at *
      rw [eK _ 1 9 tm (by decide) (by decide) (by omega), hf 27 (by decide)]; exact g1
    · unfold rXg at *
      rw [eK _ 1 10 tm (by decide) (by decide) (by omega), hf 28 (by decide)]; exact g2
    · unfold rXl at *
      rw [eK _ 1 11 tm (by decide) (by decide) (by omega), hf 29 (by decide)]; exact g3
    · rw [eK _ 1 13 tm (by decide) (by decide) (by omega), hf 30 (by decide)]; exact g4
    · rw [hf 30 (by decide)] at hj
      have t2 := (fn_t hI tm (i := j) (by rw [cnt]; exact hj)).2
      have nb : ∀ k, ¬ (fnA Z (agA Z o m) j = agA Z o a ∧ (k = 16 ∨ k = 17)) := fun k c => ty_ne t2 tb (by decide) c.1
      have q := g5 j hj
      rw [ef]
      unfold rF at *
      rw [hf 33 (by decide), hf 34 (by decide), hf 37 (by decide), eK _ 2 0 t2 (by decide) (by decide) (nb 0), eK _ 2 1 t2 (by decide) (by decide) (nb 1), eK _ 2 2 t2 (by decide) (by decide) (nb 2)]
      exact q
    · have bm := bS m
      have ba := bS a
      by_cases cm : m = a
      · subst cm
        unfold rXs
        rw [w3, w4, upd_eq, upd_eq, n1, eQ, eQ]
        have e14 : ∀ j, oI u (oQ Z (agA Z o m) 14) j = if j = (fa 31 m).toNatClampNeg then nw else oI Z (oQ Z (agA Z o m) 14) j := fun j => by
          rw [hu, setI_oth n14, setI_oth n14, setI_oth n45, es, setI_fun]
          rfl
        have e15 : ∀ j, oI u (oQ Z (agA Z o m) 15) j = if j = (fa 31 m).toNatClampNeg then y else oI Z (oQ Z (agA Z o m) 15) j := fun j => by
          rw [hu, setI_oth n15, setI_oth n15, es, setI_fun]
          show (if j = _ then y else oI (setI Z (oQ Z (agA Z o m) 14) _ nw) (oQ Z (agA Z o m) 15) j) = _
          rw [setI_oth n45.symm]
        refine ⟨by rw [hu, setI_ne (by decide), setI_same]; omega, by rw [hu, setI_same]; exact hr, by omega, by omega, fun j hj => ?_⟩
        rw [e14, e15]
        by_cases cj : j = (fa 31 m).toNatClampNeg
        · rw [if_pos cj, if_pos cj, cj, w1, w2, upd_eq, upd_eq]
          exact ⟨en, ey, by omega, by omega⟩
        · have nk : 20 * m + j ≠ 20 * m + (fa 31 m).toNatClampNeg := by omega
          rw [if_neg cj, if_neg cj, w1, w2, upd_ne nk, upd_ne nk]
          exact g10 j (by omega)
      · have nb : agA Z o m ≠ agA Z o a := fun e => cm (hinj m a hm ha e)
        unfold rXs
        rw [w3, w4, upd_ne cm, upd_ne cm, eQ, eQ, eK _ 1 16 tm (by decide) (by decide) (fun q => nb q.1), eK _ 1 17 tm (by decide) (by decide) (fun q => nb q.1)]
        refine ⟨g6, g7, g8, g9, fun j hj => ?_⟩
        have nk : 20 * m + j ≠ 20 * a + (fa 31 a).toNatClampNeg := by omega
        rw [w1, w2, upd_ne nk, upd_ne nk, eI _ j (fun e => cm (h2.2.1 m a hm ha e)) (ty_ne (r14 hI tm).2 (r15 hI tb).2 (by decide)) (fun q => ty_ne (r14 hI tm).2 tb (by decide) q.1), eI _ j (ty_ne (r15 hI tm).2 (r14 hI tb).2 (by decide)) (fun e => cm (h2.2.2.1 m a hm ha e)) (fun q => ty_ne (r15 hI tm).2 tb (by decide) q.1)]
        exact g10 j hj
  · rw [hz]
    obtain ⟨s1, s2, s3, s4⟩ := h2
    refine ⟨fun m m' q q' e => ?_, fun m m' q q' e => ?_, fun m m' q q' e => ?_, fun m m' j j' q q' hj hj' e => ?_⟩
    · rw [ea, ea, eQ, eQ] at e; exact s1 m m' q q' e
    · rw [ea, ea, eQ, eQ] at e; exact s2 m m' q q' e
    · rw [ea, ea, eQ, eQ] at e; exact s3 m m' q q' e
    · rw [ea, eK _ 1 13 (tag m q) (by decide) (by decide) (by omega)] at hj
      rw [ea, eK _ 1 13 (tag m' q') (by decide) (by decide) (by omega)] at hj'
      rw [ea, ea, ef, ef] at e
      exact s4 m m' j j' q q' hj hj' e
  · rw [hz] at hm
    rw [hf 27 (by decide), hf 29 (by decide), hf 30 (by decide), w3, w4, upd_ne (by omega), upd_ne (by omega)]
    exact h3 m hm
end
