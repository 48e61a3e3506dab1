


def mnN (v : Nat → Int32) (fa : Nat → Nat → Int32) (a b d : Int32) (u : (Nat → Int32) × (Nat → Nat → Int32)) : Prop := u.2 2 = upd (fa 2) (v 39).toNatClampNeg a ∧ u.2 3 = upd (fa 3) (v 39).toNatClampNeg b ∧ u.2 4 = upd (fa 4) (v 39).toNatClampNeg d
section
variable {W W1 : List Nat} {S u Z : oS} {o b x a : Nat} {v z : Nat → Int32} {fa fz : Nat → Nat → Int32}
/-- a row of addresses with one more -/
theorem row_up {p kr i : Nat} {q : Nat} {n : Nat} (hI : oInv Z) (to : oty Z o 10) (hn : nnP 10 p = true) (e1 : rL 10 p = kr) (e2 : rH 10 p = kr) (ep : oP u o p = oP Z o p) (er : oP u (oQ Z o p) = va_up (oP Z (oQ Z o p)) n (some q)) : (∀ x, x ≠ n → oQ u (oQ u o p) x = oQ Z (oQ Z o p) x) ∧ oQ u (oQ u o p) n = q := by
  have eo : oQ u o p = oQ Z o p := by unfold oQ; rw [ep]
  rw [eo]
  refine ⟨fun x hx => ?_, ?_⟩
  · show (oP u (oQ Z o p) x).getD 0 = (oP Z (oQ Z o p) x).getD 0
    rw [er, show va_up (oP Z (oQ Z o p)) n (some q) x = oP Z (oQ Z o p) x from if_neg hx]
  · show (oP u (oQ Z o p) n).getD 0 = q
    rw [er, show va_up (oP Z (oQ Z o p)) n (some q) n = some q from if_pos rfl]
    rfl
theorem RC_man {a b d : Int32} (hI : oInv Z) (to : oty Z o 10) (hR : RC Z o v fa) (X : oX [605, 1002, 2014, 2107] Z u) (hc : (oI u o 2).toInt = (oI Z o 2).toInt + 1) (h : mnO Z o a b d u) (hz0 : (z 39).toInt = (v 39).toInt + 1) (hp : mnN v fa a b d (z, fz)) (hd : -30000 ≤ d.toInt ∧ d.toInt ≤ (v 38).toInt) (hz : ∀ i ∈ [38, 40, 43, 41, 42, 46], z i = v i) (hf : ∀ k ∈ [6, 8, 7, 9, 10, 11, 12, 13, 14, 15, 19, 16, 17, 18, 20, 21, 25, 24, 22, 23, 26, 44], fz k = fa k) (hV : mV z) (hA : mA fz) : RC u o z fz := by
  obtain ⟨q, hq, tq, ⟨f0, f1, f2, f3⟩, -, er⟩ := h
  obtain ⟨g1, g2, g3⟩ := hp
  dsimp only at g1 g2 g3
  have hb := (RC.V hR) 39
  have hb : 0 ≤ (v 39).toInt := hb.1
  have en : (oI Z o 2).toNatClampNeg = (v 39).toNatClampNeg := cn_c (RC.n hR).2.1
  have ezn : (z 39).toNatClampNeg = (v 39).toNatClampNeg + 1 := (show (z 39).toInt.toNat = (v 39).toInt.toNat + 1 by omega)
  rw [en] at er
  obtain ⟨em, emn⟩ := row_up (i := 2) (p := 1) (kr := 14) hI to rfl rfl rfl (X.p (i := 1) to (by decide +kernel)) er
  have em : ∀ m, m < (v 39).toNatClampNeg → mnA u o m = mnA Z o m := fun m hm => em m (by omega)
  have emn : mnA u o (v 39).toNatClampNeg = q := emn
  have ev := voA_o X hI to (by decide +kernel) (by decide +kernel)
  have sm : smH v fa z fz := ⟨hz _ (by decide +kernel), hf_sub hf (by decide +kernel)⟩
  refine RC_put ?_ (fun m hm => ?_) (cV_m (cV_o X hI to (by decide +kernel) (RC.n hR).2.2.1 hR.2.2.1) (hz _ (by decide +kernel)) sm (hf_sub hf (by decide +kernel))) (cA_m (cA_o X hI to (by decide +kernel) em (fun m _ => ev m) (RC.n hR).2.2.2.1 hR.2.2.2.1) (hz _ (by decide +kernel)) sm (by omega) (by rw [hz 40 (by decide +kernel)]; omega) (hf_sub hf (by decide +kernel))) (rLw_m (hz _ (by decide +kernel)) (hf_sub hf (by decide +kernel)) (cL_o X hI to (by decide +kernel) (RC.l hR))) (cT_m (cT_o X hI to (by decide +kernel) (RC.t hR)) (hz _ (by decide +kernel)) (hf _ (by decide +kernel))) ?_
  · obtain ⟨n0, n1, n2, n3, n4⟩ := RC.n hR
    unfold cN
    rw [hz 38 (by decide +kernel), hz 40 (by decide +kernel), hz 43 (by decide +kernel), hz 41 (by decide +kernel), X.i (i := 0) to (by decide +kernel), X.i (i := 4) to (by decide +kernel), X.i (i := 6) to (by decide +kernel), X.i (i := 7) to (by decide +kernel)]
    exact ⟨n0, by omega, n2, n3, n4⟩
  · rw [ezn] at hm
    by_cases c : m < (v 39).toNatClampNeg
    · rw [em m c]
      have nx : m ≠ (v 39).toNatClampNeg := by omega
      have g := rM_o X (RC.tm hR hI to c).2 (by decide +kernel) (RC.m hR c)
      unfold rM at *
      rw [g1, g2, g3, upd_ne nx, upd_ne nx, upd_ne nx]
      exact g
    · have ex : m = (v 39).toNatClampNeg := by omega
      subst ex
      rw [emn]
      unfold rM
      rw [g1, g2, g3, upd_eq, upd_eq, upd_eq, f0, f1, f2, f3, tn_i hb]
      exact ⟨(RC.n hR).2.1, rfl, rfl, rfl⟩
  · obtain ⟨p1, p2, p3, -, -⟩ := RC.p hR
    unfold cPm
    rw [hz 38 (by decide +kernel), hz 43 (by decide +kernel), hz 40 (by decide +kernel), hz 41 (by decide +kernel), hf 22 (by decide +kernel), hf 23 (by decide +kernel), hf 25 (by decide +kernel), hf 12 (by decide +kernel), hf 13 (by decide +kernel), hf 10 (by decide +kernel), hf 11 (by decide +kernel), ezn]
    refine ⟨fun m hm => ?_, p2, p3, hV, hA⟩
    rw [g3]
    by_cases c : m = (v 39).toNatClampNeg
    · rw [c, upd_eq]; exact hd
    · rw [upd_ne c]; exact p1 m (by omega)
theorem RC_sgn {m0 x0 w k p : Int32} (hI : oInv Z) (to : oty Z o 10) (hR : RC Z o v fa) (hm0 : 0 ≤ m0.toInt ∧ m0.toInt < (v 39).toInt) (hx0 : 0 ≤ x0.toInt ∧ x0.toInt < (v 40).toInt) (hp0 : p.toInt = -1 ∨ (0 ≤ p.toInt ∧ p.toInt < (v 43).toInt)) (hw : 1 ≤ w.toInt ∧ w.toInt ≤ 9999) (hk : 0 ≤ k.toInt ∧ k.toInt ≤ 3) (h : sgO Z o (mnA Z o m0.toNatClampNeg) (voA Z o x0.toNatClampNeg) (shO Z o p) w k u) (hp : sgN v fa m0 x0 w k p (z, fz)) (hz : ∀ i ∈ [38, 39, 40, 41, 42, 46], z i = v i) (hf : ∀ k ∈ [2, 3, 4, 6, 8, 7, 9, 10, 11, 12, 13, 14, 15, 19, 16, 17, 18, 44], fz k = fa k) (hV : mV z) (hA : mA fz) : RC u o z fz := by
  obtain ⟨q, S1, y, hq, hX, tq, ⟨f0, f1, f2, f3, f6, f7, f8, -⟩, hy, hu⟩ := h
  obtain ⟨h1, g1, g2, g3, g4, g5, g6, g7, -⟩ := hp
  dsimp only at h1 g1 g2 g3 g4 g5 g6 g7
  have hb : 0 ≤ (v 43).toInt := ((RC.V hR) 43).1
  have en : (oI Z o 6).toNatClampNeg = (v 43).toNatClampNeg := cn_c (RC.n hR).2.2.2.1
  have ezn : (z 43).toNatClampNeg = (v 43).toNatClampNeg + 1 := (show (z 43).toInt.toNat = (v 43).toInt.toNat + 1 by omega)
  obtain ⟨hrw, trw⟩ := ro_e (p := 5) (kr := 16) hI to rfl rfl rfl
  have nqo : q ≠ o := fun e => hq (by rw [e]; exact to.1)
  have nqr : q ≠ oQ Z o 5 := fun e => hq (by rw [e]; exact trw.1)
  have X : oX [1006, 2016, 2108, 5001] Z u := by
    rw [hu]
    have X1 : oX [1006, 2016, 2108, 5001] Z (setI (setI S1 q 4 w) q 5 k) := oX.In (oX.In (hX.mono (by decide +kernel)) hq) hq
    exact oX.st (oX.st X1 (W1 := [2016]) (oX.P (k := 16) (key := 2016) (X1.ty trw).2 rfl (List.mem_singleton.mpr rfl)) (by decide +kernel)) (W1 := [1006]) (oX.I (k := 10) (key := 1006) (X1.ty to).2 rfl (List.mem_singleton.mpr rfl)) (by decide +kernel)
  have er : oP u (oQ Z o 5) = va_up (oP Z (oQ Z o 5)) (v 43).toNatClampNeg (some q) := by
    rw [hu]
    show oP (setP (setI (setI S1 q 4 w) q 5 k) (oQ Z o 5) (oI Z o 6).toNatClampNeg (some q)) (oQ Z o 5) = _
    rw [setP_fun, en]
    show va_up (oP S1 (oQ Z o 5)) _ _ = _
    rw [hX.fp trw (fun _ => nkw (by decide +kernel) (by decide +kernel) (by decide +kernel))]
  obtain ⟨ea, ean⟩ := row_up (i := 6) (p := 5) (kr := 16) hI to rfl rfl rfl (X.p (i := 5) to (by decide +kernel)) er
  have ea : ∀ m, m < (v 43).toNatClampNeg → agA u o m = agA Z o m := fun m hm => ea m (by omega)
  have ean : agA u o (v 43).toNatClampNeg = q := ean
  have em := mnA_o X hI to (by decide +kernel) (by decide +kernel)
  have ev := voA_o X hI to (by decide +kernel) (by decide +kernel)
  have sm : smH v fa z fz := ⟨hz _ (by decide +kernel), hf_sub hf (by decide +kernel)⟩
  have nin : ∀ m, m < (v 43).toNatClampNeg → agA Z o m ≠ q := fun m hm e => hq (by rw [← e]; exact (RC.ta hR hI to hm).2.1)
  have fI : ∀ i, i ≠ 4 → i ≠ 5 → oI u q i = oI S1 q i := fun i h4 h5 => by
    rw [hu, setI_oth nqo]
    show oI (setI (setI S1 q 4 w) q 5 k) q i = _
    rw [setI_ne h5, setI_ne h4]
  have fP : ∀ i, oP u q i = oP S1 q i := fun i => by
    rw [hu]
    show oP (setP (setI (setI S1 q 4 w) q 5 k) (oQ Z o 5) (oI Z o 6).toNatClampNeg (some q)) q i = _
    rw [setP_oth nqr]
    rfl
  have k6 : (1000000 : Int32).toInt = 1000000 := by decide
  have km : (-1 : Int32).toInt = -1 := by decide
  have k0 : (0 : Int32).toInt = 0 := by decide
  refine RC_put ?_ (cM_m (cM_o X hI to (by decide +kernel) (RC.n hR).2.1 hR.2.1) (hz _ (by decide +kernel)) (hf_sub hf (by decide +kernel))) (cV_m (cV_o X hI to (by decide +kernel) (RC.n hR).2.2.1 hR.2.2.1) (hz _ (by decide +kernel)) sm (hf_sub hf (by decide +kernel))) ⟨fun m hm => ?_, fun m m' hm hm' e => ?_⟩ (rLw_m (hz _ (by decide +kernel)) (hf_sub hf (by decide +kernel)) (cL_o X hI to (by decide +kernel) (RC.l hR))) (cT_m (cT_o X hI to (by decide +kernel) (RC.t hR)) (hz _ (by decide +kernel)) (hf _ (by decide +kernel))) ?_
  · obtain ⟨n0, n1, n2, n3, n4⟩ := RC.n hR
    unfold cN
    rw [hz 38 (by decide +kernel), hz 39 (by decide +kernel), hz 40 (by decide +kernel), hz 41 (by decide +kernel), X.i (i := 0) to (by decide +kernel), X.i (i := 2) to (by decide +kernel), X.i (i := 4) to (by decide +kernel), X.i (i := 7) to (by decide +kernel)]
    refine ⟨n0, n1, n2, ?_, n4⟩
    rw [hu, setI_same]
    omega
  · rw [ezn] at hm
    by_cases c : m < (v 43).toNatClampNeg
    · rw [ea m c]
      have nx : m ≠ (v 43).toNatClampNeg := by omega
      refine rA_m sm (by rw [hz 39 (by decide +kernel)]; omega) (by rw [hz 40 (by decide +kernel)]; omega) (fun k hk => ?_) (rA_o X hI (RC.ta hR hI to c).2 (by decide +kernel) (fun m _ => em m) (fun m _ => ev m) (fun j hj => ea j (by omega)) (RC.a hR c))
      have hk' : k = 20 ∨ k = 21 ∨ k = 25 ∨ k = 24 ∨ k = 22 ∨ k = 23 ∨ k = 26 := by simpa using hk
      rcases hk' with rfl | rfl | rfl | rfl | rfl | rfl | rfl
      · rw [g1, upd_ne nx]
      · rw [g2, upd_ne nx]
      · rw [g6, upd_ne nx]
      · rw [g5, upd_ne nx]
      · rw [g3, upd_ne nx]
      · rw [g4, upd_ne nx]
      · rw [g7, upd_ne nx]
    · have ex : m = (v 43).toNatClampNeg := by omega
      subst ex
      rw [ean]
      have z4 : tldI z fz 4 ((v 43).toNatClampNeg : Int) = 0 := by rw [sm.tld]; exact no_a hR (by omega) (Nat.le_refl _)
      have zh : hls (tdS fz (v 43).toNatClampNeg) (z 41).toNatClampNeg = [] := by
        rw [td_m sm]
        refine hls_nil (fun j hj g => ?_)
        have g := of_decide_eq_true g
        rcases g.1 with e | e | e
        · exact b01_0 (no_a hR (k := 3) (by omega) (Nat.le_refl _)) ⟨j, hj, e, g.2⟩
        · exact b01_0 (no_a hR (k := 4) (by omega) (Nat.le_refl _)) ⟨j, hj, e, g.2⟩
        · exact b01_0 (no_a hR (k := 5) (by omega) (Nat.le_refl _)) ⟨j, hj, e, g.2⟩
      have e4 : oI u q 4 = w := by
        rw [hu, setI_oth nqo]
        show oI (setI (setI S1 q 4 w) q 5 k) q 4 = _
        rw [setI_ne (by decide +kernel), setI_same]
      have e5 : oI u q 5 = k := by
        rw [hu, setI_oth nqo]
        show oI (setI (setI S1 q 4 w) q 5 k) q 5 = _
        rw [setI_same]
      unfold rA
      rw [zh, z4, g1, g2, g3, g4, g5, g6, g7, upd_eq, upd_eq, upd_eq, upd_eq, upd_eq, upd_eq, upd_eq, hz 39 (by decide +kernel), hz 40 (by decide +kernel), fP, fP, fP, fP, fI 2 (by decide +kernel) (by decide +kernel), fI 6 (by decide +kernel) (by decide +kernel), fI 7 (by decide +kernel) (by decide +kernel), e4, e5, f0, f1, f2, f3, f6, f7, f8, em, ev]
      refine ⟨⟨hm0.1, hm0.2, rfl⟩, ⟨hx0.1, hx0.2, rfl⟩, (RC.n hR).1, ?_, rfl, rfl, Or.inl ⟨by omega, k6⟩, k0, rfl⟩
      unfold shO
      by_cases g : p.toInt < 0
      · rw [if_pos g]; exact Or.inl ⟨g, rfl⟩
      · have hp1 : p.toNatClampNeg < (v 43).toNatClampNeg := (show p.toInt.toNat < (v 43).toInt.toNat by omega)
        rw [if_neg g, ea _ hp1, tn_i hb]
        exact Or.inr ⟨by omega, by omega, rfl⟩
  · rw [ezn] at hm hm'
    by_cases c : m < (v 43).toNatClampNeg
    · by_cases c' : m' < (v 43).toNatClampNeg
      · rw [ea m c, ea m' c'] at e
        exact RC.inj hR c c' e
      · rw [ea m c, show m' = (v 43).toNatClampNeg by omega, ean] at e
        exact absurd e (nin m c)
    · by_cases c' : m' < (v 43).toNatClampNeg
      · rw [ea m' c', show m = (v 43).toNatClampNeg by omega, ean] at e
        exact absurd e.symm (nin m' c')
      · omega
  · obtain ⟨p1, p2, p3, -, -⟩ := RC.p hR
    unfold cPm
    rw [hz 38 (by decide +kernel), hz 39 (by decide +kernel), hz 40 (by decide +kernel), hz 41 (by decide +kernel), hf 4 (by decide +kernel), hf 12 (by decide +kernel), hf 13 (by decide +kernel), hf 10 (by decide +kernel), hf 11 (by decide +kernel), ezn]
    refine ⟨p1, fun m hm => ?_, fun i hi => ⟨(p3 i hi).1, (p3 i hi).2.1, (p3 i hi).2.2.1, (p3 i hi).2.2.2.1, fun g => ⟨((p3 i hi).2.2.2.2 g).1, by have := ((p3 i hi).2.2.2.2 g).2; omega⟩⟩, hV, hA⟩
    rw [g3, g4, g6]
    by_cases c : m = (v 43).toNatClampNeg
    · rw [c, upd_eq, upd_eq, upd_eq]; exact ⟨hw.1, hw.2, hk.1, hk.2, Int.le_refl _⟩
    · rw [upd_ne c, upd_ne c, upd_ne c]; exact p2 m (by omega)
/-- act: the laws with one more -/
theorem rLw_act {lw : Nat} {p d : Int32} {E : List Int32} (hI : oInv Z) (tl : oty Z lw 5) (h : rLw Z lw v fa) (X : oX [502, 801, 803, 804, 805, 2012, 2063, 2107, 5001] Z u) (ha : acO Z lw p d E u) (hc : (oI u lw 2).toInt = (z 42).toInt) (hn : (z 42).toInt = (v 42).toInt + 1) (hn0 : 0 ≤ (v 42).toInt) (h1 : ∀ j, j < (v 42).toNatClampNeg → fz 17 j = fa 17 j ∧ fz 18 j = fa 18 j ∧ txF fz j = txF fa j) (h2 : fz 17 (v 42).toNatClampNeg = p ∧ fz 18 (v 42).toNatClampNeg = d ∧ 0 ≤ d.toInt) (hw : (cS (txF fz (v 42).toNatClampNeg) 5 0).2.1 = true) (hE : (cS (txF fz (v 42).toNatClampNeg) 5 0).2.2 = E) : rLw u lw z fz := by
  obtain ⟨g1, g2, g3⟩ := h
  obtain ⟨q, hq, tq, ⟨⟨f0, f1⟩, f2, f3⟩, er⟩ := ha
  have en : (oI Z lw 2).toNatClampNeg = (v 42).toNatClampNeg := cn_c g1
  have ezn : (z 42).toNatClampNeg = (v 42).toNatClampNeg + 1 := (show (z 42).toInt.toNat = (v 42).toInt.toNat + 1 by omega)
  have e0 : oQ u lw 0 = oQ Z lw 0 := by show (oP u lw 0).getD 0 = (oP Z lw 0).getD 0; rw [X.p (i := 0) tl (by decide +kernel)]
  have e1 : oQ u lw 1 = oQ Z lw 1 := by show (oP u lw 1).getD 0 = (oP Z lw 1).getD 0; rw [X.p (i := 1) tl (by decide +kernel)]
  rw [en] at er
  refine ⟨hc, fun k hk => ?_, fun p hp => ?_⟩
  · rw [ezn] at hk
    by_cases c : k < (v 42).toNatClampNeg
    · have ek : acA u lw k = acA Z lw k := by
        unfold acA
        rw [e0]
        show (oP u (oQ Z lw 0) k).getD 0 = (oP Z (oQ Z lw 0) k).getD 0
        rw [er, show va_up (oP Z (oQ Z lw 0)) (v 42).toNatClampNeg (some q) k = oP Z (oQ Z lw 0) k from if_neg (by omega)]
      obtain ⟨-, tb⟩ := aA_e hI tl (show k < (oI Z lw 2).toNatClampNeg by omega)
      obtain ⟨a0, a1, a2, a3, a4, a5⟩ := g2 k c
      obtain ⟨b1, b2, b3⟩ := h1 k c
      rw [ek]
      unfold rAc
      rw [b1, b2, b3, X.i (i := 0) tb (by decide +kernel), X.i (i := 1) tb (by decide +kernel), X.i (i := 2) tb (by decide +kernel)]
      exact ⟨a0, a1, a2, a3, rCd_o X tb (by decide +kernel) (by decide +kernel) (by decide +kernel) a4, a5⟩
    · have ek : k = (v 42).toNatClampNeg := by omega
      subst ek
      have eq : acA u lw (v 42).toNatClampNeg = q := by
        unfold acA
        rw [e0]
        show (oP u (oQ Z lw 0) (v 42).toNatClampNeg).getD 0 = q
        rw [er, show va_up (oP Z (oQ Z lw 0)) (v 42).toNatClampNeg (some q) (v 42).toNatClampNeg = some q from if_pos rfl]
        rfl
      rw [eq]
      unfold rAc
      rw [h2.1, h2.2.1, f0, f1, hE]
      refine ⟨rfl, rfl, h2.2.2, hw, f2, f3 _ ?_⟩
      have g := cm_valx (c := txF fz (v 42).toNatClampNeg) (L := fun _ => 0) (lt := fun _ => 0) rfl rfl rfl rfl rfl rfl rfl rfl hw []
      rw [hE] at g
      exact g
  · obtain ⟨-, tb⟩ := cA_e hI tl hp
    have tr : oty Z (oQ Z lw 1) 13 := (ro_e (p := 1) hI tl rfl rfl rfl).2
    have ea : cuA u lw p = cuA Z lw p := by unfold cuA; rw [e1]; show (oP u (oQ Z lw 1) p).getD 0 = (oP Z (oQ Z lw 1) p).getD 0; rw [X.fp tr (fun _ => nkw (by decide +kernel) (by decide +kernel) (by decide +kernel))]
    obtain ⟨a0, a1, a4, a5⟩ := g3 p hp
    rw [ea]
    exact ⟨by rw [X.i (i := 0) tb (by decide +kernel)]; exact a0, by rw [X.i (i := 1) tb (by decide +kernel)]; exact a1, rCd_o X tb (by decide +kernel) (by decide +kernel) (by decide +kernel) a4, by rw [X.i (i := 2) tb (by decide +kernel)]; exact a5⟩
end
