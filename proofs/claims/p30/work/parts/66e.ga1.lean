

section
variable {W : List Nat} {S u Z : oS} {o b x a n : Nat} {v z : Nat → Int32} {fa fz : Nat → Nat → Int32}
theorem RX_sgn {m0 x0 w k p : Int32} {ma va : Nat} {sh : Option Nat} (hI : oInv Z) (to : oty Z o 10) (hn : (oI Z o 6).toInt = (v 43).toInt) (hA : mA fa) (hV : mV v) (h : sgO Z o ma va sh w k u) (hp : sgN v fa m0 x0 w k p (z, fz)) (hf : ∀ k ∈ [27, 29, 30, 31, 32, 33, 34, 37, 35, 36], fz k = fa k) (hR : RX Z o v fa) : RX u o z fz := by
  obtain ⟨r1, r2, r3⟩ := hR
  obtain ⟨q, S1, y, hq, hX, tq, ⟨f0, f1, f2, f3, f6, f7, f8, f9, f10, f11, f12, f13, f14, f15, f16, f17⟩, hy, hu⟩ := h
  obtain ⟨h1, g1, g2, g3, g4, g5, g6, g7, g8⟩ := hp
  dsimp only at h1 g8
  have hb : 0 ≤ (v 43).toInt := (hV 43).1
  have en : (oI Z o 6).toNatClampNeg = (v 43).toNatClampNeg := cn_c hn
  have ezn : (z 43).toNatClampNeg = (v 43).toNatClampNeg + 1 := (show (z 43).toInt.toNat = (v 43).toInt.toNat + 1 by omega)
  obtain ⟨hrw, trw⟩ := ro_e (p := 5) (kr := 16) hI to rfl rfl rfl
  have nqo : q ≠ o := fun e => hq (by rw [e]; exact to.1)
  have nqr : q ≠ oQ Z o 5 := fun e => hq (by rw [e]; exact trw.1)
  have X : oX [1006, 2016, 2108, 5001] Z u := by
    rw [hu]
    have X1 : oX [1006, 2016, 2108, 5001] Z (setI (setI S1 q 4 w) q 5 k) := oX.In (oX.In (hX.mono (by decide)) hq) hq
    exact oX.st (oX.st X1 (W1 := [2016]) (oX.P (k := 16) (key := 2016) (X1.ty trw).2 rfl (List.mem_singleton.mpr rfl)) (by decide)) (W1 := [1006]) (oX.I (k := 10) (key := 1006) (X1.ty to).2 rfl (List.mem_singleton.mpr rfl)) (by decide)
  have er : oP u (oQ Z o 5) = va_up (oP Z (oQ Z o 5)) (v 43).toNatClampNeg (some q) := by
    rw [hu]
    show oP (setP (setI (setI S1 q 4 w) q 5 k) (oQ Z o 5) (oI Z o 6).toNatClampNeg (some q)) (oQ Z o 5) = _
    rw [setP_fun, en]
    show va_up (oP S1 (oQ Z o 5)) _ _ = _
    rw [hX.fp trw (fun _ => nkw (by decide) (by decide) (by decide))]
  obtain ⟨ea, ean⟩ := row_up (i := 6) (p := 5) (kr := 16) hI to rfl rfl rfl (X.p (i := 5) to (by decide)) er
  have ea : ∀ m, m < (v 43).toNatClampNeg → agA u o m = agA Z o m := fun m hm => ea m (by omega)
  have ean : agA u o (v 43).toNatClampNeg = q := ean
  have tag : ∀ m, m < (v 43).toNatClampNeg → oty Z (agA Z o m) 1 := fun m hm => (agA_e hI to (by rw [cn_c hn]; exact hm)).2
  have he : ∀ a, a < (v 43).toNatClampNeg → agA u o a = agA Z o a ∧ exA Z u (agA Z o a) := fun a ha => ⟨ea a ha, exA_o X hI (tag a ha) (by decide)⟩
  have fI : ∀ i, i ≠ 4 → i ≠ 5 → oI u q i = oI S1 q i := fun i h4 h5 => by
    rw [hu, setI_oth nqo]
    show oI (setI (setI S1 q 4 w) q 5 k) q i = _
    rw [setI_ne h5, setI_ne h4]
  have fP : ∀ i, oP u q i = oP S1 q i := fun i => by
    rw [hu]
    show oP (setP (setI (setI S1 q 4 w) q 5 k) (oQ Z o 5) (oI Z o 6).toNatClampNeg (some q)) q i = _
    rw [setP_oth nqr]
    rfl
  have k0 : (0 : Int32).toInt = 0 := by decide
  have k9 : (-9 : Int32).toInt = -9 := by decide
  have c0 : (0 : Int32).toNatClampNeg = 0 := by decide
  obtain ⟨x1, x2, x3, x4, x5⟩ := r3 _ (Nat.le_refl _)
  have nQ : ∀ i, i = 12 ∨ i = 14 ∨ i = 15 → oQ u q i ∉ oL Z := fun i hi => by
    have key : ∃ rw, oP S1 q i = some rw ∧ rw ∉ oL Z := by
      rcases hi with rfl | rfl | rfl
      · exact f12
      · exact f14
      · exact f15
    obtain ⟨rw_, e1, e2⟩ := key
    rw [show oQ u q i = rw_ from oQ_e (by rw [fP]; exact e1)]
    exact e2
  have oQm : ∀ a i kr, a < (v 43).toNatClampNeg → nnP 1 i = true → rL 1 i = kr → rH 1 i = kr → oQ Z (agA Z o a) i ∈ oL Z := fun a i kr ha hn e1 e2 => (ro_e (p := i) (kr := kr) hI (tag a ha) hn e1 e2).2.1
  have e13 : oI u q 13 = 0 := by rw [fI 13 (by decide) (by decide)]; exact f13
  refine ⟨fun a ha => ?_, ?_, fun a ha => ?_⟩
  · rw [ezn] at ha
    by_cases c : a < (v 43).toNatClampNeg
    · rw [ea a c]
      have nx : a ≠ (v 43).toNatClampNeg := by omega
      refine rX_m hA ⟨fun k hk => ?_, fun i _ k hk => ?_, fun i _ k hk => ?_⟩ (rX_S (he a c).2 (r1 a c))
      · by_cases e : k = 28
        · rw [e, g8, upd_ne nx]
        · refine congrFun (hf k ?_) a
          have hk' : k = 27 ∨ k = 28 ∨ k = 29 ∨ k = 30 ∨ k = 31 ∨ k = 32 := by simpa using hk
          rcases hk' with rfl | rfl | rfl | rfl | rfl | rfl <;> first | decide | exact absurd rfl e
      · exact congrFun (hf k (by revert k; decide)) _
      · exact congrFun (hf k (by revert k; decide)) _
    · have ex : a = (v 43).toNatClampNeg := by omega
      subst ex
      rw [ean]
      refine ⟨?_, Or.inl ⟨?_, ?_⟩, ?_, ⟨?_, fun i hi => ?_⟩, ?_, ?_, ?_, ?_, fun i hi => ?_⟩
      · unfold rXn
        rw [fI 9 (by decide) (by decide), f9, hf 27 (by decide), x1]
        decide
      · rw [fI 10 (by decide) (by decide), f10]; exact k0
      · rw [g8, upd_eq]; exact k9
      · unfold rXl
        rw [fI 11 (by decide) (by decide), f11, hf 29 (by decide), x2]
        decide
      · rw [e13, hf 30 (by decide), x3]
      · rw [hf 30 (by decide), x3, c0] at hi
        exact absurd hi (Nat.not_lt_zero i)
      · rw [fI 16 (by decide) (by decide), f16, hf 31 (by decide), x4]
      · rw [fI 17 (by decide) (by decide), f17, hf 32 (by decide), x5]
      · rw [hf 32 (by decide), x5]; decide
      · rw [hf 32 (by decide), x5]; decide
      · rw [hf 31 (by decide), x4, c0] at hi
        exact absurd hi (Nat.not_lt_zero i)
  · rw [ezn]
    obtain ⟨s1, s2, s3, s4⟩ := sX_ex he r2
    have lp : ∀ i kr, (i = 12 ∨ i = 14 ∨ i = 15) → nnP 1 i = true → rL 1 i = kr → rH 1 i = kr → (∀ a a', a < (v 43).toNatClampNeg → a' < (v 43).toNatClampNeg → oQ u (agA u o a) i = oQ u (agA u o a') i → a = a') → ∀ a a', a < (v 43).toNatClampNeg + 1 → a' < (v 43).toNatClampNeg + 1 → oQ u (agA u o a) i = oQ u (agA u o a') i → a = a' := fun i kr hi hn e1 e2 hs a a' ha ha' e => by
      by_cases c : a < (v 43).toNatClampNeg
      · by_cases c' : a' < (v 43).toNatClampNeg
        · exact hs a a' c c' e
        · exfalso
          rw [show a' = (v 43).toNatClampNeg by omega, ean, ea a c, (he a c).2.2.1 i hi] at e
          exact nQ i hi (by rw [← e]; exact oQm a i kr c hn e1 e2)
      · by_cases c' : a' < (v 43).toNatClampNeg
        · exfalso
          rw [show a = (v 43).toNatClampNeg by omega, ean, ea a' c', (he a' c').2.2.1 i hi] at e
          exact nQ i hi (by rw [e]; exact oQm a' i kr c' hn e1 e2)
        · omega
    refine ⟨lp 12 17 (by decide) rfl rfl rfl s1, lp 14 120 (by decide) rfl rfl rfl s2, lp 15 64 (by decide) rfl rfl rfl s3, fun a a' i i' ha ha' hi hi' e => ?_⟩
    have cc : ∀ a i, a < (v 43).toNatClampNeg + 1 → i < (oI u (agA u o a) 13).toNatClampNeg → a < (v 43).toNatClampNeg := fun a i ha hi => by
      by_cases c : a < (v 43).toNatClampNeg
      · exact c
      · rw [show a = (v 43).toNatClampNeg by omega, ean, e13, c0] at hi
        exact absurd hi (Nat.not_lt_zero i)
    exact s4 a a' i i' (cc a i ha hi) (cc a' i' ha' hi') hi hi' e
  · rw [ezn] at ha
    rw [hf 27 (by decide), hf 29 (by decide), hf 30 (by decide), hf 31 (by decide), hf 32 (by decide)]
    exact r3 a (by omega)
theorem mem5 {k : Nat} (h : k ∈ [27, 29, 30, 31, 32]) : k = 27 ∨ k = 29 ∨ k = 30 ∨ k = 31 ∨ k = 32 := by simpa using h
/-- one row of the reference is written, at one agreement -/
theorem smA_1 {k0 : Nat} {y : Int32} (hw : fz k0 = upd (fa k0) a y) (hf : ∀ k ∈ rowX, k ≠ k0 → fz k = fa k) (h0 : k0 = 27 ∨ k0 = 28 ∨ k0 = 29) : ∀ a', a' ≠ a → smA fa fz a' := fun a' c => by
  have g : ∀ k ∈ rowX, fz k a' = fa k a' := fun k hk => by
    by_cases e : k = k0
    · rw [e, hw, upd_ne c]
    · exact congrFun (hf k hk e) a'
  refine ⟨fun k hk => g k (by revert k; decide), fun i _ k hk => ?_, fun i _ k hk => ?_⟩
  · refine congrFun (hf k (by revert k; decide) (fun e => ?_)) _
    have hk' : k = 33 ∨ k = 34 ∨ k = 37 := by simpa using hk
    omega
  · refine congrFun (hf k (by revert k; decide) (fun e => ?_)) _
    have hk' : k = 35 ∨ k = 36 := by simpa using hk
    omega
theorem nX_1 {k0 : Nat} {y : Int32} (ha : a < (v 43).toNatClampNeg) (hw : fz k0 = upd (fa k0) a y) (hf : ∀ k ∈ rowX, k ≠ k0 → fz k = fa k) : ∀ k ∈ [27, 29, 30, 31, 32], ∀ a', (v 43).toNatClampNeg ≤ a' → fz k a' = fa k a' := fun k hk a' ha' => by
  by_cases e : k = k0
  · rw [e, hw, upd_ne (by omega)]
  · exact congrFun (hf k ((by decide : ∀ k ∈ [27, 29, 30, 31, 32], k ∈ rowX) k hk) e) a'
theorem tb_ (hI : oInv Z) (to : oty Z o 10) (hn : (oI Z o 6).toInt = (v 43).toInt) (ha : a < (v 43).toNatClampNeg) : oty Z (agA Z o a) 1 := (agA_e hI to (by rw [cn_c hn]; exact ha)).2
/-- behind advance -/
theorem RX_adv {y : Int32} (hI : oInv Z) (to : oty Z o 10) (hn : (oI Z o 6).toInt = (v 43).toInt) (hA : mA fa) (hinj : ∀ a', a' < (v 43).toNatClampNeg → agA Z o a' = agA Z o a → a' = a) (ha : a < (v 43).toNatClampNeg) (hu : u = setI Z (agA Z o a) 9 y) (hy : 1 ≤ y.toInt ∧ y.toInt ≤ 99999) (hz : z 43 = v 43) (hw : fz 27 = upd (fa 27) a y) (hf : ∀ k ∈ rowX, k ≠ 27 → fz k = fa k) (h : RX Z o v fa) : RX u o z fz := by
  refine RX_one hI to hn hA hinj ha hu (by decide) hz (smA_1 hw hf (Or.inl rfl)) (nX_1 ha hw hf) ?_ h
  obtain ⟨g1, g2, g3, g4, g5⟩ := h.1 a ha
  have eI : ∀ j, j ≠ 9 → oI u (agA Z o a) j = oI Z (agA Z o a) j := fun j hj => by rw [hu, setI_ne hj]
  refine ⟨?_, ?_, ?_, ?_, ?_⟩
  · unfold rXn
    rw [hw, upd_eq, hu, setI_same]
    omega
  · unfold rXg at *
    rw [eI 10 (by decide), hf 28 (by decide) (by decide)]; exact g2
  · unfold rXl at *
    rw [eI 11 (by decide), hf 29 (by decide) (by decide)]; exact g3
  · have e := rXf_R (exR_w hI (tb_ hI to hn ha) hu) (eI 13 (by decide)) g4
    unfold rXf rF at *
    rw [hf 30 (by decide) (by decide), hf 33 (by decide) (by decide), hf 34 (by decide) (by decide), hf 37 (by decide) (by decide)]
    exact e
  · have e := rXs_R (exR_w hI (tb_ hI to hn ha) hu) (eI 16 (by decide)) (eI 17 (by decide)) g5
    unfold rXs at *
    rw [hf 31 (by decide) (by decide), hf 32 (by decide) (by decide), hf 35 (by decide) (by decide), hf 36 (by decide) (by decide)]
    exact e
/-- behind sold -/
theorem RX_sold {y : Int32} (hI : oInv Z) (to : oty Z o 10) (hn : (oI Z o 6).toInt = (v 43).toInt) (hA : mA fa) (hinj : ∀ a', a' < (v 43).toNatClampNeg → agA Z o a' = agA Z o a → a' = a) (ha : a < (v 43).toNatClampNeg) (hu : u = setI Z (agA Z o a) 10 y) (hy : 1 ≤ y.toInt) (hz : z 43 = v 43) (hw : fz 28 = upd (fa 28) a y) (hf : ∀ k ∈ rowX, k ≠ 28 → fz k = fa k) (h : RX Z o v fa) : RX u o z fz := by
  refine RX_one hI to hn hA hinj ha hu (by decide) hz (smA_1 hw hf (Or.inr (Or.inl rfl))) (nX_1 ha hw hf) ?_ h
  obtain ⟨g1, g2, g3, g4, g5⟩ := h.1 a ha
  have eI : ∀ j, j ≠ 10 → oI u (agA Z o a) j = oI Z (agA Z o a) j := fun j hj => by rw [hu, setI_ne hj]
  refine ⟨?_, ?_, ?_, ?_, ?_⟩
  · unfold rXn at *
    rw [eI 9 (by decide), hf 27 (by decide) (by decide)]; exact g1
  · refine Or.inr ⟨?_, ?_⟩
    · rw [hu, setI_same]; exact hy
    · rw [hw, upd_eq, hu, setI_same]
  · unfold rXl at *
    rw [eI 11 (by decide), hf 29 (by decide) (by decide)]; exact g3
  · have e := rXf_R (exR_w hI (tb_ hI to hn ha) hu) (eI 13 (by decide)) g4
    unfold rXf rF at *
    rw [hf 30 (by decide) (by decide), hf 33 (by decide) (by decide), hf 34 (by decide) (by decide), hf 37 (by decide) (by decide)]
    exact e
  · have e := rXs_R (exR_w hI (tb_ hI to hn ha) hu) (eI 16 (by decide)) (eI 17 (by decide)) g5
    unfold rXs at *
    rw [hf 31 (by decide) (by decide), hf 32 (by decide) (by decide), hf 35 (by decide) (by decide), hf 36 (by decide) (by decide)]
    exact e
/-- behind allot -/
theorem RX_allot {y : Int32} (hI : oInv Z) (to : oty Z o 10) (hn : (oI Z o 6).toInt = (v 43).toInt) (hA : mA fa) (hinj : ∀ a', a' < (v 43).toNatClampNeg → agA Z o a' = agA Z o a → a' = a) (ha : a < (v 43).toNatClampNeg) (hu : u = setI Z (agA Z o a) 11 y) (hy : 1 ≤ y.toInt ∧ y.toInt ≤ 9999) (hz : z 43 = v 43) (hw : fz 29 = upd (fa 29) a y) (hf : ∀ k ∈ rowX, k ≠ 29 → fz k = fa k) (h : RX Z o v fa) : RX u o z fz := by
  refine RX_one hI to hn hA hinj ha hu (by decide) hz (smA_1 hw hf (Or.inr (Or.inr rfl))) (nX_1 ha hw hf) ?_ h
  obtain ⟨g1, g2, g3, g4, g5⟩ := h.1 a ha
  have eI : ∀ j, j ≠ 11 → oI u (agA Z o a) j = oI Z (agA Z o a) j := fun j hj => by rw [hu, setI_ne hj]
  refine ⟨?_, ?_, ?_, ?_, ?_⟩
  · unfold rXn at *
    rw [eI 9 (by decide), hf 27 (by decide) (by decide)]; exact g1
  · unfold rXg at *
    rw [eI 10 (by decide), hf 28 (by decide) (by decide)]; exact g2
  · unfold rXl
    rw [hw, upd_eq, hu, setI_same]
    omega
  · have e := rXf_R (exR_w hI (tb_ hI to hn ha) hu) (eI 13 (by decide)) g4
    unfold rXf rF at *
    rw [hf 30 (by decide) (by decide), hf 33 (by decide) (by decide), hf 34 (by decide) (by decide), hf 37 (by decide) (by decide)]
    exact e
  · have e := rXs_R (exR_w hI (tb_ hI to hn ha) hu) (eI 16 (by decide)) (eI 17 (by decide)) g5
    unfold rXs at *
    rw [hf 31 (by decide) (by decide), hf 32 (by decide) (by decide), hf 35 (by decide) (by decide), hf 36 (by decide) (by decide)]
    exact e
end
