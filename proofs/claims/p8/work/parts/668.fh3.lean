

section
variable {W : List Nat} {S u Z : oS} {o b x a th fi : Nat} {v z : Nat → Int32} {fa fz : Nat → Nat → Int32} {k q d w p : Int32}
def fldH : List Nat := [38, 39, 40, 43, 42, 46]
def rowH : List Nat := [2, 3, 4, 6, 8, 7, 9, 19, 16, 17, 18, 20, 21, 25, 24, 22, 23, 26, 44]
/-- keys that no happening touches -/
def keysH : List Nat := [1000, 1002, 1004, 1006, 1001, 2014, 600, 601, 602, 603, 1003, 2015, 1005, 2016, 1008, 500, 501, 502, 2012, 2013, 0, 1, 2, 3, 4, 5000, 1009, 800, 801, 2160]
theorem RC_hap (hI : oInv Z) (to : oty Z o 10) (hR : RC Z o v fa) (X : oX W Z u) (hk : ∀ k ∈ keysH, k ∉ W) (h7 : (oI u o 7).toInt = (oI Z o 7).toInt + 1) (hV' : ∀ x, x < (v 40).toNatClampNeg → rV u (voA Z o x) x z fz) (hA' : ∀ a, a < (v 43).toNatClampNeg → rA u o (agA Z o a) a z fz) (hp : hpN v fa k q d w p (z, fz)) (hd : d.toInt ≤ (v 38).toInt) (hq : (k.toInt = 0 ∨ k.toInt = 1 ∨ k.toInt = 2 → 0 ≤ q.toInt ∧ q.toInt < (v 40).toInt) ∧ (k.toInt = 3 ∨ k.toInt = 4 ∨ k.toInt = 5 → 0 ≤ q.toInt ∧ q.toInt < (v 43).toInt)) (hz : ∀ i ∈ fldH, z i = v i) (hf : ∀ k ∈ rowH, fz k = fa k) (hV : mV z) (hA : mA fz) : RC u o z fz := by
  have hk2 : ∀ L : List Nat, (∀ k ∈ L, k ∈ keysH) → ∀ k ∈ L, k ∉ W := fun L g k h3 => hk k (g k h3)
  have hn := RC.n hR
  have em := mnA_o X hI to (hk _ (by decide +kernel)) (hk _ (by decide +kernel))
  have ev := voA_o X hI to (hk _ (by decide +kernel)) (hk _ (by decide +kernel))
  have ea := agA_o X hI to (hk _ (by decide +kernel)) (hk _ (by decide +kernel))
  have h1 : (z 41).toInt = (v 41).toInt + 1 := hp.1
  refine ⟨?_, ?_, ?_, ⟨?_, ?_⟩, ?_, ?_, ?_⟩
  · obtain ⟨n0, n1, n2, n3, n4⟩ := hn
    unfold cN
    rw [hz 38 (by decide +kernel), hz 39 (by decide +kernel), hz 40 (by decide +kernel), hz 43 (by decide +kernel), X.i (i := 0) to (hk 1000 (by decide +kernel)), X.i (i := 2) to (hk 1002 (by decide +kernel)), X.i (i := 4) to (hk 1004 (by decide +kernel)), X.i (i := 6) to (hk 1006 (by decide +kernel))]
    exact ⟨n0, n1, n2, n3, by omega⟩
  · have g := cM_o X hI to (hk2 _ (by decide +kernel)) hn.2.1 hR.2.1
    unfold cM rM at *
    rw [hz 39 (by decide +kernel), hf 2 (by decide +kernel), hf 3 (by decide +kernel), hf 4 (by decide +kernel)]
    exact g
  · intro m hm
    rw [hz 40 (by decide +kernel)] at hm
    rw [ev]
    exact hV' m hm
  · intro m hm
    rw [hz 43 (by decide +kernel)] at hm
    rw [ea]
    exact hA' m hm
  · rw [hz 43 (by decide +kernel)]
    intro m m' q q' e
    rw [ea, ea] at e
    exact RC.inj hR q q' e
  · exact rLw_m (hz _ (by decide +kernel)) (fun k hk => hf k (by revert k; decide)) (cL_o X hI to (hk2 _ (by decide +kernel)) (RC.l hR))
  · have g := cT_o X hI to (hk2 _ (by decide +kernel)) (RC.t hR)
    unfold cTp at *
    rw [hz 46 (by decide +kernel), hf 44 (by decide +kernel)]
    exact g
  · obtain ⟨p1, p2, p3, g1, g2⟩ := RC.p hR
    unfold cPm
    rw [hz 38 (by decide +kernel), hz 39 (by decide +kernel), hz 43 (by decide +kernel), hz 40 (by decide +kernel), hf 4 (by decide +kernel), hf 22 (by decide +kernel), hf 23 (by decide +kernel), hf 25 (by decide +kernel)]
    refine ⟨p1, p2, fun i hi => ?_, hV, hA⟩
    rw [hp_n hp g1] at hi
    by_cases e : i = (v 41).toNatClampNeg
    · obtain ⟨a1, a2, a3, a4, -⟩ := hp_at hp
      rw [e, a1, a2, a3, a4]
      have : 0 ≤ (v 38).toInt := (g1 38).1
      exact ⟨hd, this, Int.le_refl _, hq⟩
    · have l := hp_lt hp (j := i) (by omega)
      rw [l 12 (by decide +kernel), l 13 (by decide +kernel), l 10 (by decide +kernel), l 11 (by decide +kernel)]
      exact p3 i (by omega)
theorem sub7 {L : List Nat} (hf : ∀ k ∈ rowH, fz k = fa k) (h : ∀ k ∈ L, k ∈ rowH) : ∀ k ∈ L, fz k = fa k := fun k hk => hf k (h k hk)
theorem inv7 (hI : oInv Z) (tb : oty Z b 1) : oInv (setI Z b 7 1) := oInv.I0 (k := 1) (lo := -2147483648) (hi := 2147483647) hI tb.2 (by decide +kernel) rfl rfl rfl (iv_all _)
/-- behind left, back, died -/
theorem RC_tid {Z1 : oS} {kd dy wy pt r : Int32} (hI : oInv Z) (to : oty Z o 10) (hR : RC Z o v fa) (ha : a < (v 43).toNatClampNeg) (h : hapO Z1 o (agA Z o a) 8 kd dy wy pt r u) (hZ : (Z1 = Z ∧ k.toInt ≠ 4) ∨ (Z1 = setI Z (agA Z o a) 7 1 ∧ k.toInt = 4)) (hp : hpN v fa k q d w p (z, fz)) (eq : q.toInt = (a : Int)) (ed : dy.toInt = d.toInt) (hw : (k.toInt = 3 ∧ kd.toInt = 0 ∧ wy.toInt = w.toInt ∧ pt.toInt = p.toInt) ∨ (k.toInt = 4 ∧ kd.toInt = 2) ∨ (k.toInt = 5 ∧ kd.toInt = 1)) (hd : d.toInt ≤ (v 38).toInt) (hz : ∀ i ∈ fldH, z i = v i) (hf : ∀ k ∈ rowH, fz k = fa k) (hV : mV z) (hA : mA fz) : RC u o z fz := by
  have tb := (RC.ta hR hI to ha).2
  have g1 := RC.V hR
  have nob : o ≠ agA Z o a := ty_ne to tb (by decide +kernel)
  have X1 : oX [107] Z Z1 := by
    rcases hZ with ⟨e, -⟩ | ⟨e, -⟩
    · rw [e]; exact oX.rf
    · rw [e]; exact oX.I (k := 1) (key := 107) tb.2 rfl (List.mem_singleton.mpr rfl)
  have hI1 : oInv Z1 := by
    rcases hZ with ⟨e, -⟩ | ⟨e, -⟩
    · rw [e]; exact hI
    · rw [e]; exact inv7 hI tb
  have eI : ∀ c i, ¬ (c = agA Z o a ∧ i = 7) → oI Z1 c i = oI Z c i := fun c i hn => by
    rcases hZ with ⟨e, -⟩ | ⟨e, -⟩
    · rw [e]
    · rw [e, setI_if hn]
  have eP : ∀ c i, oP Z1 c i = oP Z c i := fun c i => by
    rcases hZ with ⟨e, -⟩ | ⟨e, -⟩ <;> rw [e] <;> rfl
  have to1 : oty Z1 o 10 := X1.ty to
  have tb1 : oty Z1 (agA Z o a) 1 := X1.ty tb
  have X2 : oX [1007, 108] Z1 u := hapO_x h to1 tb1 (by decide +kernel) (by decide +kernel)
  have X : oX [107, 1007, 108] Z u := oX.st (oX.st (W1 := [107]) oX.rf X1 (by decide +kernel)) X2 (by decide +kernel)
  have em := mnA_o X hI to (by decide +kernel) (by decide +kernel)
  have ev := voA_o X hI to (by decide +kernel) (by decide +kernel)
  have ea := agA_o X hI to (by decide +kernel) (by decide +kernel)
  have e0 : oI Z1 o 0 = oI Z o 0 := eI o 0 (fun q => nob q.1)
  have e7 : oI Z1 o 7 = oI Z o 7 := eI o 7 (fun q => nob q.1)
  refine RC_hap hI to hR X (by decide +kernel) (by rw [hapO_7 h, e7]) (fun x hx => ?_) (fun a' ha' => ?_) hp hd ?_ hz hf hV hA
  · exact rV_hp hp g1 (sub7 hf (by decide +kernel)) (by omega) (rV_o X hI (RC.tv hR hI to hx).2 (by decide +kernel) (RC.vo hR hx))
  · have tb' := (RC.ta hR hI to ha').2
    by_cases c : a' = a
    · subst c
      obtain ⟨⟨m1, m2, m3⟩, ⟨v1, v2, v3⟩, h2, h3, h4, h5, h6, h7, h8⟩ := RC.a hR ha'
      have fI : ∀ i, i ≠ 7 → oI u (agA Z o a') i = oI Z (agA Z o a') i := fun i hi => (hapO_I h (X1 _ tb.1).1 (fun q => nob q.1.symm)).trans (eI _ i (fun q => hi q.2))
      have fP : ∀ i, i ≠ 8 → oP u (agA Z o a') i = oP Z (agA Z o a') i := fun i hi => (hapO_P h (X1 _ tb.1).1 (fun q => hi q.2)).trans (eP _ i)
      obtain ⟨a1, a2, a3, a4, a5, a6⟩ := hp_at hp
      unfold rA
      rw [sub7 hf (L := [20, 21, 25, 24, 22, 23, 26]) (by decide +kernel) 20 (by decide +kernel), sub7 hf (L := [20, 21, 25, 24, 22, 23, 26]) (by decide +kernel) 21 (by decide +kernel), hf 25 (by decide +kernel), hf 24 (by decide +kernel), hf 22 (by decide +kernel), hf 23 (by decide +kernel), hf 26 (by decide +kernel), hz 39 (by decide +kernel), hz 40 (by decide +kernel), fP 0 (by decide +kernel), fP 1 (by decide +kernel), fP 3 (by decide +kernel), fI 2 (by decide +kernel), fI 4 (by decide +kernel), fI 5 (by decide +kernel), fI 6 (by decide +kernel), tldI_hp hp g1, hls_td hp g1, if_pos (c := (k.toInt = 3 ∨ k.toInt = 4 ∨ k.toInt = 5) ∧ q.toInt = (a' : Int)) ⟨by omega, eq⟩, em, ev, ea]
      refine ⟨⟨m1, m2, m3⟩, ⟨v1, v2, v3⟩, h2, h3, h4, h5, h6, ?_, ?_⟩
      · rcases hZ with ⟨e, ne4⟩ | ⟨e, e4⟩
        · rw [if_neg (by omega), hapO_I h (X1 _ tb.1).1 (fun q => nob q.1.symm), e]
          exact h7
        · rw [if_pos (by omega), hapO_I h (X1 _ tb.1).1 (fun q => nob q.1.symm), e, setI_same]
          decide
      · have h8' : chn Z1 fa (hls (tdS fa a') (v 41).toNatClampNeg) (oP Z1 (agA Z o a') 8) := by
          rw [eP]
          exact chn_o X1 hI (by decide +kernel) _ _ (fun c hc => oInv.rd hI tb.2 hc rfl rfl) h8
        refine hapO_c h hI1 to1 tb1 (by decide +kernel) (by decide +kernel) (by decide +kernel) ⟨rfl, rfl⟩ _ (chn_hp hp h8') (by rw [a3]; exact ed) ?_ ?_
        · rw [a4, e0]
          exact (RC.n hR).1
        · rw [a1, a5, a6]
          omega
    · have nb : agA Z o a' ≠ agA Z o a := fun e => c (RC.inj hR ha' ha e)
      refine rA_hp hp g1 (hz _ (by decide +kernel)) (hz _ (by decide +kernel)) (sub7 hf (by decide +kernel)) (by omega) ?_
      refine rA_S (fun i _ => (hapO_I h (X1 _ tb'.1).1 (fun q => absurd q.1 (ty_ne tb' to (by decide +kernel)))).trans (eI _ i (fun q => nb q.1))) (fun i _ => (hapO_P h (X1 _ tb'.1).1 (fun q => nb q.1)).trans (eP _ i)) (fun m _ => em m) (fun m _ => ev m) (fun m _ => ea m) ?_ (RC.a hR ha')
      rw [(hapO_P h (X1 _ tb'.1).1 (i := 8) (fun q => nb q.1)).trans (eP _ 8)]
      exact chn_o X hI (by decide +kernel) _ _ (fun c hc => oInv.rd hI tb'.2 hc rfl rfl) (RC.a hR ha').2.2.2.2.2.2.2.2
  · have e1 : (v 43).toNatClampNeg = (v 43).toInt.toNat := rfl
    omega
/-- behind heard -/
theorem RC_hrd {kd dy wy pt r : Int32} (hI : oInv Z) (to : oty Z o 10) (hR : RC Z o v fa) (hx : x < (v 40).toNatClampNeg) (h : hapO Z o (voA Z o x) 9 kd dy wy pt r u) (hp : hpN v fa k q d w p (z, fz)) (eq : q.toInt = (x : Int)) (ed : dy.toInt = d.toInt) (hw : k.toInt = 1 ∧ kd.toInt = 3) (hd : d.toInt ≤ (v 38).toInt) (hz : ∀ i ∈ fldH, z i = v i) (hf : ∀ k ∈ rowH, fz k = fa k) (hV : mV z) (hA : mA fz) : RC u o z fz := by
  have tb := (RC.tv hR hI to hx).2
  have g1 := RC.V hR
  have nob : o ≠ voA Z o x := ty_ne to tb (by decide +kernel)
  have X : oX [1007, 909] Z u := hapO_x h to tb (by decide +kernel) (by decide +kernel)
  have em := mnA_o X hI to (by decide +kernel) (by decide +kernel)
  have ev := voA_o X hI to (by decide +kernel) (by decide +kernel)
  have ea := agA_o X hI to (by decide +kernel) (by decide +kernel)
  refine RC_hap hI to hR X (by decide +kernel) (hapO_7 h) (fun x' hx' => ?_) (fun a' ha' => ?_) hp hd ?_ hz hf hV hA
  · have tb' := (RC.tv hR hI to hx').2
    by_cases c : x' = x
    · subst c
      obtain ⟨h0, h1, h2, h3, h4, h5, h6, h7⟩ := RC.vo hR hx'
      have fI : ∀ i, oI u (voA Z o x') i = oI Z (voA Z o x') i := fun i => hapO_I h tb.1 (fun q => nob q.1.symm)
      obtain ⟨a1, a2, a3, a4, a5, a6⟩ := hp_at hp
      unfold rV
      rw [hf 6 (by decide +kernel), hf 8 (by decide +kernel), hf 7 (by decide +kernel), hf 9 (by decide +kernel), fI, fI, fI, fI, fI, hls_hv hp g1, if_pos (by omega)]
      refine ⟨h0, h1, h2, h3, h4, onc_hp hp g1 (by omega) (onc_o (fI 5) (fI 6) h5), onc_hp hp g1 (by omega) (onc_o (fI 7) (fI 8) h6), ?_⟩
      refine hapO_c h hI to tb (by decide +kernel) (by decide +kernel) (by decide +kernel) ⟨rfl, rfl⟩ _ (chn_hp hp h7) (by rw [a3]; exact ed) ?_ ?_
      · rw [a4]
        exact (RC.n hR).1
      · rw [a1]
        exact Or.inl hw
    · have nb : voA Z o x' ≠ voA Z o x := fun e => c (RC.vi hR hx' hx e)
      refine rV_hp hp g1 (sub7 hf (by decide +kernel)) (by omega) ?_
      refine rV_S (fun i => hapO_I h tb'.1 (fun q => absurd q.1 (ty_ne tb' to (by decide +kernel)))) ?_ (RC.vo hR hx')
      rw [hapO_P h tb'.1 (fun q => nb q.1)]
      exact chn_o X hI (by decide +kernel) _ _ (fun c hc => oInv.rd hI tb'.2 hc rfl rfl) (RC.vo hR hx').2.2.2.2.2.2.2
  · exact rA_hp hp g1 (hz _ (by decide +kernel)) (hz _ (by decide +kernel)) (sub7 hf (by decide +kernel)) (by omega) (rA_o X hI (RC.ta hR hI to ha').2 (by decide +kernel) (fun m _ => em m) (fun m _ => ev m) (fun m _ => ea m) (RC.a hR ha'))
  · have e1 : (v 40).toNatClampNeg = (v 40).toInt.toNat := rfl
    omega
/-- what is told once, told now -/
theorem onc_new {dd t : Nat} (hp : hpN v fa k q d w p (z, fz)) (hV : mV v) (h0 : tldI v fa k.toInt q.toInt = 0) (eq : q.toInt = (x : Int)) (e1 : (oI u b dd).toInt = d.toInt) (e2 : (oI u b t).toInt = (v 38).toInt) (hd : 0 ≤ d.toInt ∧ d.toInt ≤ 3000) : onc u b dd t z fz k.toInt x := by
  obtain ⟨a1, a2, a3, a4, a5, a6⟩ := hp_at hp
  have hn : 0 ≤ (v 38).toInt ∧ (v 38).toInt ≤ 3000 := hV 38
  refine Or.inr ⟨by rw [tldI_hp hp hV, if_pos ⟨rfl, eq.symm⟩], (v 41).toNatClampNeg, by rw [hp_n hp hV]; omega, by rw [a1], by rw [a2, eq], fun i hi h1 h2 => ?_, by rw [a3]; exact e1, by rw [a4]; exact e2, by omega, by omega, by omega, by omega⟩
  rw [hp_n hp hV] at hi
  by_cases e : i = (v 41).toNatClampNeg
  · exact e
  · exfalso
    have l := hp_lt hp (j := i) (by omega)
    rw [l 10 (by decide +kernel)] at h1
    rw [l 11 (by decide +kernel)] at h2
    exact b01_0 h0 ⟨i, by omega, h1, by rw [h2, eq]⟩
/-- behind sailed, lost -/
theorem RC_onc {dd t : Nat} {dy r : Int32} (hI : oInv Z) (to : oty Z o 10) (hR : RC Z o v fa) (hx : x < (v 40).toNatClampNeg) (h : onO Z o (voA Z o x) dd t dy r u) (hdt : (dd = 5 ∧ t = 6 ∧ k.toInt = 0) ∨ (dd = 7 ∧ t = 8 ∧ k.toInt = 2)) (h0 : tldI v fa k.toInt q.toInt = 0) (hp : hpN v fa k q d w p (z, fz)) (eq : q.toInt = (x : Int)) (ed : dy.toInt = d.toInt) (hd0 : 0 ≤ d.toInt) (hd : d.toInt ≤ (v 38).toInt) (hz : ∀ i ∈ fldH, z i = v i) (hf : ∀ k ∈ rowH, fz k = fa k) (hV : mV z) (hA : mA fz) : RC u o z fz := by
  have tb := (RC.tv hR hI to hx).2
  have g1 := RC.V hR
  have nob : o ≠ voA Z o x := ty_ne to tb (by decide +kernel)
  obtain ⟨hr, hu⟩ := h
  have hno : 0 ≤ (v 38).toInt ∧ (v 38).toInt ≤ 3000 := g1 38
  have X : oX [905, 906, 907, 908, 1007] Z u := by
    rw [hu]
    refine oX.st (W1 := [1007]) (oX.st (W1 := [906, 908]) (oX.st (W1 := [905, 907]) oX.rf (S2 := setI Z (voA Z o x) dd dy) ?_ (by decide +kernel)) (S2 := setI (setI Z (voA Z o x) dd dy) (voA Z o x) t (oI Z o 0)) ?_ (by decide +kernel)) (oX.I (k := 10) (key := 1007) to.2 rfl (List.mem_singleton.mpr rfl)) (by decide +kernel)
    · rcases hdt with ⟨e, -, -⟩ | ⟨e, -, -⟩ <;> rw [e]
      · exact oX.I (k := 9) (key := 905) tb.2 rfl (by decide +kernel)
      · exact oX.I (k := 9) (key := 907) tb.2 rfl (by decide +kernel)
    · rcases hdt with ⟨-, e, -⟩ | ⟨-, e, -⟩ <;> rw [e]
      · exact oX.I (k := 9) (key := 906) tb.2 rfl (by decide +kernel)
      · exact oX.I (k := 9) (key := 908) tb.2 rfl (by decide +kernel)
  have em := mnA_o X hI to (by decide +kernel) (by decide +kernel)
  have ev := voA_o X hI to (by decide +kernel) (by decide +kernel)
  have ea := agA_o X hI to (by decide +kernel) (by decide +kernel)
  have e7 : (oI u o 7).toInt = (oI Z o 7).toInt + 1 := by rw [hu, setI_same]; exact hr
  have fI : ∀ c i, c ≠ o → ¬ (c = voA Z o x ∧ (i = dd ∨ i = t)) → oI u c i = oI Z c i := fun c i hc hn => by
    rw [hu, setI_oth hc, setI_if (fun q => hn ⟨q.1, Or.inr q.2⟩), setI_if (fun q => hn ⟨q.1, Or.inl q.2⟩)]
  have fP : ∀ c i, oP u c i = oP Z c i := fun c i => by rw [hu]; rfl
  refine RC_hap hI to hR X (by decide +kernel) e7 (fun x' hx' => ?_) (fun a' ha' => ?_) hp hd ?_ hz hf hV hA
  · have tb' := (RC.tv hR hI to hx').2
    by_cases c : x' = x
    · subst c
      obtain ⟨h0', h1, h2, h3, h4, h5, h6, h7⟩ := RC.vo hR hx'
      have hne : dd ≠ t := by omega
      have eD : (oI u (voA Z o x') dd).toInt = d.toInt := by rw [hu, setI_oth nob.symm, setI_ne hne, setI_same]; exact ed
      have eT : (oI u (voA Z o x') t).toInt = (v 38).toInt := by rw [hu, setI_oth nob.symm, setI_same]; exact (RC.n hR).1
      have hN := onc_new (u := u) (b := voA Z o x') (dd := dd) (t := t) hp g1 h0 eq eD eT ⟨hd0, by omega⟩
      have gI : ∀ i, ¬ (i = dd ∨ i = t) → oI u (voA Z o x') i = oI Z (voA Z o x') i := fun i hi => fI _ i nob.symm (fun q => hi q.2)
      unfold rV
      rw [hf 6 (by decide +kernel), hf 8 (by decide +kernel), hf 7 (by decide +kernel), hf 9 (by decide +kernel), gI 0 (by omega), gI 1 (by omega), gI 2 (by omega), gI 3 (by omega), gI 4 (by omega), hls_hv hp g1, if_neg (by omega), fP]
      refine ⟨h0', h1, h2, h3, h4, ?_, ?_, chn_hp hp (chn_o X hI (by decide +kernel) _ _ (fun c hc => oInv.rd hI tb.2 hc rfl rfl) h7)⟩
      · rcases hdt with ⟨e1, e2, e3⟩ | ⟨e1, e2, e3⟩
        · rw [e1, e2, e3] at hN; exact hN
        · exact onc_hp hp g1 (by omega) (onc_o (gI 5 (by omega)) (gI 6 (by omega)) h5)
      · rcases hdt with ⟨e1, e2, e3⟩ | ⟨e1, e2, e3⟩
        · exact onc_hp hp g1 (by omega) (onc_o (gI 7 (by omega)) (gI 8 (by omega)) h6)
        · rw [e1, e2, e3] at hN; exact hN
    · have nb : voA Z o x' ≠ voA Z o x := fun e => c (RC.vi hR hx' hx e)
      refine rV_hp hp g1 (sub7 hf (by decide +kernel)) (by omega) ?_
      refine rV_S (fun i => fI _ i (ty_ne tb' to (by decide +kernel)) (fun q => nb q.1)) ?_ (RC.vo hR hx')
      rw [fP]
      exact chn_o X hI (by decide +kernel) _ _ (fun c hc => oInv.rd hI tb'.2 hc rfl rfl) (RC.vo hR hx').2.2.2.2.2.2.2
  · exact rA_hp hp g1 (hz _ (by decide +kernel)) (hz _ (by decide +kernel)) (sub7 hf (by decide +kernel)) (by omega) (rA_o X hI (RC.ta hR hI to ha').2 (by decide +kernel) (fun m _ => em m) (fun m _ => ev m) (fun m _ => ea m) (RC.a hR ha'))
  · have e1 : (v 40).toNatClampNeg = (v 40).toInt.toNat := rfl
    omega
end
