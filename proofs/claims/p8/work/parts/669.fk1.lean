

section
variable {W W1 : List Nat} {S u Z : oS} {o tp rw cd lw : Nat} {v z : Nat → Int32} {fa fz : Nat → Nat → Int32}
theorem RC_tape (hR : RC Z o v fa) (htp : oP Z o 9 = some tp) (hrw : oP Z tp 0 = some rw) : (oI Z tp 1).toInt = (v 46).toInt ∧ ∀ j, j < (v 46).toNatClampNeg → oI Z rw j = fa 44 j := by
  have h := RC.t hR
  unfold cTp at h
  rw [oQ_e htp, oQ_e hrw] at h
  exact h
theorem RC_feed {n r r1 : Int32} {b : Int64} (hI : oInv Z) (to : oty Z o 10) (hR : RC Z o v fa) (X : oX [801, 2107, 2160] Z u) (htp : oP Z o 9 = some tp) (hrw : oP Z tp 0 = some rw) (hp : gfd (oI Z tp 1).toInt n.toInt b (oI Z rw) r.toInt (oI u tp 1).toInt (oI u rw)) (hq : gfd (v 46).toInt n.toInt b (fa 44) r1.toInt (z 46).toInt (fz 44)) (hz : ∀ i ∈ [38, 39, 40, 43, 41, 42], z i = v i) (hf : ∀ k ∈ [2, 3, 4, 6, 8, 7, 9, 10, 11, 12, 13, 14, 15, 19, 16, 17, 18, 20, 21, 25, 24, 22, 23, 26], fz k = fa k) (hV : mV z) (hA : mA fz) : r.toInt = r1.toInt ∧ RC u o z fz := by
  obtain ⟨e1, e2⟩ := RC_tape hR htp hrw
  rw [e1] at hp
  obtain ⟨er, et, ef⟩ := gfd_det hp hq ((RC.V hR) 46).1 e2
  have tt : oty Z tp 8 := oInv.rd hI to.2 htp rfl rfl
  refine ⟨er, RC_T hI to hR X (by decide +kernel) ?_ hz hf hV hA⟩
  have e9 : oQ u o 9 = tp := oQ_e (by rw [X.p (i := 9) to (by decide +kernel)]; exact htp)
  have e0 : oQ u tp 0 = rw := oQ_e (by rw [X.p (i := 0) tt (by decide +kernel)]; exact hrw)
  unfold cTp
  rw [e9, e0]
  exact ⟨et, fun j hj => ef j (by rw [et]; exact hj)⟩
theorem RC_act {p d r r1 : Int32} (hI : oInv Z) (to : oty Z o 10) (hR : RC Z o v fa) (X : oX [502, 801, 803, 804, 805, 2012, 2063, 2107, 5001] Z u) (htp : oP Z o 9 = some tp) (hrw : oP Z tp 0 = some rw) (hlw : oP Z o 8 = some lw) (hp : gac (oI Z o 0).toInt (oI Z lw 2).toInt (oI Z tp 1).toInt p.toInt d.toInt ((cS (tC Z tp rw) 5 0).1 : Int) (bI (cS (tC Z tp rw) 5 0).2.1) r.toInt (oI u lw 2).toInt (oI u tp 1).toInt ∧ (1 ≤ r.toInt → (cS (tC Z tp rw) 5 0).2.1 = true ∧ acO Z lw p d (cS (tC Z tp rw) 5 0).2.2 u) ∧ (r.toInt < 1 → oX [801, 803, 804, 805, 2063, 2107] Z u)) (hq : gac (v 38).toInt (v 42).toInt (v 46).toInt p.toInt d.toInt ((mvS (mL fa) (cI (fa 44) (v 46).toNatClampNeg) 5 0).1 : Int) (bI (mvS (mL fa) (cI (fa 44) (v 46).toNatClampNeg) 5 0).2.1) r1.toInt (z 42).toInt (z 46).toInt ∧ (1 ≤ r1.toInt → acM v fa p d (z, fz)) ∧ (r1.toInt < 1 → ∀ k ∈ [19, 16, 17, 18], fz k = fa k)) (hz : ∀ i ∈ [38, 39, 40, 43, 41], z i = v i) (hf : ∀ k ∈ [2, 3, 4, 6, 8, 7, 9, 10, 11, 12, 13, 14, 15, 20, 21, 25, 24, 22, 23, 26, 44], fz k = fa k) (hV : mV z) (hA : mA fz) : r.toInt = r1.toInt ∧ RC u o z fz := by
  obtain ⟨e1, e2⟩ := RC_tape hR htp hrw
  have tt : oty Z tp 8 := oInv.rd hI to.2 htp rfl rfl
  have tl : oty Z lw 5 := oInv.rd hI to.2 hlw rfl rfl
  have trw : oty Z rw 160 := oInv.rd hI tt.2 hrw rfl rfl
  have hL : rLw Z lw v fa := by have q := RC.l hR; rw [oQ_e hlw] at q; exact q
  have eC : tC Z tp rw = cI (fa 44) (v 46).toNatClampNeg := by
    unfold tC
    rw [cn_c e1]
    exact cI_congr e2
  obtain ⟨c1, c2⟩ := cm_same (c := cI (fa 44) (v 46).toNatClampNeg) (lt := mL fa)
  obtain ⟨hp, hp2, hp3⟩ := hp
  obtain ⟨hq, hq2, hq3⟩ := hq
  have n0 := (RC.n hR).1
  rw [n0, hL.1, e1, eC, c1, c2] at hp
  rw [eC] at hp2
  obtain ⟨er, ea, et⟩ := gac_det hp hq
  have hk : ∀ L : List Nat, (∀ k ∈ L, k ∉ [502, 801, 803, 804, 805, 2012, 2063, 2107, 5001]) → ∀ k ∈ L, k ∉ [502, 801, 803, 804, 805, 2012, 2063, 2107, 5001] := fun _ h => h
  have em := mnA_o X hI to (by decide +kernel) (by decide +kernel)
  have ev := voA_o X hI to (by decide +kernel) (by decide +kernel)
  have sm : smH v fa z fz := ⟨hz _ (by decide +kernel), hf_sub hf (by decide +kernel)⟩
  have e9 : oQ u o 9 = tp := oQ_e (by rw [X.p (i := 9) to (by decide +kernel)]; exact htp)
  have e0 : oQ u tp 0 = rw := oQ_e (by rw [X.p (i := 0) tt (by decide +kernel)]; exact hrw)
  have e8 : oQ u o 8 = lw := oQ_e (by rw [X.p (i := 8) to (by decide +kernel)]; exact hlw)
  have b1 : 0 ≤ (v 46).toInt ∧ (v 46).toInt ≤ 60 := (RC.V hR) 46
  have b2 : 0 ≤ (v 42).toInt ∧ (v 42).toInt ≤ 30 := (RC.V hR) 42
  have b3 : 0 ≤ (v 38).toInt := ((RC.V hR) 38).1
  refine ⟨er, RC_put ?_ (cM_m (cM_o X hI to (by decide +kernel) (RC.n hR).2.1 hR.2.1) (hz _ (by decide +kernel)) (hf_sub hf (by decide +kernel))) (cV_m (cV_o X hI to (by decide +kernel) (RC.n hR).2.2.1 hR.2.2.1) (hz _ (by decide +kernel)) sm (hf_sub hf (by decide +kernel))) (cA_m (cA_o X hI to (by decide +kernel) (fun m _ => em m) (fun m _ => ev m) (RC.n hR).2.2.2.1 hR.2.2.2.1) (hz _ (by decide +kernel)) sm (by rw [hz 39 (by decide +kernel)]; omega) (by rw [hz 40 (by decide +kernel)]; omega) (hf_sub hf (by decide +kernel))) ?_ ?_ (cP_m (RC.p hR) (fun i hi => hz i (by revert i; decide)) (hf_sub hf (by decide +kernel)) hV hA)⟩
  · have g := cN_o X to (by decide +kernel) (RC.n hR)
    unfold cN at *
    rw [hz 38 (by decide +kernel), hz 39 (by decide +kernel), hz 40 (by decide +kernel), hz 43 (by decide +kernel), hz 41 (by decide +kernel)]
    exact g
  · rw [e8]
    by_cases c : 1 ≤ r.toInt
    · obtain ⟨hw, ha⟩ := hp2 c
      obtain ⟨a1, a2, a3, a4, a5⟩ := hq2 (by omega)
      dsimp only at a1 a2 a3 a4 a5
      have hn : (z 42).toInt = (v 42).toInt + 1 ∧ (v 38).toInt ≤ d.toInt := by unfold gac at hq; omega
      have eX : txF fz (v 42).toNatClampNeg = cI (fa 44) (v 46).toNatClampNeg := by
        unfold txF
        rw [a1, upd_eq]
        exact cI_congr (fun j hj => a4 j hj)
      refine rLw_act hI tl hL X ha ea hn.1 b2.1 (fun j hj => ⟨by rw [a2, upd_ne (by omega)], by rw [a3, upd_ne (by omega)], ?_⟩) ⟨by rw [a2, upd_eq], by rw [a3, upd_eq], by omega⟩ (by rw [eX]; exact hw) (by rw [eX])
      unfold txF
      rw [a1, upd_ne (by omega)]
      refine cI_congr (fun i hi => a5 _ ?_)
      have h60 : aLo 16 ≤ (fa 16 j).toInt ∧ (fa 16 j).toInt ≤ aHi 16 := (RC.A hR) 16 j
      have h60 : (fa 16 j).toInt ≤ 60 := h60.2
      have hi2 : i < (fa 16 j).toInt.toNat := hi
      omega
    · have hn : (z 42) = v 42 := Int32.toInt_inj.mp (by unfold gac at hq; omega)
      exact rLw_m hn (hq3 (by omega)) (rLw_o (hp3 (by omega)) hI tl (by decide +kernel) hL)
  · unfold cTp
    rw [e9, e0]
    refine ⟨et, fun j hj => ?_⟩
    rw [X.f trw (fun _ => nkw (by decide +kernel) (by decide +kernel) (by decide +kernel)), hf 44 (by decide +kernel)]
    refine e2 j ?_
    have q1 : (z 46).toNatClampNeg = (z 46).toInt.toNat := rfl
    have q2 : (v 46).toNatClampNeg = (v 46).toInt.toNat := rfl
    unfold gac at hq
    omega
end
