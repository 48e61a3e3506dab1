

section
variable {W W1 : List Nat} {S u Z : oS} {o b x a : Nat} {v z : Nat → Int32} {fa fz : Nat → Nat → Int32}
/-- the pieces that a call leaves alone, by keys and rows -/
theorem RC_put (hN : cN u o z) (hM : cM u o z fz) (hV : cV u o z fz) (hA : cA u o z fz) (hL : rLw u (oQ u o 8) z fz) (hT : cTp u o z fz) (hP : cPm z fz) : RC u o z fz := ⟨hN, hM, hV, hA, hL, hT, hP⟩
theorem cT_m (h : cTp S o v fa) (h1 : z 46 = v 46) (h2 : fz 44 = fa 44) : cTp S o z fz := by
  unfold cTp at *
  rw [h1, h2]
  exact h
theorem cM_m (h : cM S o v fa) (h0 : z 39 = v 39) (hf : ∀ k ∈ [2, 3, 4], fz k = fa k) : cM S o z fz := by
  unfold cM rM at *
  rw [h0, hf 2 (by decide +kernel), hf 3 (by decide +kernel), hf 4 (by decide +kernel)]
  exact h
theorem cV_m (h : cV S o v fa) (h0 : z 40 = v 40) (sm : smH v fa z fz) (hf : ∀ k ∈ [6, 8, 7, 9], fz k = fa k) : cV S o z fz := fun m hm => by
  rw [h0] at hm
  exact rV_m sm (fun k hk => congrFun (hf k hk) m) (h m hm)
theorem cA_m (h : cA S o v fa) (h0 : z 43 = v 43) (sm : smH v fa z fz) (hm : (v 39).toInt ≤ (z 39).toInt) (hv : (v 40).toInt ≤ (z 40).toInt) (hf : ∀ k ∈ [20, 21, 25, 24, 22, 23, 26], fz k = fa k) : cA S o z fz := by
  refine ⟨fun m g => ?_, ?_⟩
  · rw [h0] at g
    exact rA_m sm hm hv (fun k hk => congrFun (hf k hk) m) (h.1 m g)
  · rw [h0]
    exact h.2
theorem cP_m (h : cPm v fa) (hz : ∀ i ∈ [38, 39, 43, 40, 41], z i = v i) (hf : ∀ k ∈ [4, 22, 23, 25, 12, 13, 10, 11], fz k = fa k) (hV : mV z) (hA : mA fz) : cPm z fz := by
  obtain ⟨p1, p2, p3, -, -⟩ := h
  unfold cPm
  rw [hz 38 (by decide +kernel), hz 39 (by decide +kernel), hz 43 (by decide +kernel), hz 40 (by decide +kernel), hz 41 (by decide +kernel), hf 4 (by decide +kernel), hf 22 (by decide +kernel), hf 23 (by decide +kernel), hf 25 (by decide +kernel), hf 12 (by decide +kernel), hf 13 (by decide +kernel), hf 10 (by decide +kernel), hf 11 (by decide +kernel)]
  exact ⟨p1, p2, p3, hV, hA⟩
/-- ended -/
theorem RC_end {xi : Int32} (hI : oInv Z) (to : oty Z o 10) (hR : RC Z o v fa) (hx : x < (v 40).toNatClampNeg) (ex : xi.toNatClampNeg = x) (exi : xi.toInt = (x : Int)) (hu : u = wI Z (enU Z o (voA Z o x) v fa xi.toInt (v 43).toNatClampNeg)) (hp : enN v fa xi (z, fz)) (hz : ∀ i ∈ fldC, z i = v i) (hf : ∀ k ∈ [2, 3, 4, 6, 8, 7, 10, 11, 12, 13, 14, 15, 19, 16, 17, 18, 20, 21, 25, 24, 22, 23, 44], fz k = fa k) (hV : mV z) (hA : mA fz) : RC u o z fz := by
  obtain ⟨hE, hO⟩ := hp
  dsimp only at hE hO
  rw [ex] at hE
  have tb := (RC.tv hR hI to hx).2
  have hno : 0 ≤ (v 38).toInt ∧ (v 38).toInt ≤ 3000 := (RC.V hR) 38
  have eI : ∀ c k, oI u c k = enU Z o (voA Z o x) v fa xi.toInt (v 43).toNatClampNeg c k := fun c k => by rw [hu]; rfl
  have fP : ∀ c i, oP u c i = oP Z c i := fun c i => by rw [hu]; rfl
  have fI : ∀ c k, ¬ (c = voA Z o x ∧ k = 4) → ¬ (k = 6 ∧ ∃ j, j < (v 43).toNatClampNeg ∧ c = agA Z o j) → oI u c k = oI Z c k := fun c k h1 h2 => by
    rw [eI]
    unfold enU
    rw [if_neg h1, if_neg (fun ⟨q1, j, q2, q3, _⟩ => h2 ⟨q1, j, q2, q3⟩)]
  have X : oX [904, 106] Z u := fun c hc => by
    refine ⟨by rw [hu]; exact hc, by rw [hu]; rfl, fun i hi => ⟨fI c i (fun q => hi ?_) (fun q => hi ?_), fP c i, by rw [hu]; rfl⟩⟩
    · rw [q.1, q.2, tb.2]
      decide
    · obtain ⟨q1, j, q2, q3⟩ := q
      rw [q3, (RC.ta hR hI to q2).2.2, q1]
      decide
  have em := mnA_o X hI to (by decide +kernel) (by decide +kernel)
  have ev := voA_o X hI to (by decide +kernel) (by decide +kernel)
  have ea := agA_o X hI to (by decide +kernel) (by decide +kernel)
  have sm : smH v fa z fz := ⟨hz _ (by decide +kernel), hf_sub hf (by decide +kernel)⟩
  refine RC_put ?_ (cM_m (cM_o X hI to (by decide +kernel) (RC.n hR).2.1 hR.2.1) (hz _ (by decide +kernel)) (hf_sub hf (by decide +kernel))) (fun m hm => ?_) ⟨fun m hm => ?_, ?_⟩ (rLw_m (hz _ (by decide +kernel)) (hf_sub hf (by decide +kernel)) (cL_o X hI to (by decide +kernel) (RC.l hR))) (cT_m (cT_o X hI to (by decide +kernel) (RC.t hR)) (hz _ (by decide +kernel)) (hf _ (by decide +kernel))) (cP_m (RC.p hR) (fun i hi => hz i (by revert i; decide)) (hf_sub hf (by decide +kernel)) hV hA)
  · have g := cN_o X to (by decide +kernel) (RC.n hR)
    unfold cN at *
    rw [hz 38 (by decide +kernel), hz 39 (by decide +kernel), hz 40 (by decide +kernel), hz 43 (by decide +kernel), hz 41 (by decide +kernel)]
    exact g
  · rw [hz 40 (by decide +kernel)] at hm
    rw [ev]
    have tb' := (RC.tv hR hI to hm).2
    have nag : ∀ k, ¬ (k = 6 ∧ ∃ j, j < (v 43).toNatClampNeg ∧ voA Z o m = agA Z o j) := fun k ⟨_, j, q2, q3⟩ => absurd q3 (ty_ne tb' (RC.ta hR hI to q2).2 (by decide +kernel))
    have hc : chn u fa (hls (hvS fa m) (v 41).toNatClampNeg) (oP u (voA Z o m) 9) := by
      rw [fP]
      exact chn_o X hI (by decide +kernel) _ _ (fun c hc => oInv.rd hI tb'.2 hc rfl rfl) (RC.vo hR hm).2.2.2.2.2.2.2
    by_cases c : m = x
    · subst c
      obtain ⟨h0, h1, h2, h3, h4, h5, h6, h7⟩ := RC.vo hR hm
      have gI : ∀ i, i ≠ 4 → oI u (voA Z o m) i = oI Z (voA Z o m) i := fun i hi => fI _ i (fun q => hi q.2) (nag i)
      have e4 : (oI u (voA Z o m) 4).toInt = 1 := by
        rw [eI]
        unfold enU
        rw [if_pos ⟨rfl, rfl⟩]
        decide
      unfold rV
      rw [hf 6 (by decide +kernel), hf 8 (by decide +kernel), hf 7 (by decide +kernel), hE, upd_eq, gI 0 (by decide +kernel), gI 1 (by decide +kernel), gI 2 (by decide +kernel), gI 3 (by decide +kernel), hv_m sm]
      exact ⟨h0, h1, h2, h3, Or.inr ⟨e4, hno.1⟩, onc_m sm (onc_o (gI 5 (by decide +kernel)) (gI 6 (by decide +kernel)) h5), onc_m sm (onc_o (gI 7 (by decide +kernel)) (gI 8 (by decide +kernel)) h6), chn_c _ _ (fun i _ k hk => congrFun (sm.2 k hk) i) hc⟩
    · have nb : voA Z o m ≠ voA Z o x := fun e => c (RC.vi hR hm hx e)
      refine rV_m sm (fun k hk => ?_) (rV_S (fun i => fI _ i (fun q => nb q.1) (nag i)) hc (RC.vo hR hm))
      have hk' : k = 6 ∨ k = 8 ∨ k = 7 ∨ k = 9 := by simpa using hk
      rcases hk' with rfl | rfl | rfl | rfl
      · rw [hf 6 (by decide +kernel)]
      · rw [hf 8 (by decide +kernel)]
      · rw [hf 7 (by decide +kernel)]
      · rw [hE, upd_ne c]
  · rw [hz 43 (by decide +kernel)] at hm
    rw [ea]
    have tb' := (RC.ta hR hI to hm).2
    have nvo : ∀ k, ¬ (agA Z o m = voA Z o x ∧ k = 4) := fun k q => absurd q.1 (ty_ne tb' tb (by decide +kernel))
    obtain ⟨⟨m1, m2, m3⟩, ⟨v1, v2, v3⟩, h2, h3, h4, h5, h6, h7, h8⟩ := RC.a hR hm
    have gI : ∀ i, i ≠ 6 → oI u (agA Z o m) i = oI Z (agA Z o m) i := fun i hi => fI _ i (nvo i) (fun q => hi q.1)
    have hc : chn u fa (hls (tdS fa m) (v 41).toNatClampNeg) (oP u (agA Z o m) 8) := by
      rw [fP]
      exact chn_o X hI (by decide +kernel) _ _ (fun c hc => oInv.rd hI tb'.2 hc rfl rfl) h8
    have e6 : ((fz 26 m).toInt < 0 ∧ (oI u (agA Z o m) 6).toInt = 1000000) ∨ (0 ≤ (fz 26 m).toInt ∧ (fz 26 m).toInt ≤ 3000 ∧ (oI u (agA Z o m) 6).toInt = (fz 26 m).toInt) := by
      have eO : fz 26 m = enF v fa xi.toInt (v 43).toNatClampNeg m := congrFun hO m
      rw [eI, eO]
      unfold enU enF
      rw [if_neg (nvo 6)]
      by_cases g : enP v fa xi.toInt m
      · rw [if_pos (c := m < (v 43).toNatClampNeg ∧ enP v fa xi.toInt m) ⟨hm, g⟩, if_pos ⟨rfl, m, hm, rfl, g⟩]
        exact Or.inr ⟨hno.1, hno.2, (RC.n hR).1⟩
      · rw [if_neg (c := m < (v 43).toNatClampNeg ∧ enP v fa xi.toInt m) (fun q => g q.2), if_neg (fun ⟨_, j, q2, q3, q4⟩ => g (by rw [RC.inj hR hm q2 q3]; exact q4))]
        exact h6
    unfold rA
    rw [hf 20 (by decide +kernel), hf 21 (by decide +kernel), hf 25 (by decide +kernel), hf 24 (by decide +kernel), hf 22 (by decide +kernel), hf 23 (by decide +kernel), hz 39 (by decide +kernel), hz 40 (by decide +kernel), fP, fP, fP, gI 2 (by decide +kernel), gI 4 (by decide +kernel), gI 5 (by decide +kernel), gI 7 (by decide +kernel), sm.tld, td_m sm, em, ev, ea]
    exact ⟨⟨m1, m2, m3⟩, ⟨v1, v2, v3⟩, h2, h3, h4, h5, e6, h7, chn_c _ _ (fun i _ k hk => congrFun (sm.2 k hk) i) hc⟩
  · rw [hz 43 (by decide +kernel)]
    intro m m' q q' e
    rw [ea, ea] at e
    exact RC.inj hR q q' e
/-- what changes neither -/
theorem RC_T (hI : oInv Z) (to : oty Z o 10) (hR : RC Z o v fa) (X : oX W Z u) (hk : ∀ k ∈ keysC, k = 801 ∨ k = 2160 ∨ k ∉ W) (hT : cTp u o z fz) (hz : ∀ i ∈ [38, 39, 40, 43, 41, 42], z i = v i) (hf : ∀ k ∈ [2, 3, 4, 6, 8, 7, 9, 10, 11, 12, 13, 14, 15, 19, 16, 17, 18, 20, 21, 25, 24, 22, 23, 26], fz k = fa k) (hV : mV z) (hA : mA fz) : RC u o z fz := by
  have hk2 : ∀ L : List Nat, (∀ k ∈ L, k ∈ keysC ∧ k ≠ 801 ∧ k ≠ 2160) → ∀ k ∈ L, k ∉ W := fun L g k h3 => ((hk k (g k h3).1).resolve_left (g k h3).2.1).resolve_left (g k h3).2.2
  have em := mnA_o X hI to (hk2 [1001, 2014] (by decide +kernel) _ (by decide +kernel)) (hk2 [1001, 2014] (by decide +kernel) _ (by decide +kernel))
  have ev := voA_o X hI to (hk2 [1003, 2015] (by decide +kernel) _ (by decide +kernel)) (hk2 [1003, 2015] (by decide +kernel) _ (by decide +kernel))
  have sm : smH v fa z fz := ⟨hz _ (by decide +kernel), hf_sub hf (by decide +kernel)⟩
  refine RC_put ?_ (cM_m (cM_o X hI to (hk2 _ (by decide +kernel)) (RC.n hR).2.1 hR.2.1) (hz _ (by decide +kernel)) (hf_sub hf (by decide +kernel))) (cV_m (cV_o X hI to (hk2 _ (by decide +kernel)) (RC.n hR).2.2.1 hR.2.2.1) (hz _ (by decide +kernel)) sm (hf_sub hf (by decide +kernel))) (cA_m (cA_o X hI to (hk2 _ (by decide +kernel)) (fun m _ => em m) (fun m _ => ev m) (RC.n hR).2.2.2.1 hR.2.2.2.1) (hz _ (by decide +kernel)) sm (by rw [hz 39 (by decide +kernel)]; omega) (by rw [hz 40 (by decide +kernel)]; omega) (hf_sub hf (by decide +kernel))) (rLw_m (hz _ (by decide +kernel)) (hf_sub hf (by decide +kernel)) (cL_o X hI to (hk2 _ (by decide +kernel)) (RC.l hR))) hT (cP_m (RC.p hR) (fun i hi => hz i (by revert i; decide)) (hf_sub hf (by decide +kernel)) hV hA)
  have g := cN_o X to (hk2 _ (by decide +kernel)) (RC.n hR)
  unfold cN at *
  rw [hz 38 (by decide +kernel), hz 39 (by decide +kernel), hz 40 (by decide +kernel), hz 43 (by decide +kernel), hz 41 (by decide +kernel)]
  exact g
end
