

section
variable {W W1 : List Nat} {S u Z : oS} {o b x a : Nat} {v z : Nat → Int32} {fa fz : Nat → Nat → Int32}
theorem hf_sub {L M : List Nat} (hf : ∀ k ∈ M, fz k = fa k) (h : ∀ k ∈ L, k ∈ M) : ∀ k ∈ L, fz k = fa k := fun k hk => hf k (h k hk)
theorem hx_sub {L M : List Nat} (hf : ∀ k ∈ M, fz k = fa k) (h : ∀ k ∈ L, k ∈ M) (j : Nat) : ∀ k ∈ L, fz k j = fa k j := fun k hk => congrFun (hf k (h k hk)) j
/-- of one agreement a field more is told -/
theorem RC_off (hI : oInv Z) (to : oty Z o 10) (hR : RC Z o v fa) (ha : a < (v 43).toNatClampNeg) (hu : u = setI Z (agA Z o a) 6 (oI Z o 0)) (hO : fz 26 = upd (fa 26) a (v 38)) (hz : ∀ i ∈ fldC, z i = v i) (hf : ∀ k ∈ [2, 3, 4, 6, 8, 7, 9, 10, 11, 12, 13, 14, 15, 19, 16, 17, 18, 20, 21, 25, 24, 22, 23, 44], fz k = fa k) (hV : mV z) (hA : mA fz) : RC u o z fz := by
  have tb := (RC.ta hR hI to ha).2
  have hno : 0 ≤ (v 38).toInt ∧ (v 38).toInt ≤ 3000 := (RC.V hR) 38
  have X : oX [106] Z u := by rw [hu]; exact oX.I (k := 1) (key := 106) tb.2 rfl (List.mem_singleton.mpr rfl)
  have em := mnA_o X hI to (by decide +kernel) (by decide +kernel)
  have ev := voA_o X hI to (by decide +kernel) (by decide +kernel)
  have ea := agA_o X hI to (by decide +kernel) (by decide +kernel)
  have sm : smH v fa z fz := ⟨hz _ (by decide +kernel), hf_sub hf (by decide +kernel)⟩
  have fP : ∀ c i, oP u c i = oP Z c i := fun c i => by rw [hu]; rfl
  refine ⟨?_, ?_, ?_, ⟨fun m hm => ?_, ?_⟩, ?_, ?_, ?_⟩
  · have g := cN_o X to (by decide +kernel) (RC.n hR)
    unfold cN at *
    rw [hz 38 (by decide +kernel), hz 39 (by decide +kernel), hz 40 (by decide +kernel), hz 43 (by decide +kernel), hz 41 (by decide +kernel)]
    exact g
  · have g := cM_o X hI to (by decide +kernel) (RC.n hR).2.1 hR.2.1
    unfold cM rM at *
    rw [hz 39 (by decide +kernel), hf 2 (by decide +kernel), hf 3 (by decide +kernel), hf 4 (by decide +kernel)]
    exact g
  · intro m hm
    rw [hz 40 (by decide +kernel)] at hm
    exact rV_m sm (hx_sub hf (by decide +kernel) m) (cV_o X hI to (by decide +kernel) (RC.n hR).2.2.1 hR.2.2.1 m hm)
  · rw [hz 43 (by decide +kernel)] at hm
    rw [ea]
    have tb' := (RC.ta hR hI to hm).2
    by_cases c : m = a
    · subst c
      obtain ⟨⟨m1, m2, m3⟩, ⟨v1, v2, v3⟩, h2, h3, h4, h5, h6, h7, h8⟩ := RC.a hR hm
      have fI : ∀ i, i ≠ 6 → oI u (agA Z o m) i = oI Z (agA Z o m) i := fun i hi => by rw [hu, setI_ne hi]
      have e6 : (oI u (agA Z o m) 6).toInt = (v 38).toInt := by rw [hu, setI_same]; exact (RC.n hR).1
      unfold rA
      rw [hf 20 (by decide +kernel), hf 21 (by decide +kernel), hf 25 (by decide +kernel), hf 24 (by decide +kernel), hf 22 (by decide +kernel), hf 23 (by decide +kernel), hO, upd_eq, hz 39 (by decide +kernel), hz 40 (by decide +kernel), fP, fP, fP, fP, fI 2 (by decide +kernel), fI 4 (by decide +kernel), fI 5 (by decide +kernel), fI 7 (by decide +kernel), sm.tld, td_m sm, em, ev, ea]
      exact ⟨⟨m1, m2, m3⟩, ⟨v1, v2, v3⟩, h2, h3, h4, h5, Or.inr ⟨hno.1, hno.2, e6⟩, h7, chn_c _ _ (fun i _ k hk => congrFun (sm.2 k hk) i) (chn_o X hI (by decide +kernel) _ _ (fun c hc => oInv.rd hI tb'.2 hc rfl rfl) h8)⟩
    · have nb : agA Z o m ≠ agA Z o a := fun e => c (RC.inj hR hm ha e)
      refine rA_m sm (by rw [hz 39 (by decide +kernel)]; omega) (by rw [hz 40 (by decide +kernel)]; omega) (fun k hk => ?_) ?_
      · by_cases e : k = 26
        · rw [e, hO, upd_ne c]
        · refine congrFun (hf k ?_) m
          have hk' : k = 20 ∨ k = 21 ∨ k = 25 ∨ k = 24 ∨ k = 22 ∨ k = 23 ∨ k = 26 := by simpa using hk
          rcases hk' with rfl | rfl | rfl | rfl | rfl | rfl | rfl <;> first | decide | exact absurd rfl e
      · refine rA_S (fun i _ => by rw [hu, setI_oth nb]) (fun i _ => fP _ i) (fun m _ => em m) (fun m _ => ev m) (fun m _ => ea m) ?_ (RC.a hR hm)
        rw [fP]
        exact chn_o X hI (by decide +kernel) _ _ (fun c hc => oInv.rd hI tb'.2 hc rfl rfl) (RC.a hR hm).2.2.2.2.2.2.2.2
  · rw [hz 43 (by decide +kernel)]
    intro m m' q q' e
    rw [ea, ea] at e
    exact RC.inj hR q q' e
  · exact rLw_m (hz _ (by decide +kernel)) (hf_sub hf (by decide +kernel)) (cL_o X hI to (by decide +kernel) (RC.l hR))
  · have g := cT_o X hI to (by decide +kernel) (RC.t hR)
    unfold cTp at *
    rw [hz 46 (by decide +kernel), hf 44 (by decide +kernel)]
    exact g
  · obtain ⟨p1, p2, p3, -, -⟩ := RC.p hR
    unfold cPm
    rw [hz 38 (by decide +kernel), hz 39 (by decide +kernel), hz 43 (by decide +kernel), hz 40 (by decide +kernel), hz 41 (by decide +kernel), hf 4 (by decide +kernel), hf 22 (by decide +kernel), hf 23 (by decide +kernel), hf 25 (by decide +kernel), hf 12 (by decide +kernel), hf 13 (by decide +kernel), hf 10 (by decide +kernel), hf 11 (by decide +kernel)]
    exact ⟨p1, p2, p3, hV, hA⟩
/-- days -/
theorem RC_day (hI : oInv Z) (to : oty Z o 10) (hR : RC Z o v fa) (X : oX W Z u) (hk : ∀ k ∈ keysC, k = 1000 ∨ k ∉ W) (h0 : (oI u o 0).toInt = (z 38).toInt) (hle : (v 38).toInt ≤ (z 38).toInt) (hz : ∀ i ∈ [39, 40, 43, 41, 42, 46], z i = v i) (hf : ∀ k ∈ rowC, fz k = fa k) (hV : mV z) (hA : mA fz) : RC u o z fz := by
  have hk2 : ∀ L : List Nat, (∀ k ∈ L, k ∈ keysC ∧ k ≠ 1000) → ∀ k ∈ L, k ∉ W := fun L g k h3 => (hk k (g k h3).1).resolve_left (g k h3).2
  have em := mnA_o X hI to (hk2 [1001, 2014] (by decide +kernel) _ (by decide +kernel)) (hk2 [1001, 2014] (by decide +kernel) _ (by decide +kernel))
  have ev := voA_o X hI to (hk2 [1003, 2015] (by decide +kernel) _ (by decide +kernel)) (hk2 [1003, 2015] (by decide +kernel) _ (by decide +kernel))
  have sm : smH v fa z fz := ⟨hz _ (by decide +kernel), hf_sub hf (by decide +kernel)⟩
  have ca := cA_o X hI to (hk2 _ (by decide +kernel)) (fun m _ => em m) (fun m _ => ev m) (RC.n hR).2.2.2.1 hR.2.2.2.1
  refine ⟨?_, ?_, ?_, ⟨fun m hm => ?_, ?_⟩, ?_, ?_, ?_⟩
  · obtain ⟨-, n1, n2, n3, n4⟩ := RC.n hR
    unfold cN
    rw [hz 39 (by decide +kernel), hz 40 (by decide +kernel), hz 43 (by decide +kernel), hz 41 (by decide +kernel), X.i (i := 2) to (hk2 [1002] (by decide +kernel) _ (by decide +kernel)), X.i (i := 4) to (hk2 [1004] (by decide +kernel) _ (by decide +kernel)), X.i (i := 6) to (hk2 [1006] (by decide +kernel) _ (by decide +kernel)), X.i (i := 7) to (hk2 [1007] (by decide +kernel) _ (by decide +kernel))]
    exact ⟨h0, n1, n2, n3, n4⟩
  · have g := cM_o X hI to (hk2 _ (by decide +kernel)) (RC.n hR).2.1 hR.2.1
    unfold cM rM at *
    rw [hz 39 (by decide +kernel), hf 2 (by decide +kernel), hf 3 (by decide +kernel), hf 4 (by decide +kernel)]
    exact g
  · intro m hm
    rw [hz 40 (by decide +kernel)] at hm
    exact rV_m sm (hx_sub hf (by decide +kernel) m) (cV_o X hI to (hk2 _ (by decide +kernel)) (RC.n hR).2.2.1 hR.2.2.1 m hm)
  · rw [hz 43 (by decide +kernel)] at hm
    exact rA_m sm (by rw [hz 39 (by decide +kernel)]; omega) (by rw [hz 40 (by decide +kernel)]; omega) (hx_sub hf (by decide +kernel) m) (ca.1 m hm)
  · rw [hz 43 (by decide +kernel)]
    exact ca.2
  · exact rLw_m (hz _ (by decide +kernel)) (hf_sub hf (by decide +kernel)) (cL_o X hI to (hk2 _ (by decide +kernel)) (RC.l hR))
  · have g := cT_o X hI to (hk2 _ (by decide +kernel)) (RC.t hR)
    unfold cTp at *
    rw [hz 46 (by decide +kernel), hf 44 (by decide +kernel)]
    exact g
  · obtain ⟨p1, p2, p3, -, -⟩ := RC.p hR
    unfold cPm
    rw [hz 39 (by decide +kernel), hz 43 (by decide +kernel), hz 40 (by decide +kernel), hz 41 (by decide +kernel), hf 4 (by decide +kernel), hf 22 (by decide +kernel), hf 23 (by decide +kernel), hf 25 (by decide +kernel), hf 12 (by decide +kernel), hf 13 (by decide +kernel), hf 10 (by decide +kernel), hf 11 (by decide +kernel)]
    exact ⟨fun m hm => ⟨(p1 m hm).1, Int.le_trans (p1 m hm).2 hle⟩, fun m hm => ⟨(p2 m hm).1, (p2 m hm).2.1, (p2 m hm).2.2.1, (p2 m hm).2.2.2.1, Int.le_trans (p2 m hm).2.2.2.2 hle⟩, fun m hm => ⟨Int.le_trans (p3 m hm).1 hle, (p3 m hm).2.1, Int.le_trans (p3 m hm).2.2.1 hle, (p3 m hm).2.2.2⟩, hV, hA⟩
/-- no happening is of a voyage that there isn't -/
theorem no_v (hR : RC Z o v fa) {k : Int} (hk : k = 0 ∨ k = 1 ∨ k = 2) {n : Nat} (hn : (v 40).toNatClampNeg ≤ n) : tldI v fa k n = 0 := b01_f (fun ⟨j, h1, h2, h3⟩ => by
  have p := ((RC.p hR).2.2.1 j h1).2.2.2.1 (by omega)
  have e : (v 40).toNatClampNeg = (v 40).toInt.toNat := rfl
  omega)
theorem no_a (hR : RC Z o v fa) {k : Int} (hk : k = 3 ∨ k = 4 ∨ k = 5) {n : Nat} (hn : (v 43).toNatClampNeg ≤ n) : tldI v fa k n = 0 := b01_f (fun ⟨j, h1, h2, h3⟩ => by
  have p := ((RC.p hR).2.2.1 j h1).2.2.2.2 (by omega)
  have e : (v 43).toNatClampNeg = (v 43).toInt.toNat := rfl
  omega)
theorem hls_nil {P : Nat → Bool} : ∀ {n : Nat}, (∀ j, j < n → ¬ P j = true) → hls P n = [] := by
  intro n
  induction n with
  | zero => intro _; rfl
  | succ n ih =>
    intro h
    unfold hls
    rw [if_neg (h n (by omega))]
    exact ih (fun j hj => h j (by omega))
/-- voyage -/
theorem RC_voy {s p y : Int32} {hm : mV z} (hI : oInv Z) (to : oty Z o 10) (hR : RC Z o v fa) (h : vyO Z o s p u) (hp : vyN v fa s p (z, fz)) (hz : ∀ i ∈ [38, 39, 43, 41, 42, 46], z i = v i) (hf : ∀ k ∈ [2, 3, 4, 10, 11, 12, 13, 14, 15, 19, 16, 17, 18, 20, 21, 25, 24, 22, 23, 26, 44], fz k = fa k) (hA : mA fz) : RC u o z fz := by
  obtain ⟨q, S1, y, hq, hX, tq, ⟨f0, f1, f2, f3, f4, f5, f6, f7, f8, f9⟩, hy, hu⟩ := h
  obtain ⟨h1, h2, h3, h4, h5⟩ := hp
  dsimp only at h1 h2 h3 h4 h5
  have hV := RC.V hR
  have hn := RC.n hR
  have hvb : 0 ≤ (v 40).toInt ∧ (v 40).toInt ≤ 20 := hV 40
  have en : (oI Z o 4).toNatClampNeg = (v 40).toNatClampNeg := cn_c hn.2.2.1
  have ezn : (z 40).toNatClampNeg = (v 40).toNatClampNeg + 1 := (show (z 40).toInt.toNat = (v 40).toInt.toNat + 1 by omega)
  obtain ⟨hrw, trw⟩ := ro_e (p := 3) (kr := 15) hI to rfl rfl rfl
  have t1 : oty S1 o 10 := hX.ty to
  have t2 : oty S1 (oQ Z o 3) 15 := hX.ty trw
  have X : oX [1004, 2015] Z u := by
    rw [hu]
    exact oX.st (oX.st (W1 := [2015]) (oX.st (W1 := []) oX.rf hX (by decide +kernel)) (S2 := setP S1 (oQ Z o 3) (oI Z o 4).toNatClampNeg (some q)) (oX.P (k := 15) (key := 2015) t2.2 rfl (List.mem_singleton.mpr rfl)) (by decide +kernel)) (W1 := [1004]) (oX.I (k := 10) (key := 1004) t1.2 rfl (List.mem_singleton.mpr rfl)) (by decide +kernel)
  have nqo : q ≠ o := fun e => hq (by rw [e]; exact to.1)
  have nqr : q ≠ oQ Z o 3 := fun e => hq (by rw [e]; exact trw.1)
  have e3 : oP u o 3 = some (oQ Z o 3) := by rw [X.p (i := 3) to (by decide +kernel)]; exact hrw
  have er : oP u (oQ Z o 3) = va_up (oP Z (oQ Z o 3)) (v 40).toNatClampNeg (some q) := by
    rw [hu]
    show oP (setP S1 (oQ Z o 3) (oI Z o 4).toNatClampNeg (some q)) (oQ Z o 3) = _
    rw [setP_fun, en, hX.fp trw (fun _ => by simp)]
  have eva : ∀ x, x < (v 40).toNatClampNeg → voA u o x = voA Z o x := fun x hx => by
    unfold voA
    rw [oQ_e e3]
    show (oP u (oQ Z o 3) x).getD 0 = (oP Z (oQ Z o 3) x).getD 0
    rw [er, show va_up (oP Z (oQ Z o 3)) (v 40).toNatClampNeg (some q) x = oP Z (oQ Z o 3) x from if_neg (by omega)]
  have evn : voA u o (v 40).toNatClampNeg = q := by
    unfold voA
    rw [oQ_e e3]
    show (oP u (oQ Z o 3) (v 40).toNatClampNeg).getD 0 = q
    rw [er, show va_up (oP Z (oQ Z o 3)) (v 40).toNatClampNeg (some q) (v 40).toNatClampNeg = some q from if_pos rfl]
    rfl
  have em := mnA_o X hI to (by decide +kernel) (by decide +kernel)
  have ea := agA_o X hI to (by decide +kernel) (by decide +kernel)
  have sm : smH v fa z fz := ⟨hz _ (by decide +kernel), hf_sub hf (by decide +kernel)⟩
  have ca := cA_o X hI to (by decide +kernel) (fun m _ => em m) (fun m hm => eva m hm) hn.2.2.2.1 hR.2.2.2.1
  refine ⟨?_, ?_, fun x hx => ?_, ⟨fun m hm => ?_, ?_⟩, ?_, ?_, ?_⟩
  · obtain ⟨n0, n1, n2, n3, n4⟩ := hn
    unfold cN
    rw [hz 38 (by decide +kernel), hz 39 (by decide +kernel), hz 43 (by decide +kernel), hz 41 (by decide +kernel), X.i (i := 0) to (by decide +kernel), X.i (i := 2) to (by decide +kernel), X.i (i := 6) to (by decide +kernel), X.i (i := 7) to (by decide +kernel)]
    refine ⟨n0, n1, ?_, n3, n4⟩
    rw [hu, setI_same]
    omega
  · have g := cM_o X hI to (by decide +kernel) hn.2.1 hR.2.1
    unfold cM rM at *
    rw [hz 39 (by decide +kernel), hf 2 (by decide +kernel), hf 3 (by decide +kernel), hf 4 (by decide +kernel)]
    exact g
  · rw [ezn] at hx
    by_cases c : x < (v 40).toNatClampNeg
    · rw [eva x c]
      have nx : x ≠ (v 40).toNatClampNeg := by omega
      refine rV_m sm (fun k hk => ?_) (rV_o X hI (RC.tv hR hI to c).2 (by decide +kernel) (RC.vo hR c))
      have hk' : k = 6 ∨ k = 8 ∨ k = 7 ∨ k = 9 := by simpa using hk
      rcases hk' with rfl | rfl | rfl | rfl
      · rw [h2, upd_ne nx]
      · rw [h4, upd_ne nx]
      · rw [h3, upd_ne nx]
      · rw [h5, upd_ne nx]
    · have ex : x = (v 40).toNatClampNeg := by omega
      subst ex
      rw [evn]
      have fI : ∀ i, oI u q i = oI S1 q i := fun i => by rw [hu, setI_oth nqo]; rfl
      have fP : ∀ i, oP u q i = oP S1 q i := fun i => by
        rw [hu]
        show oP (setP S1 (oQ Z o 3) (oI Z o 4).toNatClampNeg (some q)) q i = _
        rw [setP_oth nqr]
      have k6 : (1000000 : Int32).toInt = 1000000 := by decide
      have km : (-1 : Int32).toInt = -1 := by decide
      have k0 : (0 : Int32).toInt = 0 := by decide
      have z0 : tldI z fz 0 ((v 40).toNatClampNeg : Int) = 0 := by rw [sm.tld]; exact no_v hR (by omega) (Nat.le_refl _)
      have z2 : tldI z fz 2 ((v 40).toNatClampNeg : Int) = 0 := by rw [sm.tld]; exact no_v hR (by omega) (Nat.le_refl _)
      have zh : hls (hvS fz (v 40).toNatClampNeg) (z 41).toNatClampNeg = [] := by
        rw [hv_m sm]
        refine hls_nil (fun j hj g => ?_)
        have g := of_decide_eq_true g
        exact b01_0 (no_v hR (k := 1) (by omega) (Nat.le_refl _)) ⟨j, hj, g.1, g.2⟩
      unfold rV
      rw [zh, h2, h3, h4, h5, upd_eq, upd_eq, upd_eq, upd_eq, fI, fI, fI, fI, fI, f0, f1, f2, f3, f4, fP, f9]
      refine ⟨?_, rfl, rfl, ?_, Or.inl ⟨k0, by rw [km]; decide⟩, Or.inl ⟨z0, by rw [fI, f5]; exact k6, by rw [fI, f6]; exact k6⟩, Or.inl ⟨z2, by rw [fI, f7]; exact k6, by rw [fI, f8]; exact k6⟩, rfl⟩
      · rw [tn_i hvb.1]
        exact hn.2.2.1
      · exact hn.1
  · rw [hz 43 (by decide +kernel)] at hm
    exact rA_m sm (by rw [hz 39 (by decide +kernel)]; omega) (by omega) (hx_sub hf (by decide +kernel) m) (ca.1 m hm)
  · rw [hz 43 (by decide +kernel)]
    exact ca.2
  · exact rLw_m (hz _ (by decide +kernel)) (hf_sub hf (by decide +kernel)) (cL_o X hI to (by decide +kernel) (RC.l hR))
  · have g := cT_o X hI to (by decide +kernel) (RC.t hR)
    unfold cTp at *
    rw [hz 46 (by decide +kernel), hf 44 (by decide +kernel)]
    exact g
  · obtain ⟨p1, p2, p3, -, -⟩ := RC.p hR
    unfold cPm
    rw [hz 38 (by decide +kernel), hz 39 (by decide +kernel), hz 43 (by decide +kernel), hz 41 (by decide +kernel), hf 4 (by decide +kernel), hf 22 (by decide +kernel), hf 23 (by decide +kernel), hf 25 (by decide +kernel), hf 12 (by decide +kernel), hf 13 (by decide +kernel), hf 10 (by decide +kernel), hf 11 (by decide +kernel)]
    exact ⟨p1, p2, fun i hi => ⟨(p3 i hi).1, (p3 i hi).2.1, (p3 i hi).2.2.1, fun g => ⟨((p3 i hi).2.2.2.1 g).1, by have := ((p3 i hi).2.2.2.1 g).2; omega⟩, (p3 i hi).2.2.2.2⟩, hm, hA⟩
end
