

section
variable {W : List Nat} {S u Z : oS} {o b x a th fi : Nat} {v z : Nat → Int32} {fa fz : Nat → Nat → Int32} {k q d w p : Int32}
theorem hp_n (h : hpN v fa k q d w p (z, fz)) (hV : mV v) : (z 41).toNatClampNeg = (v 41).toNatClampNeg + 1 := by
  have h1 : (z 41).toInt = (v 41).toInt + 1 := h.1
  have h2 : 0 ≤ (v 41).toInt := (hV 41).1
  show (z 41).toInt.toNat = (v 41).toInt.toNat + 1
  omega
theorem hp_lt (h : hpN v fa k q d w p (z, fz)) {j : Nat} (hj : j < (v 41).toNatClampNeg) : ∀ r ∈ [10, 11, 12, 13, 14, 15], fz r j = fa r j := by
  obtain ⟨-, h1, h2, h3, h4, h5, h6⟩ := h
  dsimp only at h1 h2 h3 h4 h5 h6
  intro r hr
  have hn : j ≠ (v 41).toNatClampNeg := by omega
  have hr : r = 10 ∨ r = 11 ∨ r = 12 ∨ r = 13 ∨ r = 14 ∨ r = 15 := by simpa using hr
  rcases hr with rfl | rfl | rfl | rfl | rfl | rfl
  · rw [h1, upd_ne hn]
  · rw [h2, upd_ne hn]
  · rw [h3, upd_ne hn]
  · rw [h4, upd_ne hn]
  · rw [h5, upd_ne hn]
  · rw [h6, upd_ne hn]
theorem hp_at (h : hpN v fa k q d w p (z, fz)) : fz 10 (v 41).toNatClampNeg = k ∧ fz 11 (v 41).toNatClampNeg = q ∧ fz 12 (v 41).toNatClampNeg = d ∧ fz 13 (v 41).toNatClampNeg = v 38 ∧ fz 14 (v 41).toNatClampNeg = w ∧ fz 15 (v 41).toNatClampNeg = p := by
  obtain ⟨-, h1, h2, h3, h4, h5, h6⟩ := h
  dsimp only at h1 h2 h3 h4 h5 h6
  rw [h1, h2, h3, h4, h5, h6]
  exact ⟨upd_eq, upd_eq, upd_eq, upd_eq, upd_eq, upd_eq⟩
theorem tldI_hp (h : hpN v fa k q d w p (z, fz)) (hV : mV v) {kk oo : Int} : tldI z fz kk oo = if kk = k.toInt ∧ oo = q.toInt then 1 else tldI v fa kk oo := by
  obtain ⟨a1, a2, -⟩ := hp_at h
  unfold tldI
  rw [hp_n h hV]
  by_cases c : kk = k.toInt ∧ oo = q.toInt
  · rw [if_pos c]
    exact b01_t ⟨(v 41).toNatClampNeg, by omega, by rw [a1, c.1], by rw [a2, c.2]⟩
  · rw [if_neg c]
    refine b01_c ⟨?_, ?_⟩
    · rintro ⟨j, hj, h1, h2⟩
      by_cases e : j = (v 41).toNatClampNeg
      · rw [e, a1] at h1
        rw [e, a2] at h2
        exact absurd ⟨h1.symm, h2.symm⟩ c
      · have l := hp_lt h (j := j) (by omega)
        rw [l 10 (by decide +kernel)] at h1
        rw [l 11 (by decide +kernel)] at h2
        exact ⟨j, by omega, h1, h2⟩
    · rintro ⟨j, hj, h1, h2⟩
      have l := hp_lt h hj
      exact ⟨j, by omega, by rw [l 10 (by decide +kernel)]; exact h1, by rw [l 11 (by decide +kernel)]; exact h2⟩
theorem hls_hv (h : hpN v fa k q d w p (z, fz)) (hV : mV v) (x : Nat) : hls (hvS fz x) (z 41).toNatClampNeg = if k.toInt = 1 ∧ q.toInt = (x : Int) then (v 41).toNatClampNeg :: hls (hvS fa x) (v 41).toNatClampNeg else hls (hvS fa x) (v 41).toNatClampNeg := by
  obtain ⟨a1, a2, -⟩ := hp_at h
  rw [hp_n h hV]
  have e : hls (hvS fz x) (v 41).toNatClampNeg = hls (hvS fa x) (v 41).toNatClampNeg := hls_c (fun j hj => hvS_c (hp_lt h hj 10 (by decide +kernel)) (hp_lt h hj 11 (by decide +kernel)))
  show (if hvS fz x (v 41).toNatClampNeg = true then (v 41).toNatClampNeg :: hls (hvS fz x) (v 41).toNatClampNeg else hls (hvS fz x) (v 41).toNatClampNeg) = _
  rw [e]
  unfold hvS
  rw [a1, a2]
  by_cases c : k.toInt = 1 ∧ q.toInt = (x : Int)
  · rw [if_pos (decide_eq_true c), if_pos c]
  · rw [if_neg (by rw [decide_eq_false c]; decide), if_neg c]
theorem hls_td (h : hpN v fa k q d w p (z, fz)) (hV : mV v) (a : Nat) : hls (tdS fz a) (z 41).toNatClampNeg = if (k.toInt = 3 ∨ k.toInt = 4 ∨ k.toInt = 5) ∧ q.toInt = (a : Int) then (v 41).toNatClampNeg :: hls (tdS fa a) (v 41).toNatClampNeg else hls (tdS fa a) (v 41).toNatClampNeg := by
  obtain ⟨a1, a2, -⟩ := hp_at h
  rw [hp_n h hV]
  have e : hls (tdS fz a) (v 41).toNatClampNeg = hls (tdS fa a) (v 41).toNatClampNeg := hls_c (fun j hj => tdS_c (hp_lt h hj 10 (by decide +kernel)) (hp_lt h hj 11 (by decide +kernel)))
  show (if tdS fz a (v 41).toNatClampNeg = true then (v 41).toNatClampNeg :: hls (tdS fz a) (v 41).toNatClampNeg else hls (tdS fz a) (v 41).toNatClampNeg) = _
  rw [e]
  unfold tdS
  rw [a1, a2]
  by_cases c : (k.toInt = 3 ∨ k.toInt = 4 ∨ k.toInt = 5) ∧ q.toInt = (a : Int)
  · rw [if_pos (decide_eq_true c), if_pos c]
  · rw [if_neg (by rw [decide_eq_false c]; decide), if_neg c]
theorem chn_hp (h : hpN v fa k q d w p (z, fz)) {P : Nat → Bool} {r : Option Nat} (g : chn S fa (hls P (v 41).toNatClampNeg) r) : chn S fz (hls P (v 41).toNatClampNeg) r := chn_c _ _ (fun _ hi => hp_lt h (hls_mem.mp hi).1) g
theorem onc_hp {dd t : Nat} {kk : Int} (h : hpN v fa k q d w p (z, fz)) (hV : mV v) (hn : ¬ (kk = k.toInt ∧ (x : Int) = q.toInt)) (g : onc S b dd t v fa kk x) : onc S b dd t z fz kk x := by
  unfold onc at *
  rw [tldI_hp h hV, if_neg hn]
  rcases g with g | ⟨g1, j, j1, j2, j3, j4, j5, j6, j7⟩
  · exact Or.inl g
  · have l := hp_lt h j1
    refine Or.inr ⟨g1, j, by rw [hp_n h hV]; omega, by rw [l 10 (by decide +kernel)]; exact j2, by rw [l 11 (by decide +kernel)]; exact j3, fun i hi h1 h2 => ?_, by rw [l 12 (by decide +kernel)]; exact j5, by rw [l 13 (by decide +kernel)]; exact j6, j7⟩
    rw [hp_n h hV] at hi
    obtain ⟨a1, a2, -⟩ := hp_at h
    by_cases e : i = (v 41).toNatClampNeg
    · rw [e, a1] at h1
      rw [e, a2] at h2
      exact absurd ⟨h1.symm, h2.symm⟩ hn
    · have l := hp_lt h (j := i) (by omega)
      rw [l 10 (by decide +kernel)] at h1
      rw [l 11 (by decide +kernel)] at h2
      exact j4 i (by omega) h1 h2
/-- a voyage that the happening is not of -/
theorem rV_hp (h : hpN v fa k q d w p (z, fz)) (hV : mV v) (hf : ∀ k ∈ [6, 8, 7, 9], fz k = fa k) (hn : ¬ ((x : Int) = q.toInt ∧ (k.toInt = 0 ∨ k.toInt = 1 ∨ k.toInt = 2))) (g : rV S b x v fa) : rV S b x z fz := by
  obtain ⟨h0, h1, h2, h3, h4, h5, h6, h7⟩ := g
  refine ⟨h0, by rw [hf 6 (by decide +kernel)]; exact h1, by rw [hf 8 (by decide +kernel)]; exact h2, by rw [hf 7 (by decide +kernel)]; exact h3, by rw [hf 9 (by decide +kernel)]; exact h4, onc_hp h hV (by omega) h5, onc_hp h hV (by omega) h6, ?_⟩
  rw [hls_hv h hV, if_neg (by omega)]
  exact chn_hp h h7
/-- an agreement that the happening is not of -/
theorem rA_hp (h : hpN v fa k q d w p (z, fz)) (hV : mV v) (h1 : z 39 = v 39) (h2 : z 40 = v 40) (hf : ∀ k ∈ [20, 21, 25, 24, 22, 23, 26], fz k = fa k) (hn : ¬ ((a : Int) = q.toInt ∧ (k.toInt = 3 ∨ k.toInt = 4 ∨ k.toInt = 5))) (g : rA S o b a v fa) : rA S o b a z fz := by
  obtain ⟨g1, g2, g3, g4, g5, g6, g7, g8, g9⟩ := g
  unfold rA
  rw [hf 20 (by decide +kernel), hf 21 (by decide +kernel), hf 25 (by decide +kernel), hf 24 (by decide +kernel), hf 22 (by decide +kernel), hf 23 (by decide +kernel), hf 26 (by decide +kernel), h1, h2, tldI_hp h hV, if_neg (by omega), hls_td h hV, if_neg (by omega)]
  exact ⟨g1, g2, g3, g4, g5, g6, g7, g8, chn_hp h g9⟩
/-- the office's new happening -/
theorem hapO_x {kd dy wy pt r : Int32} {kt : Nat} (h : hapO Z o th fi kd dy wy pt r u) (to : oty Z o 10) (tt : oty Z th kt) (hkt : kt < 10) (hfi : fi < 100) : oX [1007, 100 * kt + fi] Z u := by
  obtain ⟨q, S1, hq, hX, tq, hf, hr, hu⟩ := h
  have t1 : oty S1 th kt := hX.ty tt
  have t2 : oty S1 o 10 := hX.ty to
  have e1 : wk kt fi = 100 * kt + fi := by unfold wk; rw [if_pos (by omega)]
  rw [hu]
  refine oX.st (W1 := [1007]) (S1 := setP S1 th fi (some q)) (oX.st (W1 := [100 * kt + fi]) (oX.st (W1 := []) oX.rf hX (fun _ h => by cases h)) (oX.P t1.2 e1 (List.mem_singleton.mpr rfl)) (fun y hy => by rw [List.mem_singleton.mp hy]; exact List.mem_cons_of_mem _ List.mem_cons_self)) (oX.I (k := 10) t2.2 rfl (List.mem_singleton.mpr rfl)) (fun y hy => by rw [List.mem_singleton.mp hy]; exact List.mem_cons_self)
theorem hapO_I {kd dy wy pt r : Int32} {i : Nat} (h : hapO Z o th fi kd dy wy pt r u) (hb : b ∈ oL Z) (hn : ¬ (b = o ∧ i = 7)) : oI u b i = oI Z b i := by
  obtain ⟨q, S1, hq, hX, tq, hf, hr, hu⟩ := h
  rw [hu, setI_if hn]
  exact ((hX b hb).2.2 i (by simp)).1
theorem hapO_P {kd dy wy pt r : Int32} {i : Nat} (h : hapO Z o th fi kd dy wy pt r u) (hb : b ∈ oL Z) (hn : ¬ (b = th ∧ i = fi)) : oP u b i = oP Z b i := by
  obtain ⟨q, S1, hq, hX, tq, hf, hr, hu⟩ := h
  rw [hu]
  show oP (setP S1 th fi (some q)) b i = _
  rw [setP_if hn]
  exact ((hX b hb).2.2 i (by simp)).2.1
theorem hapO_7 {kd dy wy pt r : Int32} (h : hapO Z o th fi kd dy wy pt r u) : (oI u o 7).toInt = (oI Z o 7).toInt + 1 := by
  obtain ⟨q, S1, hq, hX, tq, hf, hr, hu⟩ := h
  rw [hu, setI_same]
  exact hr
/-- the chain with its new head -/
theorem hapO_c {kd dy wy pt r : Int32} {kt : Nat} {l : List Nat} (h : hapO Z o th fi kd dy wy pt r u) (hI : oInv Z) (to : oty Z o 10) (tt : oty Z th kt) (hkt : kt < 10) (hfi : fi < 100) (hnk : kt ≠ 3) (h3 : rL kt fi = 3 ∧ rH kt fi = 3) (n : Nat) (hc : chn Z fa l (oP Z th fi)) (hd : dy.toInt = (fa 12 n).toInt) (hk : (oI Z o 0).toInt = (fa 13 n).toInt) (hw : ((fa 10 n).toInt = 1 ∧ kd.toInt = 3) ∨ ((fa 10 n).toInt = 3 ∧ kd.toInt = 0 ∧ wy.toInt = (fa 14 n).toInt ∧ pt.toInt = (fa 15 n).toInt) ∨ ((fa 10 n).toInt = 4 ∧ kd.toInt = 2) ∨ ((fa 10 n).toInt = 5 ∧ kd.toInt = 1)) : chn u fa (n :: l) (oP u th fi) := by
  have X := hapO_x h to tt hkt hfi
  have hne : ∀ k ∈ [300, 301, 302, 303, 304, 305], k ∉ [1007, 100 * kt + fi] := fun k hk hm => by
    have hk2 : k = 300 ∨ k = 301 ∨ k = 302 ∨ k = 303 ∨ k = 304 ∨ k = 305 := by simpa using hk
    rcases List.mem_cons.mp hm with e | e
    · omega
    · have := List.mem_singleton.mp e
      omega
  have hc2 := chn_o X hI hne l _ (fun c hc => oInv.rd hI tt.2 hc h3.1 h3.2) hc
  obtain ⟨q, S1, hq, hX, tq, ⟨f0, f1, f2, f3, f4, f5⟩, hr, hu⟩ := h
  have nq : q ≠ o := fun e => hq (by rw [e]; exact to.1)
  have nt : q ≠ th := fun e => hq (by rw [e]; exact tt.1)
  have eP : oP u th fi = some q := by
    rw [hu]
    show oP (setP S1 th fi (some q)) th fi = _
    exact setP_same
  have eI : ∀ i, oI u q i = oI S1 q i := fun i => by rw [hu, setI_oth nq]; rfl
  have e5 : oP u q 5 = oP Z th fi := by
    rw [hu]
    show oP (setP S1 th fi (some q)) q 5 = _
    rw [setP_oth nt]
    exact f5
  refine ⟨q, eP, ⟨by rw [eI, f1]; exact hd, by rw [eI, f2]; exact hk, ?_⟩, by rw [e5]; exact hc2⟩
  rw [eI, eI, eI, f0, f3, f4]
  exact hw
end
