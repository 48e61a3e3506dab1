

section
variable {W : List Nat} {S u : oS} {o b x a n : Nat} {v z : Nat → Int32} {fa fz : Nat → Nat → Int32} {r : Option Nat} {l : List Nat}
theorem upd_ne {f : Nat → Int32} {k j : Nat} {y : Int32} (h : j ≠ k) : upd f k y j = f j := if_neg h
theorem upd_eq {f : Nat → Int32} {k : Nat} {y : Int32} : upd f k y k = y := if_pos rfl
/-- happenings and their chains stay -/
theorem rHp_o {b i : Nat} (X : oX W S u) (tb : oty S b 3) (hk : ∀ k ∈ [300, 301, 302, 303, 304, 305], k ∉ W) (h : rHp S fa b i) : rHp u fa b i := by
  unfold rHp at *
  rw [X.i (i := 0) tb (hk 300 (by decide +kernel)), X.i (i := 1) tb (hk 301 (by decide +kernel)), X.i (i := 2) tb (hk 302 (by decide +kernel)), X.i (i := 3) tb (hk 303 (by decide +kernel)), X.i (i := 4) tb (hk 304 (by decide +kernel))]
  exact h
theorem chn_o (X : oX W S u) (hI : oInv S) (hk : ∀ k ∈ [300, 301, 302, 303, 304, 305], k ∉ W) : ∀ (l : List Nat) (r : Option Nat), (∀ b, r = some b → oty S b 3) → chn S fa l r → chn u fa l r := by
  intro l
  induction l with
  | nil => intro r _ h; exact h
  | cons i l ih =>
    intro r hr h
    obtain ⟨b, e, h1, h2⟩ := h
    have tb := hr b e
    refine ⟨b, e, rHp_o X tb hk h1, ?_⟩
    rw [X.p (i := 5) tb (hk 305 (by decide +kernel))]
    exact ih _ (fun c hc => oInv.rd hI tb.2 hc rfl rfl) h2
theorem onc_o {d t : Nat} {k : Int} (e1 : oI u b d = oI S b d) (e2 : oI u b t = oI S b t) (h : onc S b d t v fa k x) : onc u b d t v fa k x := by
  unfold onc at *
  rw [e1, e2]
  exact h
/-- a voyage whose fields stay -/
theorem rV_S (hf : ∀ i, oI u b i = oI S b i) (hc : chn u fa (hls (hvS fa x) (v 41).toNatClampNeg) (oP u b 9)) (h : rV S b x v fa) : rV u b x v fa := by
  obtain ⟨h0, h1, h2, h3, h4, h5, h6, h7⟩ := h
  exact ⟨by rw [hf]; exact h0, by rw [hf]; exact h1, by rw [hf]; exact h2, by rw [hf]; exact h3, by rw [hf]; exact h4, onc_o (hf 5) (hf 6) h5, onc_o (hf 7) (hf 8) h6, hc⟩
theorem rV_o (X : oX W S u) (hI : oInv S) (tb : oty S b 9) (hk : ∀ k ∈ [900, 901, 902, 903, 904, 905, 906, 907, 908, 909, 300, 301, 302, 303, 304, 305], k ∉ W) (h : rV S b x v fa) : rV u b x v fa := by
  obtain ⟨h0, h1, h2, h3, h4, h5, h6, h7⟩ := h
  refine ⟨by rw [X.i (i := 0) tb (hk 900 (by decide +kernel))]; exact h0, by rw [X.i (i := 1) tb (hk 901 (by decide +kernel))]; exact h1, by rw [X.i (i := 2) tb (hk 902 (by decide +kernel))]; exact h2, by rw [X.i (i := 3) tb (hk 903 (by decide +kernel))]; exact h3, by rw [X.i (i := 4) tb (hk 904 (by decide +kernel))]; exact h4, onc_o (X.i (i := 5) tb (hk 905 (by decide +kernel))) (X.i (i := 6) tb (hk 906 (by decide +kernel))) h5, onc_o (X.i (i := 7) tb (hk 907 (by decide +kernel))) (X.i (i := 8) tb (hk 908 (by decide +kernel))) h6, ?_⟩
  rw [X.p (i := 9) tb (hk 909 (by decide +kernel))]
  exact chn_o X hI (fun k q => hk k (List.mem_append_right [900, 901, 902, 903, 904, 905, 906, 907, 908, 909] q)) _ _ (fun c hc => oInv.rd hI tb.2 hc rfl rfl) h7
/-- addresses stay -/
theorem adr_o {p kr : Nat} (X : oX W S u) (hI : oInv S) (to : oty S o 10) (hn : nnP 10 p = true) (e1 : rL 10 p = kr) (e2 : rH 10 p = kr) (hkr : 11 ≤ kr ∧ kr < 300) (k1 : 1000 + p ∉ W) (k2 : 2000 + kr ∉ W) (hp : p < 16) : ∀ x, oQ u (oQ u o p) x = oQ S (oQ S o p) x := by
  intro x
  have tr := (ro_e (p := p) (kr := kr) hI to hn e1 e2).2
  have k3 : wk 10 p ∉ W := by
    unfold wk
    rw [if_pos (by decide +kernel)]
    exact k1
  have eo : oQ u o p = oQ S o p := by unfold oQ; rw [X.p (i := p) to k3]
  rw [eo]
  show (oP u (oQ S o p) x).getD 0 = (oP S (oQ S o p) x).getD 0
  rw [X.p (i := x) tr (nkw hkr.1 hkr.2 k2)]
theorem mnA_o (X : oX W S u) (hI : oInv S) (to : oty S o 10) (k1 : 1001 ∉ W) (k2 : 2014 ∉ W) (x : Nat) : mnA u o x = mnA S o x := adr_o (p := 1) X hI to rfl rfl rfl (by decide +kernel) k1 k2 (by decide +kernel) x
theorem voA_o (X : oX W S u) (hI : oInv S) (to : oty S o 10) (k1 : 1003 ∉ W) (k2 : 2015 ∉ W) (x : Nat) : voA u o x = voA S o x := adr_o (p := 3) X hI to rfl rfl rfl (by decide +kernel) k1 k2 (by decide +kernel) x
theorem agA_o (X : oX W S u) (hI : oInv S) (to : oty S o 10) (k1 : 1005 ∉ W) (k2 : 2016 ∉ W) (x : Nat) : agA u o x = agA S o x := adr_o (p := 5) X hI to rfl rfl rfl (by decide +kernel) k1 k2 (by decide +kernel) x
/-- an agreement whose fields stay, as the addresses of what it points to -/
theorem rA_S (hf : ∀ i, i < 9 → oI u b i = oI S b i) (hp : ∀ i, i < 4 → oP u b i = oP S b i) (hm : ∀ m, m < (v 39).toNatClampNeg → mnA u o m = mnA S o m) (hv : ∀ m, m < (v 40).toNatClampNeg → voA u o m = voA S o m) (hg : ∀ m, m < a → agA u o m = agA S o m) (hc : chn u fa (hls (tdS fa a) (v 41).toNatClampNeg) (oP u b 8)) (h : rA S o b a v fa) : rA u o b a v fa := by
  obtain ⟨⟨m1, m2, m3⟩, ⟨v1, v2, v3⟩, h2, h3, h4, h5, h6, h7, h8⟩ := h
  refine ⟨⟨m1, m2, ?_⟩, ⟨v1, v2, ?_⟩, by rw [hf 2 (by decide +kernel)]; exact h2, ?_, by rw [hf 4 (by decide +kernel)]; exact h4, by rw [hf 5 (by decide +kernel)]; exact h5, by rw [hf 6 (by decide +kernel)]; exact h6, by rw [hf 7 (by decide +kernel)]; exact h7, hc⟩
  · rw [hp 0 (by decide +kernel), hm _ (ni_lt m1 m2)]; exact m3
  · rw [hp 1 (by decide +kernel), hv _ (ni_lt v1 v2)]; exact v3
  · rw [hp 3 (by decide +kernel)]
    rcases h3 with h3 | ⟨p1, p2, p3⟩
    · exact Or.inl h3
    · refine Or.inr ⟨p1, p2, ?_⟩
      rw [hg (fa 24 a).toNatClampNeg (show (fa 24 a).toInt.toNat < a by omega)]
      exact p3
theorem rA_o (X : oX W S u) (hI : oInv S) (tb : oty S b 1) (hk : ∀ k ∈ [100, 101, 102, 103, 104, 105, 106, 107, 108, 300, 301, 302, 303, 304, 305], k ∉ W) (hm : ∀ m, m < (v 39).toNatClampNeg → mnA u o m = mnA S o m) (hv : ∀ m, m < (v 40).toNatClampNeg → voA u o m = voA S o m) (hg : ∀ m, m < a → agA u o m = agA S o m) (h : rA S o b a v fa) : rA u o b a v fa := by
  have key : ∀ i, i < 9 → wk 1 i ∉ W := fun i hi => by
    have e : wk 1 i = 100 + i := by unfold wk; rw [if_pos (by decide +kernel)]
    rw [e]
    have q : i = 0 ∨ i = 1 ∨ i = 2 ∨ i = 3 ∨ i = 4 ∨ i = 5 ∨ i = 6 ∨ i = 7 ∨ i = 8 := by omega
    rcases q with rfl | rfl | rfl | rfl | rfl | rfl | rfl | rfl | rfl <;> exact hk _ (by decide +kernel)
  refine rA_S (fun i hi => X.i (i := i) tb (key i hi)) (fun i hi => X.p (i := i) tb (key i (by omega))) hm hv hg ?_ h
  rw [X.p (i := 8) tb (key 8 (by decide +kernel))]
  exact chn_o X hI (fun k q => hk k (List.mem_append_right [100, 101, 102, 103, 104, 105, 106, 107, 108] q)) _ _ (fun c hc => oInv.rd hI tb.2 hc rfl rfl) h.2.2.2.2.2.2.2.2
theorem rM_o {m : Nat} (X : oX W S u) (tb : oty S b 6) (hk : ∀ k ∈ [600, 601, 602, 603], k ∉ W) (h : rM S b m fa) : rM u b m fa := by
  unfold rM at *
  rw [X.i (i := 0) tb (hk 600 (by decide +kernel)), X.i (i := 1) tb (hk 601 (by decide +kernel)), X.i (i := 2) tb (hk 602 (by decide +kernel)), X.i (i := 3) tb (hk 603 (by decide +kernel))]
  exact h
theorem cM_o (X : oX W S u) (hI : oInv S) (to : oty S o 10) (hk : ∀ k ∈ [1001, 2014, 600, 601, 602, 603], k ∉ W) (hn : (oI S o 2).toInt = (v 39).toInt) (h : cM S o v fa) : cM u o v fa := fun m hm => by
  rw [mnA_o X hI to (hk _ (by decide +kernel)) (hk _ (by decide +kernel))]
  exact rM_o X (mnA_e hI to (by rw [cn_c hn]; exact hm)).2 (fun k q => hk k (List.mem_append_right [1001, 2014] q)) (h m hm)
theorem cV_o (X : oX W S u) (hI : oInv S) (to : oty S o 10) (hk : ∀ k ∈ [1003, 2015, 900, 901, 902, 903, 904, 905, 906, 907, 908, 909, 300, 301, 302, 303, 304, 305], k ∉ W) (hn : (oI S o 4).toInt = (v 40).toInt) (h : cV S o v fa) : cV u o v fa := fun m hm => by
  rw [voA_o X hI to (hk _ (by decide +kernel)) (hk _ (by decide +kernel))]
  exact rV_o X hI (voA_e hI to (by rw [cn_c hn]; exact hm)).2 (fun k q => hk k (List.mem_append_right [1003, 2015] q)) (h m hm)
theorem cA_o (X : oX W S u) (hI : oInv S) (to : oty S o 10) (hk : ∀ k ∈ [1005, 2016, 100, 101, 102, 103, 104, 105, 106, 107, 108, 300, 301, 302, 303, 304, 305], k ∉ W) (hm : ∀ m, m < (v 39).toNatClampNeg → mnA u o m = mnA S o m) (hv : ∀ m, m < (v 40).toNatClampNeg → voA u o m = voA S o m) (hn : (oI S o 6).toInt = (v 43).toInt) (h : cA S o v fa) : cA u o v fa := by
  have ea := agA_o X hI to (hk 1005 (by decide +kernel)) (hk 2016 (by decide +kernel))
  refine ⟨fun m hm2 => ?_, fun m m' q q' e => h.2 m m' q q' (by rw [ea, ea] at e; exact e)⟩
  rw [ea]
  exact rA_o X hI (agA_e hI to (by rw [cn_c hn]; exact hm2)).2 (fun k q => hk k (List.mem_append_right [1005, 2016] q)) hm hv (fun j _ => ea j) (h.1 m hm2)
theorem cT_o (X : oX W S u) (hI : oInv S) (to : oty S o 10) (hk : ∀ k ∈ [1009, 800, 801, 2160], k ∉ W) (h : cTp S o v fa) : cTp u o v fa := by
  have tt := (ro_e (p := 9) (kr := 8) hI to rfl rfl rfl).2
  have tr := (ro_e (p := 0) (kr := 160) hI tt rfl rfl rfl).2
  have e1 : oQ u o 9 = oQ S o 9 := by unfold oQ; rw [X.p (i := 9) to (hk 1009 (by decide +kernel))]
  have e2 : oQ u (oQ S o 9) 0 = oQ S (oQ S o 9) 0 := by
    show (oP u (oQ S o 9) 0).getD 0 = (oP S (oQ S o 9) 0).getD 0
    rw [X.p (i := 0) tt (hk 800 (by decide +kernel))]
  unfold cTp at *
  rw [e1, e2, X.i (i := 1) tt (hk 801 (by decide +kernel)), X.f tr (fun _ => nkw (by decide +kernel) (by decide +kernel) (hk 2160 (by decide +kernel)))]
  exact h
theorem cL_o (X : oX W S u) (hI : oInv S) (to : oty S o 10) (hk : ∀ k ∈ [1008, 500, 501, 502, 2012, 2013, 0, 1, 2, 3, 4, 5000], k ∉ W) (h : rLw S (oQ S o 8) v fa) : rLw u (oQ u o 8) v fa := by
  have tl := (ro_e (p := 8) (kr := 5) hI to rfl rfl rfl).2
  have e1 : oQ u o 8 = oQ S o 8 := by unfold oQ; rw [X.p (i := 8) to (hk 1008 (by decide +kernel))]
  rw [e1]
  exact rLw_o X hI tl (fun k q => hk k (List.mem_cons_of_mem _ q)) h
theorem cN_o (X : oX W S u) (to : oty S o 10) (hk : ∀ k ∈ [1000, 1002, 1004, 1006, 1007], k ∉ W) (h : cN S o v) : cN u o v := by
  unfold cN at *
  rw [X.i (i := 0) to (hk 1000 (by decide +kernel)), X.i (i := 2) to (hk 1002 (by decide +kernel)), X.i (i := 4) to (hk 1004 (by decide +kernel)), X.i (i := 6) to (hk 1006 (by decide +kernel)), X.i (i := 7) to (hk 1007 (by decide +kernel))]
  exact h
def keysC : List Nat := [1000, 1002, 1004, 1006, 1007, 1001, 2014, 600, 601, 602, 603, 1003, 2015, 900, 901, 902, 903, 904, 905, 906, 907, 908, 909, 300, 301, 302, 303, 304, 305, 1005, 2016, 100, 101, 102, 103, 104, 105, 106, 107, 108, 1008, 500, 501, 502, 2012, 2013, 0, 1, 2, 3, 4, 5000, 1009, 800, 801, 2160]
/-- the office changes nothing that the relation speaks of, but perhaps the number of refusals -/
theorem RC_oR (X : oX W S u) (hI : oInv S) (to : oty S o 10) (hk : ∀ k ∈ keysC, k ∉ W) (h : RC S o v fa) : cN u o v ∧ cM u o v fa ∧ cV u o v fa ∧ cA u o v fa ∧ rLw u (oQ u o 8) v fa ∧ cTp u o v fa := by
  obtain ⟨h1, h2, h3, h4, h5, h6, h7⟩ := h
  have hk2 : ∀ L : List Nat, (∀ k ∈ L, k ∈ keysC) → ∀ k ∈ L, k ∉ W := fun L q k hk3 => hk k (q k hk3)
  refine ⟨cN_o X to (hk2 _ (by decide +kernel)) h1, cM_o X hI to (hk2 _ (by decide +kernel)) h1.2.1 h2, cV_o X hI to (hk2 _ (by decide +kernel)) h1.2.2.1 h3, cA_o X hI to (hk2 _ (by decide +kernel)) (fun m _ => mnA_o X hI to (hk _ (by decide +kernel)) (hk _ (by decide +kernel)) m) (fun m _ => voA_o X hI to (hk _ (by decide +kernel)) (hk _ (by decide +kernel)) m) h1.2.2.2.1 h4, cL_o X hI to (hk2 _ (by decide +kernel)) h5, cT_o X hI to (hk2 _ (by decide +kernel)) h6⟩
theorem RC_o (X : oX W S u) (hI : oInv S) (to : oty S o 10) (hk : ∀ k ∈ keysC, k ∉ W) (h : RC S o v fa) : RC u o v fa := by
  obtain ⟨h1, h2, h3, h4, h5, h6⟩ := RC_oR X hI to hk h
  exact ⟨h1, h2, h3, h4, h5, h6, h.p⟩
end
