

section
variable {W : List Nat} {S : oS} {o b x a n : Nat} {v z : Nat → Int32} {fa fz : Nat → Nat → Int32}
theorem hvS_c {n : Nat} (h1 : fz 10 n = fa 10 n) (h2 : fz 11 n = fa 11 n) : hvS fz x n = hvS fa x n := by unfold hvS; rw [h1, h2]
theorem tdS_c {n : Nat} (h1 : fz 10 n = fa 10 n) (h2 : fz 11 n = fa 11 n) : tdS fz x n = tdS fa x n := by unfold tdS; rw [h1, h2]
theorem rHp_c {i : Nat} (h : ∀ k ∈ [10, 11, 12, 13, 14, 15], fz k i = fa k i) (g : rHp S fa b i) : rHp S fz b i := by
  unfold rHp at *
  rw [h 12 (by decide +kernel), h 13 (by decide +kernel), h 10 (by decide +kernel), h 14 (by decide +kernel), h 15 (by decide +kernel)]
  exact g
theorem chn_c : ∀ (l : List Nat) (r : Option Nat), (∀ i, i ∈ l → ∀ k ∈ [10, 11, 12, 13, 14, 15], fz k i = fa k i) → chn S fa l r → chn S fz l r := by
  intro l
  induction l with
  | nil => intro r _ h; exact h
  | cons i l ih =>
    intro r hr h
    obtain ⟨b, e, h1, h2⟩ := h
    exact ⟨b, e, rHp_c (hr i List.mem_cons_self) h1, ih _ (fun j hj => hr j (List.mem_cons_of_mem _ hj)) h2⟩
/-- the happenings stay -/
def smH (v : Nat → Int32) (fa : Nat → Nat → Int32) (z : Nat → Int32) (fz : Nat → Nat → Int32) : Prop := z 41 = v 41 ∧ ∀ k ∈ [10, 11, 12, 13, 14, 15], fz k = fa k
theorem smH.tld (h : smH v fa z fz) {k y : Int} : tldI z fz k y = tldI v fa k y := tldI_fr h.1 (h.2 10 (by decide +kernel)) (h.2 11 (by decide +kernel))
theorem onc_m {d t : Nat} {k : Int} (h : smH v fa z fz) (g : onc S b d t v fa k x) : onc S b d t z fz k x := by
  unfold onc at *
  rw [h.tld, h.1, h.2 10 (by decide +kernel), h.2 11 (by decide +kernel), h.2 12 (by decide +kernel), h.2 13 (by decide +kernel)]
  exact g
theorem hv_m (h : smH v fa z fz) : hls (hvS fz x) (z 41).toNatClampNeg = hls (hvS fa x) (v 41).toNatClampNeg := by
  rw [h.1]
  exact hls_c (fun j _ => hvS_c (congrFun (h.2 10 (by decide +kernel)) j) (congrFun (h.2 11 (by decide +kernel)) j))
theorem td_m (h : smH v fa z fz) : hls (tdS fz x) (z 41).toNatClampNeg = hls (tdS fa x) (v 41).toNatClampNeg := by
  rw [h.1]
  exact hls_c (fun j _ => tdS_c (congrFun (h.2 10 (by decide +kernel)) j) (congrFun (h.2 11 (by decide +kernel)) j))
theorem rV_m (h : smH v fa z fz) (hf : ∀ k ∈ [6, 8, 7, 9], fz k x = fa k x) (g : rV S b x v fa) : rV S b x z fz := by
  obtain ⟨h0, h1, h2, h3, h4, h5, h6, h7⟩ := g
  refine ⟨h0, by rw [hf 6 (by decide +kernel)]; exact h1, by rw [hf 8 (by decide +kernel)]; exact h2, by rw [hf 7 (by decide +kernel)]; exact h3, by rw [hf 9 (by decide +kernel)]; exact h4, onc_m h h5, onc_m h h6, ?_⟩
  rw [hv_m h]
  exact chn_c _ _ (fun i _ k hk => congrFun (h.2 k hk) i) h7
theorem rA_m (h : smH v fa z fz) (hm : (v 39).toInt ≤ (z 39).toInt) (hv : (v 40).toInt ≤ (z 40).toInt) (hf : ∀ k ∈ [20, 21, 25, 24, 22, 23, 26], fz k a = fa k a) (g : rA S o b a v fa) : rA S o b a z fz := by
  obtain ⟨⟨m1, m2, m3⟩, ⟨v1, v2, v3⟩, h2, h3, h4, h5, h6, h7, h8⟩ := g
  unfold rA
  rw [hf 20 (by decide +kernel), hf 21 (by decide +kernel), hf 25 (by decide +kernel), hf 24 (by decide +kernel), hf 22 (by decide +kernel), hf 23 (by decide +kernel), hf 26 (by decide +kernel), h.tld, td_m h]
  exact ⟨⟨m1, by omega, m3⟩, ⟨v1, by omega, v3⟩, h2, h3, h4, h5, h6, h7, chn_c _ _ (fun i _ k hk => congrFun (h.2 k hk) i) h8⟩
theorem rLw_m {lw : Nat} (h0 : z 42 = v 42) (hf : ∀ k ∈ [19, 16, 17, 18], fz k = fa k) (g : rLw S lw v fa) : rLw S lw z fz := by
  unfold rLw rAc txF at *
  rw [h0, hf 19 (by decide +kernel), hf 16 (by decide +kernel), hf 17 (by decide +kernel), hf 18 (by decide +kernel)]
  exact g
def fldC : List Nat := [38, 39, 40, 43, 41, 42, 46]
def rowC : List Nat := [2, 3, 4, 6, 8, 7, 9, 10, 11, 12, 13, 14, 15, 19, 16, 17, 18, 20, 21, 25, 24, 22, 23, 26, 44]
/-- the reference changes nothing that the relation speaks of, but perhaps the number of refusals -/
theorem RC_mR (hz : ∀ i ∈ fldC, z i = v i) (hf : ∀ k ∈ rowC, fz k = fa k) (hV : mV z) (hA : mA fz) (h : cN S o v ∧ cM S o v fa ∧ cV S o v fa ∧ cA S o v fa ∧ rLw S (oQ S o 8) v fa ∧ cTp S o v fa) (hp : cPm v fa) : RC S o z fz := by
  obtain ⟨h1, h2, h3, h4, h5, h6⟩ := h
  have sm : smH v fa z fz := ⟨hz _ (by decide +kernel), fun k hk => hf k (by revert k; decide)⟩
  have f2 : ∀ L : List Nat, (∀ k ∈ L, k ∈ rowC) → ∀ k ∈ L, ∀ j, fz k j = fa k j := fun L q k hk j => congrFun (hf k (q k hk)) j
  refine ⟨?_, ?_, ?_, ⟨?_, ?_⟩, rLw_m (hz _ (by decide +kernel)) (fun k hk => hf k (by revert k; decide)) h5, ?_, ?_⟩
  · unfold cN at *
    rw [hz 38 (by decide +kernel), hz 39 (by decide +kernel), hz 40 (by decide +kernel), hz 43 (by decide +kernel), hz 41 (by decide +kernel)]
    exact h1
  · unfold cM rM at *
    rw [hz 39 (by decide +kernel), hf 2 (by decide +kernel), hf 3 (by decide +kernel), hf 4 (by decide +kernel)]
    exact h2
  · intro m hm
    rw [hz 40 (by decide +kernel)] at hm
    exact rV_m sm (fun k hk => f2 _ (by decide +kernel) k hk m) (h3 m hm)
  · intro m hm
    rw [hz 43 (by decide +kernel)] at hm
    exact rA_m sm (by rw [hz 39 (by decide +kernel)]; omega) (by rw [hz 40 (by decide +kernel)]; omega) (fun k hk => f2 _ (by decide +kernel) k hk m) (h4.1 m hm)
  · rw [hz 43 (by decide +kernel)]
    exact h4.2
  · unfold cTp at *
    rw [hz 46 (by decide +kernel), hf 44 (by decide +kernel)]
    exact h6
  · obtain ⟨p1, p2, p3, -, -⟩ := hp
    unfold cPm
    rw [hz 38 (by decide +kernel), hz 39 (by decide +kernel), hz 43 (by decide +kernel), hz 40 (by decide +kernel), hz 41 (by decide +kernel), hf 4 (by decide +kernel), hf 22 (by decide +kernel), hf 23 (by decide +kernel), hf 25 (by decide +kernel), hf 12 (by decide +kernel), hf 13 (by decide +kernel), hf 10 (by decide +kernel), hf 11 (by decide +kernel)]
    exact ⟨p1, p2, p3, hV, hA⟩
/-- a refusal of both -/
theorem RC_rf {u : oS} {w : (Nat → Int32) × (Nat → Nat → Int32)} {S0 : oS} {r r1 : Int32} (hI : oInv S) (to : oty S o 10) (h : RC S o v fa) (X : oX W S S0) (hk : ∀ k ∈ keysC, k ∉ W) (hS0 : oInv S0) (ho : rfO S0 o u r) (hm : sm2 v fa w r1) (hV : mV w.1) (hA : mA w.2) : RC u o w.1 w.2 := by
  have h0 := RC_o X hI to hk h
  have t0 : oty S0 o 10 := X.ty to
  have tr := (ro_e (p := 15) (kr := 107) hS0 t0 rfl rfl rfl).2
  have X2 : oX [2107] S0 u := by
    rw [show u = _ from ho]
    exact oX.I (k := 107) (key := 2107) tr.2 rfl (List.mem_singleton.mpr rfl)
  have g := RC_oR X2 hS0 t0 (by decide +kernel) h0
  exact RC_mR (fun i hi => hm.1 i (by revert i; decide)) (fun k hk => hm.2.1 k (by revert k; decide) (by revert k; decide)) hV hA g h.p
end
