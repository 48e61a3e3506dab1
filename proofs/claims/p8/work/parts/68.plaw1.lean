

/-- the reference's addresses -/
def mAd (g0 : Nat) (pq : Nat → Nat) : List Nat := [g0, pq 0, pq 1, pq 2, pq 3, pq 4, pq 5, pq 6, pq 7, pq 8, pq 9, pq 10, pq 11, pq 12, pq 13, pq 14, pq 15, pq 16, pq 17, pq 18, pq 19, pq 20, pq 21, pq 22, pq 23, pq 24, pq 25, pq 26, pq 27, pq 28, pq 29, pq 30, pq 31, pq 32, pq 33, pq 34, pq 35, pq 36, pq 37, pq 44, pq 45, pq 52, pq 53, pq 54, pq 55, pq 56, pq 57, pq 61]
theorem mAd_of {g0 : Nat} {pq : Nat → Nat} {cp : Nat → ClassId} {v : Nat → Int32} {fa : Nat → Nat → Int32} {k : Nat} {x : Nat × va_E} (h : (mW g0 pq cp v fa)[k]? = some x) : x.1 ∈ mAd g0 pq := by
  have e : mAd g0 pq = (mW g0 pq cp v fa).map (fun y => y.1) := rfl
  rw [e]
  exact List.mem_map.mpr ⟨x, List.mem_of_getElem? h, rfl⟩
def lwR (S : oS) (h0 : Nat) (v : Nat → Int32) (fa : Nat → Nat → Int32) : Prop := RC S h0 v fa
/-- what holds of both between two calls: each in its bounds, and the words above -/
def lwI (S : oS) (h0 : Nat) (v : Nat → Int32) (fa : Nat → Nat → Int32) : Prop := oInv S ∧ oty S h0 10 ∧ mV v ∧ mA fa ∧ lwR S h0 v fa
def lwH (D : va_G) (A : Nat → Prop) (cq cp : Nat → ClassId) (g0 : Nat) (pq : Nat → Nat) (S : oS) (v : Nat → Int32) (fa : Nat → Nat → Int32) (H : Heap) : Prop := va_P D vwCl (oW cq S) H ∧ va_D A (oW cq S) ∧ va_P D vwCl (mW g0 pq cp v fa) H ∧ va_D A (mW g0 pq cp v fa) ∧ ∀ a, a ∈ oL S → a ∉ mAd g0 pq
theorem oW_mem {cq : Nat → ClassId} {S : oS} {k : Nat} {x : Nat × va_E} (h : (oW cq S)[k]? = some x) : x.1 ∈ oL S := by
  obtain ⟨a, ha, e⟩ := List.mem_map.mp (List.mem_of_getElem? h : x ∈ va_pl (oL S) (oE cq S))
  rw [← e]
  exact ha
theorem lw_lt {D : va_G} {cp : Nat → ClassId} {g0 : Nat} {pq : Nat → Nat} {v : Nat → Int32} {fa : Nat → Nat → Int32} {H : Heap} (hP : va_P D vwCl (mW g0 pq cp v fa) H) {a : Nat} (h : a ∈ mAd g0 pq) : a < H.size := by
  have e : mAd g0 pq = (mW g0 pq cp v fa).map (fun y => y.1) := rfl
  rw [e] at h
  obtain ⟨x, hx, rfl⟩ := List.mem_map.mp h
  obtain ⟨k, hk⟩ := List.getElem?_of_mem hx
  exact (hP k x hk).lt
/-- behind a call of the office -/
theorem lwH_o {D : va_G} {A : Nat → Prop} {cq cp : Nat → ClassId} {g0 : Nat} {pq : Nat → Nat} {S S1 : oS} {v : Nat → Int32} {fa : Nat → Nat → Int32} {H H1 : Heap} (h : lwH D A cq cp g0 pq S v fa H) (hF : ∀ q, va_A (oW cq S) H.size q → A q) (hk : ∀ q : Nat, q < H.size → ¬ va_A (oW cq S) H.size q → H1[q]? = H[q]?) (hP : va_P D vwCl (oW cq S1) H1) (hD : va_D (va_A (oW cq S) H.size) (oW cq S1)) : lwH D A cq cp g0 pq S1 v fa H1 := by
  obtain ⟨h1, h2, h3, h4, h5⟩ := h
  have nin : ∀ a, a ∈ mAd g0 pq → ¬ va_A (oW cq S) H.size a := fun a ha q => by
    rcases q with ⟨k, e, hk⟩ | q
    · exact h5 a (oW_mem hk) ha
    · exact absurd (lw_lt h3 ha) (Nat.not_lt.mpr q)
  refine ⟨hP, hD.weaken (fun _ _ _ g => hF _ g), h3.kept (fun k x hx => hk x.1 (h3 k x hx).lt (nin _ (mAd_of hx))), h4, fun a ha hm => ?_⟩
  obtain ⟨k, hk2⟩ := va_pl_get (X := []) (f := oE cq S1) ha
  exact nin a hm (hD.2 k _ hk2)
/-- behind a call of the reference -/
theorem lwH_m {D : va_G} {A : Nat → Prop} {cq cp : Nat → ClassId} {g0 : Nat} {pq : Nat → Nat} {S : oS} {v v1 : Nat → Int32} {fa fa1 : Nat → Nat → Int32} {H H1 : Heap} (h : lwH D A cq cp g0 pq S v fa H) (hF : ∀ q, va_A (mW g0 pq cp v fa) H.size q → A q) (hk : ∀ q : Nat, q < H.size → ¬ va_A (mW g0 pq cp v fa) H.size q → H1[q]? = H[q]?) (hP : va_P D vwCl (mW g0 pq cp v1 fa1) H1) (hD : va_D (va_A (mW g0 pq cp v fa) H.size) (mW g0 pq cp v1 fa1)) : lwH D A cq cp g0 pq S v1 fa1 H1 := by
  obtain ⟨h1, h2, h3, h4, h5⟩ := h
  refine ⟨h1.kept (fun k x hx => hk x.1 (h1 k x hx).lt (fun q => ?_)), h2, hP, hD.weaken (fun _ _ _ g => hF _ g), h5⟩
  rcases q with ⟨j, e, hj⟩ | q
  · exact h5 x.1 (oW_mem hx) (mAd_of (x := (x.1, e)) hj)
  · exact absurd (h1 k x hx).lt (Nat.not_lt.mpr q)
theorem lwH_p {D : va_G} {A : Nat → Prop} {cq cp : Nat → ClassId} {g0 : Nat} {pq : Nat → Nat} {S : oS} {v : Nat → Int32} {fa : Nat → Nat → Int32} {H H1 : Heap} (h : lwH D A cq cp g0 pq S v fa H) (hk : ∀ q : Nat, q < H.size → ¬ va_A [] H.size q → H1[q]? = H[q]?) : lwH D A cq cp g0 pq S v fa H1 := ⟨pu_keep h.1 hk, h.2.1, pu_keep h.2.2.1 hk, h.2.2.2.1, h.2.2.2.2⟩
theorem lwI_o {W : List Nat} {S S1 : oS} {h0 : Nat} {v : Nat → Int32} {fa : Nat → Nat → Int32} (h : lwI S h0 v fa) (hI : oInv S1) (hX : oX W S S1) (hk : ∀ x ∈ keysC, x ∉ W) : lwI S1 h0 v fa := by
  obtain ⟨g1, t, g2, g3, r⟩ := h
  exact ⟨hI, hX.ty t, g2, g3, RC_o hX g1 t hk r⟩
theorem lwI_m {W : List Nat} {S : oS} {h0 : Nat} {v v1 : Nat → Int32} {fa fa1 : Nat → Nat → Int32} (h : lwI S h0 v fa) (hV : mV v1) (hA : mA fa1) (hm : mX W v fa v1 fa1) (hk : ∀ x ∈ fldC ++ rowC, x ∉ W) : lwI S h0 v1 fa1 := by
  obtain ⟨g1, t, g2, g3, r⟩ := h
  exact ⟨g1, t, hV, hA, RC_mR (fun i q => hm.1 i (hk i (List.mem_append_left _ q))) (fun k q => hm.2 k (hk k (List.mem_append_right _ q))) hV hA ⟨r.1, r.2.1, r.2.2.1, r.2.2.2.1, r.2.2.2.2.1, r.2.2.2.2.2.1⟩ r.p⟩
theorem od_eq {a n r r1 b b1 : Int} (h : odays a n r b) (g : odays a n r1 b1) : r = r1 ∧ b = b1 := by
  unfold odays at h g
  omega
theorem hz_m {W L : List Nat} {v v1 : Nat → Int32} {fa fa1 : Nat → Nat → Int32} (hm : mX W v fa v1 fa1) (hk : ∀ x ∈ L, x ∉ W) : (∀ i ∈ L, v1 i = v i) ∧ ∀ k ∈ L, fa1 k = fa k := ⟨fun i q => hm.1 i (hk i q), fun k q => hm.2 k (hk k q)⟩
theorem in_sub {α : Type} {L M : List α} {P : α → Prop} (h : ∀ x ∈ M, P x) (hs : ∀ x ∈ L, x ∈ M) : ∀ x ∈ L, P x := fun x q => h x (hs x q)
theorem mn_of2 {v : Nat → Int32} {fa : Nat → Nat → Int32} {a b d r : Int32} {u : (Nat → Int32) × (Nat → Nat → Int32)} (hV : mV v) (hA : mA fa) (h : gman v fa a b d r u) : mV u.1 ∧ mA u.2 ∧ mX [0, 2, 3, 4, 39] v fa u.1 u.2 ∧ gmn (v 38).toInt (v 39).toInt a.toInt b.toInt d.toInt r.toInt (u.1 39).toInt ∧ (0 ≤ r.toInt → mnN v fa a b d u) ∧ (r.toInt < 0 → sm0 v fa u) := by
  obtain ⟨h1, h2, h3, h4⟩ := mn_of hV hA h
  refine ⟨h1, h2, h3, h4, fun hr => ?_, fun hr => ?_⟩
  · unfold gman at h
    have r4 : (-4 : Int32).toInt = -4 := by decide
    have r6 : (-6 : Int32).toInt = -6 := by decide
    split at h
    · rw [h.1] at hr; omega
    · split at h
      · rw [h.1] at hr; omega
      · obtain ⟨-, -, e3⟩ := h
        unfold mnN
        rw [e3]
        exact ⟨rfl, rfl, rfl⟩
  · unfold gman at h
    have hb : 0 ≤ (v 39).toInt := (hV 39).1
    split at h
    · exact h.2
    · split at h
      · exact h.2
      · exfalso
        obtain ⟨e1, e2, -⟩ := h
        have : gmn (v 38).toInt (v 39).toInt a.toInt b.toInt d.toInt r.toInt (u.1 39).toInt := h4
        unfold gmn at this
        rw [e2] at this
        have e5 : (upd v 39 (v 39 + 1) 39).toInt = (v 39).toInt + 1 := by
          rw [show upd v 39 (v 39 + 1) 39 = v 39 + 1 from if_pos rfl]
          exact ad_i rfl (by decide +kernel) (by omega) (by have := (hV 39).2; have e : vHi 39 = 40 := rfl; omega)
        omega
theorem lw_days {W W1 : List Nat} {S S1 : oS} {h0 : Nat} {v v1 : Nat → Int32} {fa fa1 : Nat → Nat → Int32} {n r r1 : Int32} (h : lwI S h0 v fa) (hI : oInv S1) (hX : oX W S S1) (hp : odays (oI S h0 0).toInt n.toInt r.toInt (oI S1 h0 0).toInt) (hV : mV v1) (hA : mA fa1) (hm : mX W1 v fa v1 fa1) (hq : odays (v 38).toInt n.toInt r1.toInt (v1 38).toInt) (hk : ∀ k ∈ keysC, k = 1000 ∨ k ∉ W) (hk1 : ∀ x ∈ [39, 40, 43, 41, 42, 46] ++ rowC, x ∉ W1) : r.toInt = r1.toInt ∧ lwI S1 h0 v1 fa1 := by
  obtain ⟨g1, t, g2, g3, hR⟩ := h
  rw [(RC.n hR).1] at hp
  obtain ⟨er, eb⟩ := od_eq hp hq
  refine ⟨er, hI, hX.ty t, hV, hA, RC_day g1 t hR hX hk eb (by unfold odays at hq; omega) (fun i q => hm.1 i (hk1 i (List.mem_append_left _ q))) (fun k q => hm.2 k (hk1 k (List.mem_append_right _ q))) hV hA⟩
theorem lw_man {W W1 : List Nat} {S S1 : oS} {h0 : Nat} {v v1 : Nat → Int32} {fa fa1 : Nat → Nat → Int32} {a b d r r1 : Int32} (h : lwI S h0 v fa) (hI : oInv S1) (hX : oX W S S1) (hp : gmn (oI S h0 0).toInt (oI S h0 2).toInt a.toInt b.toInt d.toInt r.toInt (oI S1 h0 2).toInt ∧ (0 ≤ r.toInt → mnO S h0 a b d S1) ∧ (r.toInt < 0 → oX [2107] S S1)) (hV : mV v1) (hA : mA fa1) (hm : mX W1 v fa v1 fa1) (hq : gmn (v 38).toInt (v 39).toInt a.toInt b.toInt d.toInt r1.toInt (v1 39).toInt ∧ (0 ≤ r1.toInt → mnN v fa a b d (v1, fa1)) ∧ (r1.toInt < 0 → sm0 v fa (v1, fa1))) (hk : ∀ x ∈ W, x ∈ [605, 1002, 2014, 2107]) (hk1 : ∀ x ∈ [38, 40, 43, 41, 42, 46, 6, 8, 7, 9, 10, 11, 12, 13, 14, 15, 19, 16, 17, 18, 20, 21, 25, 24, 22, 23, 26, 44], x ∉ W1) : r.toInt = r1.toInt ∧ lwI S1 h0 v1 fa1 := by
  obtain ⟨g1, t, g2, g3, hR⟩ := h
  obtain ⟨p1, p2, p3⟩ := hp
  obtain ⟨q1, q2, q3⟩ := hq
  rw [(RC.n hR).1, (RC.n hR).2.1] at p1
  obtain ⟨er, em⟩ := gmn_det p1 q1
  have hmb : 0 ≤ (v 39).toInt ∧ (v 39).toInt ≤ 40 := g2 39
  refine ⟨er, hI, hX.ty t, hV, hA, ?_⟩
  obtain ⟨z1, z2⟩ := hz_m hm hk1
  by_cases c : 0 ≤ r.toInt
  · exact RC_man g1 t hR (hX.mono hk) (by rw [(RC.n hR).2.1]; unfold gmn at p1; omega) (p2 c) (by unfold gmn at q1; omega) (q2 (by omega)) (by unfold gmn at p1; omega) (in_sub z1 (by decide +kernel)) (in_sub z2 (by decide +kernel)) hV hA
  · have hs := q3 (by omega)
    exact RC_mR (fun i _ => congrFun hs.1 i) (fun k q => hs.2 k (by revert q; revert k; decide)) hV hA (RC_oR (p3 (by omega)) g1 t (by decide +kernel) hR) hR.p
theorem lw_voyage {W W1 : List Nat} {S S1 : oS} {h0 : Nat} {v v1 : Nat → Int32} {fa fa1 : Nat → Nat → Int32} {a b r r1 : Int32} (h : lwI S h0 v fa) (hI : oInv S1) (hX : oX W S S1) (hp : aVy a.toInt b.toInt (hvI v fa a.toInt) (v 40).toInt r.toInt ∧ rOo S h0 S1 r (vyO S h0 a b S1)) (hV : mV v1) (hA : mA fa1) (hm : mX W1 v fa v1 fa1) (hq : aVy a.toInt b.toInt (hvI v fa a.toInt) (v 40).toInt r1.toInt ∧ rOr v fa (v1, fa1) r1 (vyN v fa a b (v1, fa1))) (hk : ∀ x ∈ ([] : List Nat), x ∉ W) (hk1 : ∀ x ∈ [38, 39, 43, 41, 42, 46, 2, 3, 4, 10, 11, 12, 13, 14, 15, 19, 16, 17, 18, 20, 21, 25, 24, 22, 23, 26, 44], x ∉ W1) : r.toInt = r1.toInt ∧ lwI S1 h0 v1 fa1 := by
  obtain ⟨g1, t, g2, g3, hR⟩ := h
  obtain ⟨p1, p2⟩ := hp
  obtain ⟨q1, q2⟩ := hq
  have er : r.toInt = r1.toInt := by
    unfold aVy at p1 q1
    omega
  obtain ⟨z1, z2⟩ := hz_m hm hk1
  have bN : 0 ≤ (v 38).toInt ∧ (v 38).toInt ≤ 3000 := g2 38
  refine ⟨er, hI, hX.ty t, hV, hA, ?_⟩
  rcases p2 with ⟨n1, p2⟩ | ⟨n1, p2⟩
  · rcases q2 with ⟨m1, q2⟩ | ⟨m1, _, q2⟩
    · exact RC_rf (W := []) g1 t hR oX.rf (by decide +kernel) g1 p2 (sm2_1 q2) hV hA
    · exfalso
      omega
  · rcases q2 with ⟨m1, q2⟩ | ⟨m1, _, q2⟩
    · exfalso
      omega
    · exact RC_voy (y := 0) (hm := hV) g1 t hR p2 q2 (in_sub z1 (by decide +kernel)) (in_sub z2 (by decide +kernel)) hA
theorem lw_sailed {W W1 : List Nat} {S S1 : oS} {h0 : Nat} {v v1 : Nat → Int32} {fa fa1 : Nat → Nat → Int32} {a d r r1 : Int32} (h : lwI S h0 v fa) (hI : oInv S1) (hX : oX W S S1) (hp : aHt a.toInt (v 40).toInt (fa 9 a.toNatClampNeg).toInt (tldI v fa 0 a.toInt) (fa 7 a.toNatClampNeg).toInt d.toInt (v 38).toInt (v 41).toInt r.toInt ∧ rOo S h0 S1 r (onO S h0 (voA S h0 a.toNatClampNeg) 5 6 d r S1)) (hV : mV v1) (hA : mA fa1) (hm : mX W1 v fa v1 fa1) (hq : aHt a.toInt (v 40).toInt (fa 9 a.toNatClampNeg).toInt (tldI v fa 0 a.toInt) (fa 7 a.toNatClampNeg).toInt d.toInt (v 38).toInt (v 41).toInt r1.toInt ∧ rOr v fa (v1, fa1) r1 (hpN v fa 0 a d 0 0 (v1, fa1))) (hk : ∀ x ∈ ([] : List Nat), x ∉ W) (hk1 : ∀ x ∈ fldH ++ rowH, x ∉ W1) : r.toInt = r1.toInt ∧ lwI S1 h0 v1 fa1 := by
  obtain ⟨g1, t, g2, g3, hR⟩ := h
  obtain ⟨p1, p2⟩ := hp
  obtain ⟨q1, q2⟩ := hq
  have er : r.toInt = r1.toInt := by
    unfold aHt aHp at p1 q1
    omega
  obtain ⟨z1, z2⟩ := hz_m hm hk1
  have bN : 0 ≤ (v 38).toInt ∧ (v 38).toInt ≤ 3000 := g2 38
  refine ⟨er, hI, hX.ty t, hV, hA, ?_⟩
  rcases p2 with ⟨n1, p2⟩ | ⟨n1, p2⟩
  · rcases q2 with ⟨m1, q2⟩ | ⟨m1, _, q2⟩
    · exact RC_rf (W := []) g1 t hR oX.rf (by decide +kernel) g1 p2 (sm2_1 q2) hV hA
    · exfalso
      omega
  · rcases q2 with ⟨m1, q2⟩ | ⟨m1, _, q2⟩
    · exfalso
      omega
    · have hop : 0 ≤ (fa 7 a.toNatClampNeg).toInt := (g3 7 a.toNatClampNeg).1
      unfold aHt aHp at p1
      have k0 : (0 : Int32).toInt = 0 := by decide
      exact RC_onc g1 t hR (ni_lt (i := a) (x := v 40) (by omega) (by omega)) p2 (Or.inl ⟨rfl, rfl, by decide⟩) (by rw [k0]; omega) q2 (tn_i (by omega)).symm rfl (by omega) (by omega) (in_sub z1 (by decide +kernel)) (in_sub z2 (by decide +kernel)) hV hA
theorem lw_lost {W W1 : List Nat} {S S1 : oS} {h0 : Nat} {v v1 : Nat → Int32} {fa fa1 : Nat → Nat → Int32} {a d r r1 : Int32} (h : lwI S h0 v fa) (hI : oInv S1) (hX : oX W S S1) (hp : aHt a.toInt (v 40).toInt (fa 9 a.toNatClampNeg).toInt (tldI v fa 2 a.toInt) (fa 7 a.toNatClampNeg).toInt d.toInt (v 38).toInt (v 41).toInt r.toInt ∧ rOo S h0 S1 r (onO S h0 (voA S h0 a.toNatClampNeg) 7 8 d r S1)) (hV : mV v1) (hA : mA fa1) (hm : mX W1 v fa v1 fa1) (hq : aHt a.toInt (v 40).toInt (fa 9 a.toNatClampNeg).toInt (tldI v fa 2 a.toInt) (fa 7 a.toNatClampNeg).toInt d.toInt (v 38).toInt (v 41).toInt r1.toInt ∧ rOr v fa (v1, fa1) r1 (hpN v fa 2 a d 0 0 (v1, fa1))) (hk : ∀ x ∈ ([] : List Nat), x ∉ W) (hk1 : ∀ x ∈ fldH ++ rowH, x ∉ W1) : r.toInt = r1.toInt ∧ lwI S1 h0 v1 fa1 := by
  obtain ⟨g1, t, g2, g3, hR⟩ := h
  obtain ⟨p1, p2⟩ := hp
  obtain ⟨q1, q2⟩ := hq
  have er : r.toInt = r1.toInt := by
    unfold aHt aHp at p1 q1
    omega
  obtain ⟨z1, z2⟩ := hz_m hm hk1
  have bN : 0 ≤ (v 38).toInt ∧ (v 38).toInt ≤ 3000 := g2 38
  refine ⟨er, hI, hX.ty t, hV, hA, ?_⟩
  rcases p2 with ⟨n1, p2⟩ | ⟨n1, p2⟩
  · rcases q2 with ⟨m1, q2⟩ | ⟨m1, _, q2⟩
    · exact RC_rf (W := []) g1 t hR oX.rf (by decide +kernel) g1 p2 (sm2_1 q2) hV hA
    · exfalso
      omega
  · rcases q2 with ⟨m1, q2⟩ | ⟨m1, _, q2⟩
    · exfalso
      omega
    · have hop : 0 ≤ (fa 7 a.toNatClampNeg).toInt := (g3 7 a.toNatClampNeg).1
      unfold aHt aHp at p1
      have k0 : (2 : Int32).toInt = 2 := by decide
      exact RC_onc g1 t hR (ni_lt (i := a) (x := v 40) (by omega) (by omega)) p2 (Or.inr ⟨rfl, rfl, by decide⟩) (by rw [k0]; omega) q2 (tn_i (by omega)).symm rfl (by omega) (by omega) (in_sub z1 (by decide +kernel)) (in_sub z2 (by decide +kernel)) hV hA
theorem lw_heard {W W1 : List Nat} {S S1 : oS} {h0 : Nat} {v v1 : Nat → Int32} {fa fa1 : Nat → Nat → Int32} {a d r r1 : Int32} (h : lwI S h0 v fa) (hI : oInv S1) (hX : oX W S S1) (hp : aHt a.toInt (v 40).toInt (fa 9 a.toNatClampNeg).toInt 0 (fa 7 a.toNatClampNeg).toInt d.toInt (v 38).toInt (v 41).toInt r.toInt ∧ rOo S h0 S1 r (hapO S h0 (voA S h0 a.toNatClampNeg) 9 3 d (-9) (-9) r S1)) (hV : mV v1) (hA : mA fa1) (hm : mX W1 v fa v1 fa1) (hq : aHt a.toInt (v 40).toInt (fa 9 a.toNatClampNeg).toInt 0 (fa 7 a.toNatClampNeg).toInt d.toInt (v 38).toInt (v 41).toInt r1.toInt ∧ rOr v fa (v1, fa1) r1 (hpN v fa 1 a d 0 0 (v1, fa1))) (hk : ∀ x ∈ ([] : List Nat), x ∉ W) (hk1 : ∀ x ∈ fldH ++ rowH, x ∉ W1) : r.toInt = r1.toInt ∧ lwI S1 h0 v1 fa1 := by
  obtain ⟨g1, t, g2, g3, hR⟩ := h
  obtain ⟨p1, p2⟩ := hp
  obtain ⟨q1, q2⟩ := hq
  have er : r.toInt = r1.toInt := by
    unfold aHt aHp at p1 q1
    omega
  obtain ⟨z1, z2⟩ := hz_m hm hk1
  have bN : 0 ≤ (v 38).toInt ∧ (v 38).toInt ≤ 3000 := g2 38
  refine ⟨er, hI, hX.ty t, hV, hA, ?_⟩
  rcases p2 with ⟨n1, p2⟩ | ⟨n1, p2⟩
  · rcases q2 with ⟨m1, q2⟩ | ⟨m1, _, q2⟩
    · exact RC_rf (W := []) g1 t hR oX.rf (by decide +kernel) g1 p2 (sm2_1 q2) hV hA
    · exfalso
      omega
  · rcases q2 with ⟨m1, q2⟩ | ⟨m1, _, q2⟩
    · exfalso
      omega
    · unfold aHt aHp at p1
      exact RC_hrd g1 t hR (ni_lt (i := a) (x := v 40) (by omega) (by omega)) p2 q2 (tn_i (by omega)).symm rfl ⟨by decide, by decide⟩ (by omega) (in_sub z1 (by decide +kernel)) (in_sub z2 (by decide +kernel)) hV hA
theorem lw_left {W W1 : List Nat} {S S1 : oS} {h0 : Nat} {v v1 : Nat → Int32} {fa fa1 : Nat → Nat → Int32} {a d w p r r1 : Int32} (h : lwI S h0 v fa) (hI : oInv S1) (hX : oX W S S1) (hp : aLe a.toInt (v 43).toInt p.toInt w.toInt (fa 26 a.toNatClampNeg).toInt (fa 25 a.toNatClampNeg).toInt d.toInt (v 38).toInt (v 41).toInt r.toInt ∧ rOo S h0 S1 r (hapO S h0 (agA S h0 a.toNatClampNeg) 8 0 d w p r S1)) (hV : mV v1) (hA : mA fa1) (hm : mX W1 v fa v1 fa1) (hq : aLe a.toInt (v 43).toInt p.toInt w.toInt (fa 26 a.toNatClampNeg).toInt (fa 25 a.toNatClampNeg).toInt d.toInt (v 38).toInt (v 41).toInt r1.toInt ∧ rOr v fa (v1, fa1) r1 (hpN v fa 3 a d w p (v1, fa1))) (hk : ∀ x ∈ ([] : List Nat), x ∉ W) (hk1 : ∀ x ∈ fldH ++ rowH, x ∉ W1) : r.toInt = r1.toInt ∧ lwI S1 h0 v1 fa1 := by
  obtain ⟨g1, t, g2, g3, hR⟩ := h
  obtain ⟨p1, p2⟩ := hp
  obtain ⟨q1, q2⟩ := hq
  have er : r.toInt = r1.toInt := by
    unfold aLe aHp at p1 q1
    omega
  obtain ⟨z1, z2⟩ := hz_m hm hk1
  have bN : 0 ≤ (v 38).toInt ∧ (v 38).toInt ≤ 3000 := g2 38
  refine ⟨er, hI, hX.ty t, hV, hA, ?_⟩
  rcases p2 with ⟨n1, p2⟩ | ⟨n1, p2⟩
  · rcases q2 with ⟨m1, q2⟩ | ⟨m1, _, q2⟩
    · exact RC_rf (W := []) g1 t hR oX.rf (by decide +kernel) g1 p2 (sm2_1 q2) hV hA
    · exfalso
      omega
  · rcases q2 with ⟨m1, q2⟩ | ⟨m1, _, q2⟩
    · exfalso
      omega
    · unfold aLe aHp at p1
      exact RC_tid g1 t hR (ni_lt (i := a) (x := v 43) (by omega) (by omega)) p2 (Or.inl ⟨rfl, by decide⟩) q2 (tn_i (by omega)).symm rfl (Or.inl ⟨by decide, by decide, rfl, rfl⟩) (by omega) (in_sub z1 (by decide +kernel)) (in_sub z2 (by decide +kernel)) hV hA
theorem lw_died {W W1 : List Nat} {S S1 : oS} {h0 : Nat} {v v1 : Nat → Int32} {fa fa1 : Nat → Nat → Int32} {a d r r1 : Int32} (h : lwI S h0 v fa) (hI : oInv S1) (hX : oX W S S1) (hp : aHo a.toInt (v 43).toInt (fa 26 a.toNatClampNeg).toInt (fa 25 a.toNatClampNeg).toInt d.toInt (v 38).toInt (v 41).toInt r.toInt ∧ rOo S h0 S1 r (hapO (setI S (agA S h0 a.toNatClampNeg) 7 1) h0 (agA S h0 a.toNatClampNeg) 8 2 d (-9) (-9) r S1)) (hV : mV v1) (hA : mA fa1) (hm : mX W1 v fa v1 fa1) (hq : aHo a.toInt (v 43).toInt (fa 26 a.toNatClampNeg).toInt (fa 25 a.toNatClampNeg).toInt d.toInt (v 38).toInt (v 41).toInt r1.toInt ∧ rOr v fa (v1, fa1) r1 (hpN v fa 4 a d 0 0 (v1, fa1))) (hk : ∀ x ∈ ([] : List Nat), x ∉ W) (hk1 : ∀ x ∈ fldH ++ rowH, x ∉ W1) : r.toInt = r1.toInt ∧ lwI S1 h0 v1 fa1 := by
  obtain ⟨g1, t, g2, g3, hR⟩ := h
  obtain ⟨p1, p2⟩ := hp
  obtain ⟨q1, q2⟩ := hq
  have er : r.toInt = r1.toInt := by
    unfold aHo aHp at p1 q1
    omega
  obtain ⟨z1, z2⟩ := hz_m hm hk1
  have bN : 0 ≤ (v 38).toInt ∧ (v 38).toInt ≤ 3000 := g2 38
  refine ⟨er, hI, hX.ty t, hV, hA, ?_⟩
  rcases p2 with ⟨n1, p2⟩ | ⟨n1, p2⟩
  · rcases q2 with ⟨m1, q2⟩ | ⟨m1, _, q2⟩
    · exact RC_rf (W := []) g1 t hR oX.rf (by decide +kernel) g1 p2 (sm2_1 q2) hV hA
    · exfalso
      omega
  · rcases q2 with ⟨m1, q2⟩ | ⟨m1, _, q2⟩
    · exfalso
      omega
    · unfold aHo aHp at p1
      exact RC_tid g1 t hR (ni_lt (i := a) (x := v 43) (by omega) (by omega)) p2 (Or.inr ⟨rfl, by decide⟩) q2 (tn_i (by omega)).symm rfl (Or.inr (Or.inl ⟨by decide, by decide⟩)) (by omega) (in_sub z1 (by decide +kernel)) (in_sub z2 (by decide +kernel)) hV hA
theorem lw_back {W W1 : List Nat} {S S1 : oS} {h0 : Nat} {v v1 : Nat → Int32} {fa fa1 : Nat → Nat → Int32} {a d r r1 : Int32} (h : lwI S h0 v fa) (hI : oInv S1) (hX : oX W S S1) (hp : aHo a.toInt (v 43).toInt (fa 26 a.toNatClampNeg).toInt (fa 25 a.toNatClampNeg).toInt d.toInt (v 38).toInt (v 41).toInt r.toInt ∧ rOo S h0 S1 r (hapO S h0 (agA S h0 a.toNatClampNeg) 8 1 d (-9) (-9) r S1)) (hV : mV v1) (hA : mA fa1) (hm : mX W1 v fa v1 fa1) (hq : aHo a.toInt (v 43).toInt (fa 26 a.toNatClampNeg).toInt (fa 25 a.toNatClampNeg).toInt d.toInt (v 38).toInt (v 41).toInt r1.toInt ∧ rOr v fa (v1, fa1) r1 (hpN v fa 5 a d 0 0 (v1, fa1))) (hk : ∀ x ∈ ([] : List Nat), x ∉ W) (hk1 : ∀ x ∈ fldH ++ rowH, x ∉ W1) : r.toInt = r1.toInt ∧ lwI S1 h0 v1 fa1 := by
  obtain ⟨g1, t, g2, g3, hR⟩ := h
  obtain ⟨p1, p2⟩ := hp
  obtain ⟨q1, q2⟩ := hq
  have er : r.toInt = r1.toInt := by
    unfold aHo aHp at p1 q1
    omega
  obtain ⟨z1, z2⟩ := hz_m hm hk1
  have bN : 0 ≤ (v 38).toInt ∧ (v 38).toInt ≤ 3000 := g2 38
  refine ⟨er, hI, hX.ty t, hV, hA, ?_⟩
  rcases p2 with ⟨n1, p2⟩ | ⟨n1, p2⟩
  · rcases q2 with ⟨m1, q2⟩ | ⟨m1, _, q2⟩
    · exact RC_rf (W := []) g1 t hR oX.rf (by decide +kernel) g1 p2 (sm2_1 q2) hV hA
    · exfalso
      omega
  · rcases q2 with ⟨m1, q2⟩ | ⟨m1, _, q2⟩
    · exfalso
      omega
    · unfold aHo aHp at p1
      exact RC_tid g1 t hR (ni_lt (i := a) (x := v 43) (by omega) (by omega)) p2 (Or.inl ⟨rfl, by decide⟩) q2 (tn_i (by omega)).symm rfl (Or.inr (Or.inr ⟨by decide, by decide⟩)) (by omega) (in_sub z1 (by decide +kernel)) (in_sub z2 (by decide +kernel)) hV hA
theorem lw_off {W W1 : List Nat} {S S1 : oS} {h0 : Nat} {v v1 : Nat → Int32} {fa fa1 : Nat → Nat → Int32} {a p r r1 : Int32} (h : lwI S h0 v fa) (hI : oInv S1) (hX : oX W S S1) (hp : aOf a.toInt (v 43).toInt p.toInt (gonI v fa a.toNatClampNeg) r.toInt ∧ rOo S h0 S1 r (S1 = setI S (agA S h0 a.toNatClampNeg) 6 (oI S h0 0))) (hV : mV v1) (hA : mA fa1) (hm : mX W1 v fa v1 fa1) (hq : aOf a.toInt (v 43).toInt p.toInt (gonI v fa a.toNatClampNeg) r1.toInt ∧ rOr v fa (v1, fa1) r1 (fa1 26 = upd (fa 26) a.toNatClampNeg (v 38))) (hk : ∀ x ∈ ([] : List Nat), x ∉ W) (hk1 : ∀ x ∈ fldC ++ [2, 3, 4, 6, 8, 7, 9, 10, 11, 12, 13, 14, 15, 19, 16, 17, 18, 20, 21, 25, 24, 22, 23, 44], x ∉ W1) : r.toInt = r1.toInt ∧ lwI S1 h0 v1 fa1 := by
  obtain ⟨g1, t, g2, g3, hR⟩ := h
  obtain ⟨p1, p2⟩ := hp
  obtain ⟨q1, q2⟩ := hq
  have er : r.toInt = r1.toInt := by
    unfold aOf at p1 q1
    omega
  obtain ⟨z1, z2⟩ := hz_m hm hk1
  have bN : 0 ≤ (v 38).toInt ∧ (v 38).toInt ≤ 3000 := g2 38
  refine ⟨er, hI, hX.ty t, hV, hA, ?_⟩
  rcases p2 with ⟨n1, p2⟩ | ⟨n1, p2⟩
  · rcases q2 with ⟨m1, q2⟩ | ⟨m1, _, q2⟩
    · exact RC_rf (W := []) g1 t hR oX.rf (by decide +kernel) g1 p2 (sm2_1 q2) hV hA
    · exfalso
      omega
  · rcases q2 with ⟨m1, q2⟩ | ⟨m1, _, q2⟩
    · exfalso
      omega
    · unfold aOf at p1
      exact RC_off g1 t hR (ni_lt (i := a) (x := v 43) (by omega) (by omega)) p2 q2 (in_sub z1 (by decide +kernel)) (in_sub z2 (by decide +kernel)) hV hA
theorem lw_ended {W W1 : List Nat} {S S1 : oS} {h0 : Nat} {v v1 : Nat → Int32} {fa fa1 : Nat → Nat → Int32} {a p r r1 : Int32} (h : lwI S h0 v fa) (hI : oInv S1) (hX : oX W S S1) (hp : aEn a.toInt (v 40).toInt p.toInt (fa 9 a.toNatClampNeg).toInt (tldI v fa 2 a.toInt) (cgI v fa a.toInt) r.toInt ∧ rOo S h0 S1 r (S1 = wI S (enU S h0 (voA S h0 a.toNatClampNeg) v fa a.toInt (v 43).toNatClampNeg))) (hV : mV v1) (hA : mA fa1) (hm : mX W1 v fa v1 fa1) (hq : aEn a.toInt (v 40).toInt p.toInt (fa 9 a.toNatClampNeg).toInt (tldI v fa 2 a.toInt) (cgI v fa a.toInt) r1.toInt ∧ rOr v fa (v1, fa1) r1 (enN v fa a (v1, fa1))) (hk : ∀ x ∈ ([] : List Nat), x ∉ W) (hk1 : ∀ x ∈ fldC ++ [2, 3, 4, 6, 8, 7, 10, 11, 12, 13, 14, 15, 19, 16, 17, 18, 20, 21, 25, 24, 22, 23, 44], x ∉ W1) : r.toInt = r1.toInt ∧ lwI S1 h0 v1 fa1 := by
  obtain ⟨g1, t, g2, g3, hR⟩ := h
  obtain ⟨p1, p2⟩ := hp
  obtain ⟨q1, q2⟩ := hq
  have er : r.toInt = r1.toInt := by
    unfold aEn at p1 q1
    omega
  obtain ⟨z1, z2⟩ := hz_m hm hk1
  have bN : 0 ≤ (v 38).toInt ∧ (v 38).toInt ≤ 3000 := g2 38
  refine ⟨er, hI, hX.ty t, hV, hA, ?_⟩
  rcases p2 with ⟨n1, p2⟩ | ⟨n1, p2⟩
  · rcases q2 with ⟨m1, q2⟩ | ⟨m1, _, q2⟩
    · exact RC_rf (W := []) g1 t hR oX.rf (by decide +kernel) g1 p2 (sm2_1 q2) hV hA
    · exfalso
      omega
  · rcases q2 with ⟨m1, q2⟩ | ⟨m1, _, q2⟩
    · exfalso
      omega
    · unfold aEn at p1
      exact RC_end g1 t hR (ni_lt (i := a) (x := v 40) (by omega) (by omega)) rfl (tn_i (by omega)).symm p2 q2 (in_sub z1 (by decide +kernel)) (in_sub z2 (by decide +kernel)) hV hA
theorem lw_sign {W W1 : List Nat} {S S1 : oS} {h0 : Nat} {v v1 : Nat → Int32} {fa fa1 : Nat → Nat → Int32} {m x w k p r r1 : Int32} (h : lwI S h0 v fa) (hI : oInv S1) (hX : oX W S S1) (hp : aSg m.toInt (v 39).toInt x.toInt (v 40).toInt p.toInt (v 43).toInt w.toInt k.toInt (fa 9 x.toNatClampNeg).toInt (tldI v fa 0 x.toInt) (tldI v fa 2 x.toInt) (fa 26 p.toNatClampNeg).toInt (frI v fa m.toInt) (wrt v fa 0 (v 38).toInt (ltS w k (yrs v fa m.toNatClampNeg))).toInt r.toInt ∧ rO3 S h0 S1 r (sgO S h0 (mnA S h0 m.toNatClampNeg) (voA S h0 x.toNatClampNeg) (shO S h0 p) w k S1)) (hV : mV v1) (hA : mA fa1) (hm : mX W1 v fa v1 fa1) (hq : aSg m.toInt (v 39).toInt x.toInt (v 40).toInt p.toInt (v 43).toInt w.toInt k.toInt (fa 9 x.toNatClampNeg).toInt (tldI v fa 0 x.toInt) (tldI v fa 2 x.toInt) (fa 26 p.toNatClampNeg).toInt (frI v fa m.toInt) (wrt v fa 0 (v 38).toInt (ltS w k (yrs v fa m.toNatClampNeg))).toInt r1.toInt ∧ rO2 v fa (v1, fa1) r1 (sgN v fa m x w k p (v1, fa1))) (hk : ∀ x ∈ ([] : List Nat), x ∉ W) (hk1 : ∀ x ∈ [38, 39, 40, 41, 42, 46, 2, 3, 4, 6, 8, 7, 9, 10, 11, 12, 13, 14, 15, 19, 16, 17, 18, 44], x ∉ W1) : r.toInt = r1.toInt ∧ lwI S1 h0 v1 fa1 := by
  obtain ⟨g1, t, g2, g3, hR⟩ := h
  obtain ⟨p1, p2⟩ := hp
  obtain ⟨q1, q2⟩ := hq
  have er : r.toInt = r1.toInt := by
    unfold aSg sgK sgY at p1 q1
    omega
  obtain ⟨z1, z2⟩ := hz_m hm hk1
  have bN : 0 ≤ (v 38).toInt ∧ (v 38).toInt ≤ 3000 := g2 38
  refine ⟨er, hI, hX.ty t, hV, hA, ?_⟩
  rcases p2 with ⟨n1, p2⟩ | ⟨n1, p2⟩
  · rcases q2 with ⟨m1, q2⟩ | ⟨m1, _, q2⟩
    · exact (by
      obtain ⟨S0, x0, x1, x2⟩ := p2
      exact RC_rf g1 t hR x1 (by decide +kernel) x0 x2 q2 hV hA)
    · exfalso
      omega
  · rcases q2 with ⟨m1, q2⟩ | ⟨m1, _, q2⟩
    · exfalso
      omega
    · unfold aSg sgK sgY at p1
      exact RC_sgn g1 t hR (by omega) (by omega) (by omega) (by omega) (by omega) p2 q2 (in_sub z1 (by decide +kernel)) (in_sub z2 (by decide +kernel)) hV hA
theorem lw_feed {W W1 : List Nat} {S S1 : oS} {h0 tp rw : Nat} {v v1 : Nat → Int32} {fa fa1 : Nat → Nat → Int32} {n r r1 : Int32} {b : Int64} (h : lwI S h0 v fa) (hI : oInv S1) (hX : oX W S S1) (htp : oP S h0 9 = some tp) (hrw : oP S tp 0 = some rw) (hp : gfd (oI S tp 1).toInt n.toInt b (oI S rw) r.toInt (oI S1 tp 1).toInt (oI S1 rw)) (hV : mV v1) (hA : mA fa1) (hm : mX W1 v fa v1 fa1) (hq : gfd (v 46).toInt n.toInt b (fa 44) r1.toInt (v1 46).toInt (fa1 44)) (hk : ∀ x ∈ W, x ∈ [801, 2107, 2160]) (hk1 : ∀ x ∈ [38, 39, 40, 43, 41, 42, 2, 3, 4, 6, 8, 7, 9, 10, 11, 12, 13, 14, 15, 19, 16, 17, 18, 20, 21, 25, 24, 22, 23, 26], x ∉ W1) : r.toInt = r1.toInt ∧ lwI S1 h0 v1 fa1 := by
  obtain ⟨g1, t, g2, g3, hR⟩ := h
  obtain ⟨z1, z2⟩ := hz_m hm hk1
  obtain ⟨er, g⟩ := RC_feed g1 t hR (hX.mono hk) htp hrw hp hq (in_sub z1 (by decide +kernel)) (in_sub z2 (by decide +kernel)) hV hA
  exact ⟨er, hI, hX.ty t, hV, hA, g⟩
theorem lw_act {W W1 : List Nat} {S S1 : oS} {h0 tp rw lw : Nat} {v v1 : Nat → Int32} {fa fa1 : Nat → Nat → Int32} {p d r r1 : Int32} (h : lwI S h0 v fa) (hI : oInv S1) (hX : oX W S S1) (htp : oP S h0 9 = some tp) (hrw : oP S tp 0 = some rw) (hlw : oP S h0 8 = some lw) (hp : gac (oI S h0 0).toInt (oI S lw 2).toInt (oI S tp 1).toInt p.toInt d.toInt ((cS (tC S tp rw) 5 0).1 : Int) (bI (cS (tC S tp rw) 5 0).2.1) r.toInt (oI S1 lw 2).toInt (oI S1 tp 1).toInt ∧ (1 ≤ r.toInt → (cS (tC S tp rw) 5 0).2.1 = true ∧ acO S lw p d (cS (tC S tp rw) 5 0).2.2 S1) ∧ (r.toInt < 1 → oX [801, 803, 804, 805, 2063, 2107] S S1)) (hV : mV v1) (hA : mA fa1) (hm : mX W1 v fa v1 fa1) (hq : gac (v 38).toInt (v 42).toInt (v 46).toInt p.toInt d.toInt ((mvS (mL fa) (cI (fa 44) (v 46).toNatClampNeg) 5 0).1 : Int) (bI (mvS (mL fa) (cI (fa 44) (v 46).toNatClampNeg) 5 0).2.1) r1.toInt (v1 42).toInt (v1 46).toInt ∧ (1 ≤ r1.toInt → acM v fa p d (v1, fa1)) ∧ (r1.toInt < 1 → ∀ k ∈ [19, 16, 17, 18], fa1 k = fa k)) (hk : ∀ x ∈ W, x ∈ [502, 801, 803, 804, 805, 2012, 2063, 2107, 5001]) (hk1 : ∀ x ∈ [38, 39, 40, 43, 41, 2, 3, 4, 6, 8, 7, 9, 10, 11, 12, 13, 14, 15, 20, 21, 25, 24, 22, 23, 26, 44], x ∉ W1) : r.toInt = r1.toInt ∧ lwI S1 h0 v1 fa1 := by
  obtain ⟨g1, t, g2, g3, hR⟩ := h
  obtain ⟨z1, z2⟩ := hz_m hm hk1
  obtain ⟨er, g⟩ := RC_act g1 t hR (hX.mono hk) htp hrw hlw hp hq (in_sub z1 (by decide +kernel)) (in_sub z2 (by decide +kernel)) hV hA
  exact ⟨er, hI, hX.ty t, hV, hA, g⟩
/-- at the start -/
theorem RC_start {S : oS} {o : Nat} (hV : mV (fun _ => 0)) (hA : mA (fun _ _ => 0)) (hI : oInv S) (to : oty S o 10) (h0 : oI S o 0 = 0) (h2 : oI S o 2 = 0) (h4 : oI S o 4 = 0) (h6 : oI S o 6 = 0) (h7 : oI S o 7 = 0) (ht : ∀ tp, oP S o 9 = some tp → oI S tp 1 = 0) (hl : ∀ lw, oP S o 8 = some lw → lawI S lw) : RC S o (fun _ => 0) (fun _ _ => 0) := by
  have t9 := (ro_e (p := 9) (kr := 8) hI to rfl rfl rfl).1
  have t8 := (ro_e (p := 8) (kr := 5) hI to rfl rfl rfl).1
  have no : ∀ j : Nat, ¬ j < (0 : Int32).toNatClampNeg := fun j hj => Nat.not_lt_zero j hj
  refine ⟨⟨by rw [h0], by rw [h2], by rw [h4], by rw [h6], by rw [h7]⟩, fun m hm => absurd hm (no m), fun m hm => absurd hm (no m), ⟨fun m hm => absurd hm (no m), fun m _ hm => absurd hm (no m)⟩, lawI_r (hl _ t8) rfl, ⟨by rw [ht _ t9], fun m hm => absurd hm (no m)⟩, fun m hm => absurd hm (no m), fun m hm => absurd hm (no m), fun m hm => absurd hm (no m), hV, hA⟩
theorem ao_of {C : String} {s : State} (h : va_AO C s) : ∃ cA : ClassId, ArrOfT s cA (.object C) ∧ va_RA s cA (.object C) := by
  obtain ⟨comp, c, k, h1, h2, h3, h4, h5⟩ := Cond.arrayOver_spec h
  exact ⟨c, fun N z => ⟨(fun k h => by cases h), k, h3, comp, h4⟩, k, comp, h3, h4, h1, h5⟩
theorem ac_of {args : Array Value} {s : State} {ty : FieldType} (h : (Cond.arrayClass ty).before args s = true) : ∃ cA : ClassId, ArrOfT s cA ty ∧ s.vm.findClass ("[" ++ ty.toString) = some cA := by
  obtain ⟨cA, kA, comp, h1, h2, h3⟩ := Cond.arrayClass_spec h
  exact ⟨cA, fun n z => ⟨fun k h => (by cases h), kA, h2, comp, h3⟩, h1⟩
