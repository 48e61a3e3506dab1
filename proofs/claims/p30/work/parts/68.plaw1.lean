

/-- the reference's addresses -/
def mAd (g0 : Nat) (pq : Nat → Nat) : List Nat := [g0, pq 0, pq 1, pq 2, pq 3, pq 4, pq 5, pq 6, pq 7, pq 8, pq 9, pq 10, pq 11, pq 12, pq 13, pq 14, pq 15, pq 16, pq 17, pq 18, pq 19, pq 20, pq 21, pq 22, pq 23, pq 24, pq 25, pq 26, pq 27, pq 28, pq 29, pq 30, pq 31, pq 32, pq 33, pq 34, pq 35, pq 36, pq 37, pq 44, pq 45, pq 52, pq 53, pq 54, pq 55, pq 56, pq 57, pq 61]
theorem mAd_of {g0 : Nat} {pq : Nat → Nat} {cp : Nat → ClassId} {v : Nat → Int32} {fa : Nat → Nat → Int32} {k : Nat} {x : Nat × va_E} (h : (mW g0 pq cp v fa)[k]? = some x) : x.1 ∈ mAd g0 pq := by
  have e : mAd g0 pq = (mW g0 pq cp v fa).map (fun y => y.1) := rfl
  rw [e]
  exact List.mem_map.mpr ⟨x, List.mem_of_getElem? h, rfl⟩
def lwR (S : oS) (h0 : Nat) (v : Nat → Int32) (fa : Nat → Nat → Int32) : Prop := RC S h0 v fa
/-- what holds of both between two calls: each in its bounds, and the words above -/
def lwI (S : oS) (h0 : Nat) (v : Nat → Int32) (fa : Nat → Nat → Int32) : Prop := oInv S ∧ oty S h0 10 ∧ mV v ∧ mA fa ∧ lwR S h0 v fa
def lwH (D : va_G) (A : Nat → Prop) (cq cp : Nat → ClassId) (g0 : Nat) (pq : Nat → Nat) (S : oS) (v : Nat → Int32) (fa : Nat → Nat → Int32) (H : Heap) : Prop := va_P D vwCl (oW cq S) H ∧ va_D A (oW cq S) ∧ va_P D vwCl (mW g0 pq cp v fa) H ∧ va_D A (mW g0 pq cp v fa) ∧ ∀ a, a ∈ oL S → a ∉ mAd g0 pq
theorem oW_mem {cq : Nat → ClassId} {S : oS} {k : Nat} {x : Nat × va_E} (h : (oW cq S)[k]? = some x) : x.1 ∈ oL S := by
  obtain ⟨a, ha, e⟩ := List.mem_map.mp (List.mem_of_getElem? h : x ∈ va_pl (oL S) (oE cq S))
  rw [← e]
  exact ha
theorem lw_lt {D : va_G} {cp : Nat → ClassId} {g0 : Nat} {pq : Nat → Nat} {v : Nat → Int32} {fa : Nat → Nat → Int32} {H : Heap} (hP : va_P D vwCl (mW g0 pq cp v fa) H) {a : Nat} (h : a ∈ mAd g0 pq) : a < H.size := by
  have e : mAd g0 pq = (mW g0 pq cp v fa).map (fun y => y.1) := rfl
  rw [e] at h
  obtain ⟨x, hx, rfl⟩ := List.mem_map.mp h
  obtain ⟨k, hk⟩ := List.getElem?_of_mem hx
  exact (hP k x hk).lt
/-- behind a call of the office -/
theorem lwH_o {D : va_G} {A : Nat → Prop} {cq cp : Nat → ClassId} {g0 : Nat} {pq : Nat → Nat} {S S1 : oS} {v : Nat → Int32} {fa : Nat → Nat → Int32} {H H1 : Heap} (h : lwH D A cq cp g0 pq S v fa H) (hF : ∀ q, va_A (oW cq S) H.size q → A q) (hk : ∀ q : Nat, q < H.size → ¬ va_A (oW cq S) H.size q → H1[q]? = H[q]?) (hP : va_P D vwCl (oW cq S1) H1) (hD : va_D (va_A (oW cq S) H.size) (oW cq S1)) : lwH D A cq cp g0 pq S1 v fa H1 := by
  obtain ⟨h1, h2, h3, h4, h5⟩ := h
  have nin : ∀ a, a ∈ mAd g0 pq → ¬ va_A (oW cq S) H.size a := fun a ha q => by
    rcases q with ⟨k, e, hk⟩ | q
    · exact h5 a (oW_mem hk) ha
    · exact absurd (lw_lt h3 ha) (Nat.not_lt.mpr q)
  refine ⟨hP, hD.weaken (fun _ _ _ g => hF _ g), h3.kept (fun k x hx => hk x.1 (h3 k x hx).lt (nin _ (mAd_of hx))), h4, fun a ha hm => ?_⟩
  obtain ⟨k, hk2⟩ := va_pl_get (X := []) (f := oE cq S1) ha
  exact nin a hm (hD.2 k _ hk2)
/-- behind a call of the reference -/
theorem lwH_m {D : va_G} {A : Nat → Prop} {cq cp : Nat → ClassId} {g0 : Nat} {pq : Nat → Nat} {S : oS} {v v1 : Nat → Int32} {fa fa1 : Nat → Nat → Int32} {H H1 : Heap} (h : lwH D A cq cp g0 pq S v fa H) (hF : ∀ q, va_A (mW g0 pq cp v fa) H.size q → A q) (hk : ∀ q : Nat, q < H.size → ¬ va_A (mW g0 pq cp v fa) H.size q → H1[q]? = H[q]?) (hP : va_P D vwCl (mW g0 pq cp v1 fa1) H1) (hD : va_D (va_A (mW g0 pq cp v fa) H.size) (mW g0 pq cp v1 fa1)) : lwH D A cq cp g0 pq S v1 fa1 H1 := by
  obtain ⟨h1, h2, h3, h4, h5⟩ := h
  refine ⟨h1.kept (fun k x hx => hk x.1 (h1 k x hx).lt (fun q => ?_)), h2, hP, hD.weaken (fun _ _ _ g => hF _ g), h5⟩
  rcases q with ⟨j, e, hj⟩ | q
  · exact h5 x.1 (oW_mem hx) (mAd_of (x := (x.1, e)) hj)
  · exact absurd (h1 k x hx).lt (Nat.not_lt.mpr q)
theorem lwH_p {D : va_G} {A : Nat → Prop} {cq cp : Nat → ClassId} {g0 : Nat} {pq : Nat → Nat} {S : oS} {v : Nat → Int32} {fa : Nat → Nat → Int32} {H H1 : Heap} (h : lwH D A cq cp g0 pq S v fa H) (hk : ∀ q : Nat, q < H.size → ¬ va_A [] H.size q → H1[q]? = H[q]?) : lwH D A cq cp g0 pq S v fa H1 := ⟨pu_keep h.1 hk, h.2.1, pu_keep h.2.2.1 hk, h.2.2.2.1, h.2.2.2.2⟩
theorem lwI_o {W : List Nat} {S S1 : oS} {h0 : Nat} {v : Nat → Int32} {fa : Nat → Nat → Int32} (h : lwI S h0 v fa) (hI : oInv S1) (hX : oX W S S1) (hk : ∀ x ∈ keysC, x ∉ W) : lwI S1 h0 v fa := by
  obtain ⟨g1, t, g2, g3, r⟩ := h
  exact ⟨hI, hX.ty t, g2, g3, RC_o hX g1 t hk r⟩
theorem lwI_m {W : List Nat} {S : oS} {h0 : Nat} {v v1 : Nat → Int32} {fa fa1 : Nat → Nat → Int32} (h : lwI S h0 v fa) (hV : mV v1) (hA : mA fa1) (hm : mX W v fa v1 fa1) (hk : ∀ x ∈ fldC ++ rowC, x ∉ W) : lwI S h0 v1 fa1 := by
  obtain ⟨g1, t, g2, g3, r⟩ := h
  exact ⟨g1, t, hV, hA, RC_mR (fun i q => hm.1 i (hk i (List.mem_append_left _ q))) (fun k q => hm.2 k (hk k (List.mem_append_right _ q))) hV hA ⟨r.1, r.2.1, r.2.2.1, r.2.2.2.1, r.2.2.2.2.1, r.2.2.2.2.2.1⟩ r.p⟩
theorem od_eq {a n r r1 b b1 : Int} (h : odays a n r b) (g : odays a n r1 b1) : r = r1 ∧ b = b1 := by
  unfold odays at h g
  omega
theorem hz_m {W L : List Nat} {v v1 : Nat → Int32} {fa fa1 : Nat → Nat → Int32} (hm : mX W v fa v1 fa1) (hk : ∀ x ∈ L, x ∉ W) : (∀ i ∈ L, v1 i = v i) ∧ ∀ k ∈ L, fa1 k = fa k := ⟨fun i q => hm.1 i (hk i q), fun k q => hm.2 k (hk k q)⟩
theorem in_sub {α : Type} {L M : List α} {P : α → Prop} (h : ∀ x ∈ M, P x) (hs : ∀ x ∈ L, x ∈ M) : ∀ x ∈ L, P x := fun x q => h x (hs x q)
theorem mn_of2 {v : Nat → Int32} {fa : Nat → Nat → Int32} {a b d r : Int32} {u : (Nat → Int32) × (Nat → Nat → Int32)} (hV : mV v) (hA : mA fa) (h : gman v fa a b d r u) : mV u.1 ∧ mA u.2 ∧ mX [0, 2, 3, 4, 39] v fa u.1 u.2 ∧ gmn (v 38).toInt (v 39).toInt a.toInt b.toInt d.toInt r.toInt (u.1 39).toInt ∧ (0 ≤ r.toInt → mnN v fa a b d u) ∧ (r.toInt < 0 → sm0 v fa u) := by
  obtain ⟨h1, h2, h3, h4⟩ := mn_of hV hA h
  refine ⟨h1, h2, h3, h4, fun hr => ?_, fun hr => ?_⟩
  · unfold gman at h
    have r4 : (-4 : Int32).toInt = -4 := by decide
    have r6 : (-6 : Int32).toInt = -6 := by decide
    split at h
    · rw [h.1] at hr; omega
    · split at h
      · rw [h.1] at hr; omega
      · obtain ⟨-, -, e3⟩ := h
        unfold mnN
        rw [e3]
        exact ⟨rfl, rfl, rfl⟩
  · unfold gman at h
    have hb : 0 ≤ (v 39).toInt := (hV 39).1
    split at h
    · exact h.2
    · split at h
      · exact h.2
      · exfalso
        obtain ⟨e1, e2, -⟩ := h
        have : gmn (v 38).toInt (v 39).toInt a.toInt b.toInt d.toInt r.toInt (u.1 39).toInt := h4
        unfold gmn at this
        rw [e2] at this
        have e5 : (upd v 39 (v 39 + 1) 39).toInt = (v 39).toInt + 1 := by
          rw [show upd v 39 (v 39 + 1) 39 = v 39 + 1 from if_pos rfl]
          exact ad_i rfl (by decide) (by omega) (by have := (hV 39).2; have e : vHi 39 = 40 := rfl; omega)
        omega
theorem lw_days {W W1 : List Nat} {S S1 : oS} {h0 : Nat} {v v1 : Nat → Int32} {fa fa1 : Nat → Nat → Int32} {n r r1 : Int32} (h : lwI S h0 v fa) (hI : oInv S1) (hX : oX W S S1) (hp : odays (oI S h0 0).toInt n.toInt r.toInt (oI S1 h0 0).toInt) (hV : mV v1) (hA : mA fa1) (hm : mX W1 v fa v1 fa1) (hq : odays (v 38).toInt n.toInt r1.toInt (v1 38).toInt) (hk : ∀ k ∈ keysC, k = 1000 ∨ k ∉ W) (hk1 : ∀ x ∈ [39, 40, 43, 41, 42, 46] ++ rowC, x ∉ W1) : r.toInt = r1.toInt ∧ lwI S1 h0 v1 fa1 := by
  obtain ⟨g1, t, g2, g3, hR⟩ := h
  rw [(RC.n hR).1] at hp
  obtain ⟨er, eb⟩ := od_eq hp hq
  refine ⟨er, hI, hX.ty t, hV, hA, RC_day g1 t hR hX hk eb (by unfold odays at hq; omega) (fun i q => hm.1 i (hk1 i (List.mem_append_left _ q))) (fun k q => hm.2 k (hk1 k (List.mem_append_right _ q))) hV hA⟩
theorem lw_man {W W1 : List Nat} {S S1 : oS} {h0 : Nat} {v v1 : Nat → Int32} {fa fa1 : Nat → Nat → Int32} {a b d r r1 : Int32} (h : lwI S h0 v fa) (hI : oInv S1) (hX : oX W S S1) (hp : gmn (oI S h0 0).toInt (oI S h0 2).toInt a.toInt b.toInt d.toInt r.toInt (oI S1 h0 2).toInt ∧ (0 ≤ r.toInt → mnO S h0 a b d S1) ∧ (r.toInt < 0 → oX [2107] S S1)) (hV : mV v1) (hA : mA fa1) (hm : mX W1 v fa v1 fa1) (hq : gmn (v 38).toInt (v 39).toInt a.toInt b.toInt d.toInt r1.toInt (v1 39).toInt ∧ (0 ≤ r1.toInt → mnN v fa a b d (v1, fa1)) ∧ (r1.toInt < 0 → sm0 v fa (v1, fa1))) (hk : ∀ x ∈ W, x ∈ [605, 1002, 2014, 2107]) (hk1 : ∀ x ∈ [38, 40, 43, 41, 42, 46, 6, 8, 7, 9, 10, 11, 12, 13, 14, 15, 19, 16, 17, 18, 20, 21, 25, 24, 22, 23, 26, 44], x ∉ W1) : r.toInt = r1.toInt ∧ lwI S1 h0 v1 fa1 := by
  obtain ⟨g1, t, g2, g3, hR⟩ := h
  obtain ⟨p1, p2, p3⟩ := hp
  obtain ⟨q1, q2, q3⟩ := hq
  rw [(RC.n hR).1, (RC.n hR).2.1] at p1
  obtain ⟨er, em⟩ := gmn_det p1 q1
  have hmb : 0 ≤ (v 39).toInt ∧ (v 39).toInt ≤ 40 := g2 39
  refine ⟨er, hI, hX.ty t, hV, hA, ?_⟩
  obtain ⟨z1, z2⟩ := hz_m hm hk1
  by_cases c : 0 ≤ r.toInt
  · exact RC_man g1 t hR (hX.mono hk) (by rw [(RC.n hR).2.1]; unfold gmn at p1; omega) (p2 c) (by unfold gmn at q1; omega) (q2 (by omega)) (by unfold gmn at p1; omega) (in_sub z1 (by decide)) (in_sub z2 (by decide)) hV hA
  · have hs := q3 (by omega)
    exact RC_mR (fun i _ => congrFun hs.1 i) (fun k q => hs.2 k (by revert q; revert k; decide)) hV hA (RC_oR (p3 (by omega)) g1 t (by decide) hR) hR.p
theorem lw_voyage {W W1 : List Nat} {S S1 : oS} {h0 : Nat} {v v1 : Nat → Int32} {fa fa1 : Nat → Nat → Int32} {a b r r1 : Int32} (h : lwI S h0 v fa) (hI : oInv S1) (hX : oX W S S1) (hp : aVy a.toInt b.toInt (hvI v fa a.toInt) (v 40).toInt r.toInt ∧ rOo S h0 S1 r (vyO S h0 a b S1)) (hV : mV v1) (hA : mA fa1) (hm : mX W1 v fa v1 fa1) (hq : aVy a.toInt b.toInt (hvI v fa a.toInt) (v 40).toInt r1.toInt ∧ rOr v fa (v1, fa1) r1 (vyN v fa a b (v1, fa1))) (hk : ∀ x ∈ ([] : List Nat), x ∉ W) (hk1 : ∀ x ∈ [38, 39, 43, 41, 42, 46, 2, 3, 4, 10, 11, 12, 13, 14, 15, 19, 16, 17, 18, 20, 21, 25, 24, 22, 23, 26, 44], x ∉ W1) : r.toInt = r1.toInt ∧ lwI S1 h0 v1 fa1 := by
  obtain ⟨g1, t, g2, g3, hR⟩ := h
  obtain ⟨p1, p2⟩ := hp
  obtain ⟨q1, q2⟩ := hq
  have er : r.toInt = r1.toInt := by
    unfold aVy at p1 q1
    omega
  obtain ⟨z1, z2⟩ := hz_m hm hk1
  have bN : 0 ≤ (v 38).toInt ∧ (v 38).toInt ≤ 3000 := g2 38
  refine ⟨er, hI, hX.ty t, hV, hA, ?_⟩
  rcases p2 with ⟨n1, p2⟩ | ⟨n1, p2⟩
  · rcases q2 with ⟨m1, q2⟩ | ⟨m1, _, q2⟩
    · exact RC_rf (W := []) g1 t hR oX.rf (by decide) g1 p2 (sm2_1 q2) hV hA
    · exfalso
      omega
  · rcases q2 with ⟨m1, q2⟩ | ⟨m1, _, q2⟩
    · exfalso
      omega
    · exact RC_voy (y := 0) (hm := hV) g1 t hR p2 q2 (in_sub z1 (by decide)) (in_sub z2 (by decide)) hA
theorem lw_sailed {W W1 : List Nat} {S S1 : oS} {h0 : Nat} {v v1 : Nat → Int32} {fa fa1 : Nat → Nat → Int32} {a d r r1 : Int32} (h : lwI S h0 v fa) (hI : oInv S1) (hX : oX W S S1) (hp : aHt a.toInt (v 40).toInt (fa 9 a.toNatClampNeg).toInt (tldI v fa 0 a.toInt) (fa 7 a.toNatClampNeg).toInt d.toInt (v 38).toInt (v 41).toInt r.toInt ∧ rOo S h0 S1 r (onO S h0 (voA S h0 a.toNatClampNeg) 5 6 d r S1)) (hV : mV v1) (hA : mA fa1) (hm : mX W1 v fa v1 fa1) (hq : aHt a.toInt (v 40).toInt (fa 9 a.toNatClampNeg).toInt (tldI v fa 0 a.toInt) (fa 7 a.toNatClampNeg).toInt d.toInt (v 38).toInt (v 41).toInt r1.toInt ∧ rOr v fa (v1, fa1) r1 (hpN v fa 0 a d 0 0 (v1, fa1))) (hk : ∀ x ∈ ([] : List Nat), x ∉ W) (hk1 : ∀ x ∈ fldH ++ rowH, x ∉ W1) : r.toInt = r1.toInt ∧ lwI S1 h0 v1 fa1 := by
  obtain ⟨g1, t, g2, g3, hR⟩ := h
  obtain ⟨p1, p2⟩ := hp
  obtain ⟨q1, q2⟩ := hq
  have er : r.toInt = r1.toInt := by
    unfold aHt aHp at p1 q1
    omega
  obtain ⟨z1, z2⟩ := hz_m hm hk1
  have bN : 0 ≤ (v 38).toInt ∧ (v 38).toInt ≤ 3000 := g2 38
  refine ⟨er, hI, hX.ty t, hV, hA, ?_⟩
  rcases p2 with ⟨n1, p2⟩ | ⟨n1, p2⟩
  · rcases q2 with ⟨m1, q2⟩ | ⟨m1, _, q2⟩
    · exact RC_rf (W := []) g1 t hR oX.rf (by decide) g1 p2 (sm2_1 q2) hV hA
    · exfalso
      omega
  · rcases q2 with ⟨m1, q2⟩ | ⟨m1, _, q2⟩
    · exfalso
      omega
    · have hop : 0 ≤ (fa 7 a.toNatClampNeg).toInt := (g3 7 a.toNatClampNeg).1
      unfold aHt aHp at p1
      have k0 : (0 : Int32).toInt = 0 := by decide
      exact RC_onc g1 t hR (ni_lt (i := a) (x := v 40) (by omega) (by omega)) p2 (Or.inl ⟨rfl, rfl, by decide⟩) (by rw [k0]; omega) q2 (tn_i (by omega)).symm rfl (by omega) (by omega) (in_sub z1 (by decide)) (in_sub z2 (by decide)) hV hA
theorem lw_lost {W W1 : List Nat} {S S1 : oS} {h0 : Nat} {v v1 : Nat → Int32} {fa fa1 : Nat → Nat → Int32} {a d r r1 : Int32} (h : lwI S h0 v fa) (hI : oInv S1) (hX : oX W S S1) (hp : aHt a.toInt (v 40).toInt (fa 9 a.toNatClampNeg).toInt (tldI v fa 2 a.toInt) (fa 7 a.toNatClampNeg).toInt d.toInt (v 38).toInt (v 41).toInt r.toInt ∧ rOo S h0 S1 r (onO S h0 (voA S h0 a.toNatClampNeg) 7 8 d r S1)) (hV : mV v1) (hA : mA fa1) (hm : mX W1 v fa v1 fa1) (hq : aHt a.toInt (v 40).toInt (fa 9 a.toNatClampNeg).toInt (tldI v fa 2 a.toInt) (fa 7 a.toNatClampNeg).toInt d.toInt (v 38).toInt (v 41).toInt r1.toInt ∧ rOr v fa (v1, fa1) r1 (hpN v fa 2 a d 0 0 (v1, fa1))) (hk : ∀ x ∈ ([] : List Nat), x ∉ W) (hk1 : ∀ x ∈ fldH ++ rowH, x ∉ W1) : r.toInt = r1.toInt ∧ lwI S1 h0 v1 fa1 := by
  obtain ⟨g1, t, g2, g3, hR⟩ := h
  obtain ⟨p1, p2⟩ := hp
  obtain ⟨q1, q2⟩ := hq
  have er : r.toInt = r1.toInt := by
    unfold aHt aHp at p1 q1
    omega
  obtain ⟨z1, z2⟩ := hz_m hm hk1
  have bN : 0 ≤ (v 38).toInt ∧ (v 38).toInt ≤ 3000 := g2 38
  refine ⟨er, hI, hX.ty t, hV, hA, ?_⟩
  rcases p2 with ⟨n1, p2⟩ | ⟨n1, p2⟩
  · rcases q2 with ⟨m1, q2⟩ | ⟨m1, _, q2⟩
    · exact RC_rf (W := []) g1 t hR oX.rf (by decide) g1 p2 (sm2_1 q2) hV hA
    · exfalso
      omega
  · rcases q2 with ⟨m1, q2⟩ | ⟨m1, _, q2⟩
    · exfalso
      omega
    · have hop : 0 ≤ (fa 7 a.toNatClampNeg).toInt := (g3 7 a.toNatClampNeg).1
      unfold aHt aHp at p1
      have k0 : (2 : Int32).toInt = 2 := by decide
      exact RC_onc g1 t hR (ni_lt (i := a) (x := v 40) (by omega) (by omega)) p2 (Or.inr ⟨rfl, rfl, by decide⟩) (by rw [k0]; omega) q2 (tn_i (by omega)).symm rfl (by omega) (by omega) (in_sub z1 (by decide)) (in_sub z2 (by decide)) hV hA
theorem lw_heard {W W1 : List Nat} {S S1 : oS} {h0 : Nat} {v v1 : Nat → Int32} {fa fa1 : Nat → Nat → Int32} {a d r r1 : Int32} (h : lwI S h0 v fa) (hI : oInv S1) (hX : oX W S S1) (hp : aHt a.toInt (v 40).toInt (fa 9 a.toNatClampNeg).toInt 0 (fa 7 a.toNatClampNeg).toInt d.toInt (v 38).toInt (v 41).toInt r.toInt ∧ rOo S h0 S1 r (hapO S h0 (voA S h0 a.toNatClampNeg) 9 3 d (-9) (-9) r S1)) (hV : mV v1) (hA : mA fa1) (hm : mX W1 v fa v1 fa1) (hq : aHt a.toInt (v 40).toInt (fa 9 a.toNatClampNeg).toInt 0 (fa 7 a.toNatClampNeg).toInt d.toInt (v 38).toInt (v 41).toInt r1.toInt ∧ rOr v fa (v1, fa1) r1 (hpN v fa 1 a d 0 0 (v1, fa1))) (hk : ∀ x ∈ ([] : List Nat), x ∉ W) (hk1 : ∀ x ∈ fldH ++ rowH, x ∉ W1) : r.toInt = r1.toInt ∧ lwI S1 h0 v1 fa1 := by
  obtain ⟨g1, t, g2, g3, hR⟩ := h
  obtain ⟨p1, p2⟩ := hp
  obtain ⟨q1, q2⟩ := hq
  have er : r.toInt = r1.toInt := by
    unfold aHt aHp at p1 q1
    omega
  obtain ⟨z1, z2⟩ := hz_m hm hk1
  have bN : 0 ≤ (v 38).toInt ∧ (v 38).toInt ≤ 3000 := g2 38
  refine ⟨er, hI, hX.ty t, hV, hA, ?_⟩
  rcases p2 with ⟨n1, p2⟩ | ⟨n1, p2⟩
  · rcases q2 with ⟨m1, q2⟩ | ⟨m1, _, q2⟩
    · exact RC_rf (W := []) g1 t hR oX.rf (by decide) g1 p2 (sm2_1 q2) hV hA
    · exfalso
      omega
  · rcases q2 with ⟨m1, q2⟩ | ⟨m1, _, q2⟩
    · exfalso
      omega
    · unfold aHt aHp at p1
      exact RC_hrd g1 t hR (ni_lt (i := a) (x := v 40) (by omega) (by omega)) p2 q2 (tn_i (by omega)).symm rfl ⟨by decide, by decide⟩ (by omega) (in_sub z1 (by decide)) (in_sub z2 (by decide)) hV hA
theorem lw_left {W W1 : List Nat} {S S1 : oS} {h0 : Nat} {v v1 : Nat → Int32} {fa fa1 : Nat → Nat → Int32} {a d w p r r1 : Int32} (h : lwI S h0 v fa) (hI : oInv S1) (hX : oX W S S1) (hp : aLe a.toInt (v 43).toInt p.toInt w.toInt (fa 26 a.toNatClampNeg).toInt (fa 25 a.toNatClampNeg).toInt d.toInt (v 38).toInt (v 41).toInt r.toInt ∧ rOo S h0 S1 r (hapO S h0 (agA S h0 a.toNatClampNeg) 8 0 d w p r S1)) (hV : mV v1) (hA : mA fa1) (hm : mX W1 v fa v1 fa1) (hq : aLe a.toInt (v 43).toInt p.toInt w.toInt (fa 26 a.toNatClampNeg).toInt (fa 25 a.toNatClampNeg).toInt d.toInt (v 38).toInt (v 41).toInt r1.toInt ∧ rOr v fa (v1, fa1) r1 (hpN v fa 3 a d w p (v1, fa1))) (hk : ∀ x ∈ ([] : List Nat), x ∉ W) (hk1 : ∀ x ∈ fldH ++ rowH, x ∉ W1) : r.toInt = r1.toInt ∧ lwI S1 h0 v1 fa1 := by
  obtain ⟨g1, t, g2, g3, hR⟩ := h
  obtain ⟨p1, p2⟩ := hp
  obtain ⟨q1, q2⟩ := hq
  have er : r.toInt = r1.toInt := by
    unfold aLe aHp at p1 q1
    omega
  obtain ⟨z1, z2⟩ := hz_m hm hk1
  have bN : 0 ≤ (v 38).toInt ∧ (v 38).toInt ≤ 3000 := g2 38
  refine ⟨er, hI, hX.ty t, hV, hA, ?_⟩
  rcases p2 with ⟨n1, p2⟩ | ⟨n1, p2⟩
  · rcases q2 with ⟨m1, q2⟩ | ⟨m1, _, q2⟩
    · exact RC_rf (W := []) g1 t hR oX.rf (by decide) g1 p2 (sm2_1 q2) hV hA
    · exfalso
      omega
  · rcases q2 with ⟨m1, q2⟩ | ⟨m1, _, q2⟩
    · exfalso
      omega
    · unfold aLe aHp at p1
      exact RC_tid g1 t hR (ni_lt (i := a) (x := v 43) (by omega) (by omega)) p2 (Or.inl ⟨rfl, by decide⟩) q2 (tn_i (by omega)).symm rfl (Or.inl ⟨by decide, by decide, rfl, rfl⟩) (by omega) (in_sub z1 (by decide)) (in_sub z2 (by decide)) hV hA
theorem lw_died {W W1 : List Nat} {S S1 : oS} {h0 : Nat} {v v1 : Nat → Int32} {fa fa1 : Nat → Nat → Int32} {a d r r1 : Int32} (h : lwI S h0 v fa) (hI : oInv S1) (hX : oX W S S1) (hp : aHo a.toInt (v 43).toInt (fa 26 a.toNatClampNeg).toInt (fa 25 a.toNatClampNeg).toInt d.toInt (v 38).toInt (v 41).toInt r.toInt ∧ rOo S h0 S1 r (hapO (setI S (agA S h0 a.toNatClampNeg) 7 1) h0 (agA S h0 a.toNatClampNeg) 8 2 d (-9) (-9) r S1)) (hV : mV v1) (hA : mA fa1) (hm : mX W1 v fa v1 fa1) (hq : aHo a.toInt (v 43).toInt (fa 26 a.toNatClampNeg).toInt (fa 25 a.toNatClampNeg).toInt d.toInt (v 38).toInt (v 41).toInt r1.toInt ∧ rOr v fa (v1, fa1) r1 (hpN v fa 4 a d 0 0 (v1, fa1))) (hk : ∀ x ∈ ([] : List Nat), x ∉ W) (hk1 : ∀ x ∈ fldH ++ rowH, x ∉ W1) : r.toInt = r1.toInt ∧ lwI S1 h0 v1 fa1 := by
  obtain ⟨g1, t, g2, g3, hR⟩ := h
  obtain ⟨p1, p2⟩ := hp
  obtain ⟨q1, q2⟩ := hq
  have er : r.toInt = r1.toInt := by
    unfold aHo aHp at p1 q1
    omega
  obtain ⟨z1, z2⟩ := hz_m hm hk1
  have bN : 0 ≤ (v 38).toInt ∧ (v 38).toInt ≤ 3000 := g2 38
  refine ⟨er, hI, hX.ty t, hV, hA, ?_⟩
  rcases p2 with ⟨n1, p2⟩ | ⟨n1, p2⟩
  · rcases q2 with ⟨m1, q2⟩ | ⟨m1, _, q2⟩
    · exact RC_rf (W := []) g1 t hR oX.rf (by decide) g1 p2 (sm2_1 q2) hV hA
    · exfalso
      omega
  · rcases q2 with ⟨m1, q2⟩ | ⟨m1, _, q2⟩
    · exfalso
      omega
    · unfold aHo aHp at p1
      exact RC_tid g1 t hR (ni_lt (i := a) (x := v 43) (by omega) (by omega)) p2 (Or.inr ⟨rfl, by decide⟩) q2 (tn_i (by omega)).symm rfl (Or.inr (Or.inl ⟨by decide, by decide⟩)) (by omega) (in_sub z1 (by decide)) (in_sub z2 (by decide)) hV hA
theorem lw_back {W W1 : List Nat} {S S1 : oS} {h0 : Nat} {v v1 : Nat → Int32} {fa fa1 : Nat → Nat → Int32} {a d r r1 : Int32} (h : lwI S h0 v fa) (hI : oInv S1) (hX : oX W S S1) (hp : aHo a.toInt (v 43).toInt (fa 26 a.toNatClampNeg).toInt (fa 25 a.toNatClampNeg).toInt d.toInt (v 38).toInt (v 41).toInt r.toInt ∧ rOo S h0 S1 r (hapO S h0 (agA S h0 a.toNatClampNeg) 8 1 d (-9) (-9) r S1)) (hV : mV v1) (hA : mA fa1) (hm : mX W1 v fa v1 fa1) (hq : aHo a.toInt (v 43).toInt (fa 26 a.toNatClampNeg).toInt (fa 25 a.toNatClampNeg).toInt d.toInt (v 38).toInt (v 41).toInt r1.toInt ∧ rOr v fa (v1, fa1) r1 (hpN v fa 5 a d 0 0 (v1, fa1))) (hk : ∀ x ∈ ([] : List Nat), x ∉ W) (hk1 : ∀ x ∈ fldH ++ rowH, x ∉ W1) : r.toInt = r1.toInt ∧ lwI S1 h0 v1 fa1 := by
  obtain ⟨g1, t, g2, g3, hR⟩ := h
  obtain ⟨p1, p2⟩ := hp
  obtain ⟨q1, q2⟩ := hq
  have er : r.toInt = r1.toInt := by
    unfold aHo aHp at p1 q1
    omega
  obtain ⟨z1, z2⟩ := hz_m hm hk1
  have bN : 0 ≤ (v 38).toInt ∧ (v 38).toInt ≤ 3000 := g2 38
  refine ⟨er, hI, hX.ty t, hV, hA, ?_⟩
  rcases p2 with ⟨n1, p2⟩ | ⟨n1, p2⟩
  · rcases q2 with ⟨m1, q2⟩ | ⟨m1, _, q2⟩
    · exact RC_rf (W := []) g1 t hR oX.rf (by decide) g1 p2 (sm2_1 q2) hV hA
    · exfalso
      omega
  · rcases q2 with ⟨m1, q2⟩ | ⟨m1, _, q2⟩
    · exfalso
      omega
    · unfold aHo aHp at p1
      exact RC_tid g1 t hR (ni_lt (i := a) (x := v 43) (by omega) (by omega)) p2 (Or.inl ⟨rfl, by decide⟩) q2 (tn_i (by omega)).symm rfl (Or.inr (Or.inr ⟨by decide, by decide⟩)) (by omega) (in_sub z1 (by decide)) (in_sub z2 (by decide)) hV hA
theorem lw_off {W W1 : List Nat} {S S1 : oS} {h0 : Nat} {v v1 : Nat → Int32} {fa fa1 : Nat → Nat → Int32} {a p r r1 : Int32} (h : lwI S h0 v fa) (hI : oInv S1) (hX : oX W S S1) (hp : aOf a.toInt (v 43).toInt p.toInt (gonI v fa a.toNatClampNeg) r.toInt ∧ rOo S h0 S1 r (S1 = setI S (agA S h0 a.toNatClampNeg) 6 (oI S h0 0))) (hV : mV v1) (hA : mA fa1) (hm : mX W1 v fa v1 fa1) (hq : aOf a.toInt (v 43).toInt p.toInt (gonI v fa a.toNatClampNeg) r1.toInt ∧ rOr v fa (v1, fa1) r1 (fa1 26 = upd (fa 26) a.toNatClampNeg (v 38))) (hk : ∀ x ∈ ([] : List Nat), x ∉ W) (hk1 : ∀ x ∈ fldC ++ [2, 3, 4, 6, 8, 7, 9, 10, 11, 12, 13, 14, 15, 19, 16, 17, 18, 20, 21, 25, 24, 22, 23, 44], x ∉ W1) : r.toInt = r1.toInt ∧ lwI S1 h0 v1 fa1 := by
  obtain ⟨g1, t, g2, g3, hR⟩ := h
  obtain ⟨p1, p2⟩ := hp
  obtain ⟨q1, q2⟩ := hq
  have er : r.toInt = r1.toInt := by
    unfold aOf at p1 q1
    omega
  obtain ⟨z1, z2⟩ := hz_m hm hk1
  have bN : 0 ≤ (v 38).toInt ∧ (v 38).toInt ≤ 3000 := g2 38
  refine ⟨er, hI, hX.ty t, hV, hA, ?_⟩
  rcases p2 with ⟨n1, p2⟩ | ⟨n1, p2⟩
  · rcases q2 with ⟨m1, q2⟩ | ⟨m1, _, q2⟩
    · exact RC_rf (W := []) g1 t hR oX.rf (by decide) g1 p2 (sm2_1 q2) hV hA
    · exfalso
      omega
  · rcases q2 with ⟨m1, q2⟩ | ⟨m1, _, q2⟩
    · exfalso
      omega
    · unfold aOf at p1
      exact RC_off g1 t hR (ni_lt (i := a) (x := v 43) (by omega) (by omega)) p2 q2 (in_sub z1 (by decide)) (in_sub z2 (by decide)) hV hA
theorem lw_ended {W W1 : List Nat} {S S1 : oS} {h0 : Nat} {v v1 : Nat → Int32} {fa fa1 : Nat → Nat → Int32} {a p r r1 : Int32} (h : lwI S h0 v fa) (hI : oInv S1) (hX : oX W S S1) (hp : aEn a.toInt (v 40).toInt p.toInt (fa 9 a.toNatClampNeg).toInt (tldI v fa 2 a.toInt) (cgI v fa a.toInt) r.toInt ∧ rOo S h0 S1 r (S1 = wI S (enU S h0 (voA S h0 a.toNatClampNeg) v fa a.toInt (v 43).toNatClampNeg))) (hV : mV v1) (hA : mA fa1) (hm : mX W1 v fa v1 fa1) (hq : aEn a.toInt (v 40).toInt p.toInt (fa 9 a.toNatClampNeg).toInt (tldI v fa 2 a.toInt) (cgI v fa a.toInt) r1.toInt ∧ rOr v fa (v1, fa1) r1 (enN v fa a (v1, fa1))) (hk : ∀ x ∈ ([] : List Nat), x ∉ W) (hk1 : ∀ x ∈ fldC ++ [2, 3, 4, 6, 8, 7, 10, 11, 12, 13, 14, 15, 19, 16, 17, 18, 20, 21, 25, 24, 22, 23, 44], x ∉ W1) : r.toInt = r1.toInt ∧ lwI S1 h0 v1 fa1 := by
  obtain ⟨g1, t, g2, g3, hR⟩ := h
  obtain ⟨p1, p2⟩ := hp
  obtain ⟨q1, q2⟩ := hq
  have er : r.toInt = r1.toInt := by
    unfold aEn at p1 q1
    omega
  obtain ⟨z1, z2⟩ := hz_m hm hk1
  have bN : 0 ≤ (v 38).toInt ∧ (v 38).toInt ≤ 3000 := g2 38
  refine ⟨er, hI, hX.ty t, hV, hA, ?_⟩
  rcases p2 with ⟨n1, p2⟩ | ⟨n1, p2⟩
  · rcases q2 with ⟨m1, q2⟩ | ⟨m1, _, q2⟩
    · exact RC_rf (W := []) g1 t hR oX.rf (by decide) g1 p2 (sm2_1 q2) hV hA
    · exfalso
      omega
  · rcases q2 with ⟨m1, q2⟩ | ⟨m1, _, q2⟩
    · exfalso
      omega
    · unfold aEn at p1
      exact RC_end g1 t hR (ni_lt (i := a) (x := v 40) (by omega) (by omega)) rfl (tn_i (by omega)).symm p2 q2 (in_sub z1 (by decide)) (in_sub z2 (by decide)) hV hA
theorem lw_sign {W W1 : List Nat} {S S1 : oS} {h0 : Nat} {v v1 : Nat → Int32} {fa fa1 : Nat → Nat → Int32} {m x w k p r r1 : Int32} (h : lwI S h0 v fa) (hI : oInv S1) (hX : oX W S S1) (hp : aSg m.toInt (v 39).toInt x.toInt (v 40).toInt p.toInt (v 43).toInt w.toInt k.toInt (fa 9 x.toNatClampNeg).toInt (tldI v fa 0 x.toInt) (tldI v fa 2 x.toInt) (fa 26 p.toNatClampNeg).toInt (frI v fa m.toInt) (wrt v fa 0 (v 38).toInt (ltS w k (yrs v fa m.toNatClampNeg))).toInt r.toInt ∧ rO3 S h0 S1 r (sgO S h0 (mnA S h0 m.toNatClampNeg) (voA S h0 x.toNatClampNeg) (shO S h0 p) w k S1)) (hV : mV v1) (hA : mA fa1) (hm : mX W1 v fa v1 fa1) (hq : aSg m.toInt (v 39).toInt x.toInt (v 40).toInt p.toInt (v 43).toInt w.toInt k.toInt (fa 9 x.toNatClampNeg).toInt (tldI v fa 0 x.toInt) (tldI v fa 2 x.toInt) (fa 26 p.toNatClampNeg).toInt (frI v fa m.toInt) (wrt v fa 0 (v 38).toInt (ltS w k (yrs v fa m.toNatClampNeg))).toInt r1.toInt ∧ rO2 v fa (v1, fa1) r1 (sgN v fa m x w k p (v1, fa1))) (hk : ∀ x ∈ ([] : List Nat), x ∉ W) (hk1 : ∀ x ∈ [38, 39, 40, 41, 42, 46, 2, 3, 4, 6, 8, 7, 9, 10, 11, 12, 13, 14, 15, 19, 16, 17, 18, 44], x ∉ W1) : r.toInt = r1.toInt ∧ lwI S1 h0 v1 fa1 := by
  obtain ⟨g1, t, g2, g3, hR⟩ := h
  obtain ⟨p1, p2⟩ := hp
  obtain ⟨q1, q2⟩ := hq
  have er : r.toInt = r1.toInt := by
    unfold aSg sgK sgY at p1 q1
    omega
  obtain ⟨z1, z2⟩ := hz_m hm hk1
  have bN : 0 ≤ (v 38).toInt ∧ (v 38).toInt ≤ 3000 := g2 38
  refine ⟨er, hI, hX.ty t, hV, hA, ?_⟩
  rcases p2 with ⟨n1, p2⟩ | ⟨n1, p2⟩
  · rcases q2 with ⟨m1, q2⟩ | ⟨m1, _, q2⟩
    · exact (by
      obtain ⟨S0, x0, x1, x2⟩ := p2
      exact RC_rf g1 t hR x1 (by decide) x0 x2 q2 hV hA)
    · exfalso
      omega
  · rcases q2 with ⟨m1, q2⟩ | ⟨m1, _, q2⟩
    · exfalso
      omega
    · unfold aSg sgK sgY at p1
      exact RC_sgn g1 t hR (by omega) (by omega) (by omega) (by omega) (by omega) p2 q2 (in_sub z1 (by decide)) (in_sub z2 (by decide)) hV hA
theorem lw_feed {W W1 : List Nat} {S S1 : oS} {h0 tp rw : Nat} {v v1 : Nat → Int32} {fa fa1 : Nat → Nat → Int32} {n r r1 : Int32} {b : Int64} (h : lwI S h0 v fa) (hI : oInv S1) (hX : oX W S S1) (htp : oP S h0 9 = some tp) (hrw : oP S tp 0 = some rw) (hp : gfd (oI S tp 1).toInt n.toInt b (oI S rw) r.toInt (oI S1 tp 1).toInt (oI S1 rw)) (hV : mV v1) (hA : mA fa1) (hm : mX W1 v fa v1 fa1) (hq : gfd (v 46).toInt n.toInt b (fa 44) r1.toInt (v1 46).toInt (fa1 44)) (hk : ∀ x ∈ W, x ∈ [801, 2107, 2160]) (hk1 : ∀ x ∈ [38, 39, 40, 43, 41, 42, 2, 3, 4, 6, 8, 7, 9, 10, 11, 12, 13, 14, 15, 19, 16, 17, 18, 20, 21, 25, 24, 22, 23, 26], x ∉ W1) : r.toInt = r1.toInt ∧ lwI S1 h0 v1 fa1 := by
  obtain ⟨g1, t, g2, g3, hR⟩ := h
  obtain ⟨z1, z2⟩ := hz_m hm hk1
  obtain ⟨er, g⟩ := RC_feed g1 t hR (hX.mono hk) htp hrw hp hq (in_sub z1 (by decide)) (in_sub z2 (by decide)) hV hA
  exact ⟨er, hI, hX.ty t, hV, hA, g⟩
theorem lw_act {W W1 : List Nat} {S S1 : oS} {h0 tp rw lw : Nat} {v v1 : Nat → Int32} {fa fa1 : Nat → Nat → Int32} {p d r r1 : Int32} (h : lwI S h0 v fa) (hI : oInv S1) (hX : oX W S S1) (htp : oP S h0 9 = some tp) (hrw : oP S tp 0 = some rw) (hlw : oP S h0 8 = some lw) (hp : gac (oI S h0 0).toInt (oI S lw 2).toInt (oI S tp 1).toInt p.toInt d.toInt ((cS (tC S tp rw) 5 0).1 : Int) (bI (cS (tC S tp rw) 5 0).2.1) r.toInt (oI S1 lw 2).toInt (oI S1 tp 1).toInt ∧ (1 ≤ r.toInt → (cS (tC S tp rw) 5 0).2.1 = true ∧ acO S lw p d (cS (tC S tp rw) 5 0).2.2 S1) ∧ (r.toInt < 1 → oX [801, 803, 804, 805, 2063, 2107] S S1)) (hV : mV v1) (hA : mA fa1) (hm : mX W1 v fa v1 fa1) (hq : gac (v 38).toInt (v 42).toInt (v 46).toInt p.toInt d.toInt ((mvS (mL fa) (cI (fa 44) (v 46).toNatClampNeg) 5 0).1 : Int) (bI (mvS (mL fa) (cI (fa 44) (v 46).toNatClampNeg) 5 0).2.1) r1.toInt (v1 42).toInt (v1 46).toInt ∧ (1 ≤ r1.toInt → acM v fa p d (v1, fa1)) ∧ (r1.toInt < 1 → ∀ k ∈ [19, 16, 17, 18], fa1 k = fa k)) (hk : ∀ x ∈ W, x ∈ [502, 801, 803, 804, 805, 2012, 2063, 2107, 5001]) (hk1 : ∀ x ∈ [38, 39, 40, 43, 41, 2, 3, 4, 6, 8, 7, 9, 10, 11, 12, 13, 14, 15, 20, 21, 25, 24, 22, 23, 26, 44], x ∉ W1) : r.toInt = r1.toInt ∧ lwI S1 h0 v1 fa1 := by
  obtain ⟨g1, t, g2, g3, hR⟩ := h
  obtain ⟨z1, z2⟩ := hz_m hm hk1
  obtain ⟨er, g⟩ := RC_act g1 t hR (hX.mono hk) htp hrw hlw hp hq (in_sub z1 (by decide)) (in_sub z2 (by decide)) hV hA
  exact ⟨er, hI, hX.ty t, hV, hA, g⟩
/-- at the start -/
theorem RC_start {S : oS} {o : Nat} (hV : mV (fun _ => 0)) (hA : mA (fun _ _ => 0)) (hI : oInv S) (to : oty S o 10) (h0 : oI S o 0 = 0) (h2 : oI S o 2 = 0) (h4 : oI S o 4 = 0) (h6 : oI S o 6 = 0) (h7 : oI S o 7 = 0) (ht : ∀ tp, oP S o 9 = some tp → oI S tp 1 = 0) (hl : ∀ lw, oP S o 8 = some lw → lawI S lw) : RC S o (fun _ => 0) (fun _ _ => 0) := by
  have t9 := (ro_e (p := 9) (kr := 8) hI to rfl rfl rfl).1
  have t8 := (ro_e (p := 8) (kr := 5) hI to rfl rfl rfl).1
  have no : ∀ j : Nat, ¬ j < (0 : Int32).toNatClampNeg := fun j hj => Nat.not_lt_zero j hj
  refine ⟨⟨by rw [h0], by rw [h2], by rw [h4], by rw [h6], by rw [h7]⟩, fun m hm => absurd hm (no m), fun m hm => absurd hm (no m), ⟨fun m hm => absurd hm (no m), fun m _ hm => absurd hm (no m)⟩, lawI_r (hl _ t8) rfl, ⟨by rw [ht _ t9], fun m hm => absurd hm (no m)⟩, fun m hm => absurd hm (no m), fun m hm => absurd hm (no m), fun m hm => absurd hm (no m), hV, hA⟩
theorem ao_of {C : String} {s : State} (h : va_AO C s) : ∃ cA : ClassId, ArrOfT s cA (.object C) ∧ va_RA s cA (.object C) := by
  obtain ⟨comp, c, k, h1, h2, h3, h4, h5⟩ := Cond.arrayOver_spec h
  exact ⟨c, fun N z => ⟨(fun k h => by cases h), k, h3, comp, h4⟩, k, comp, h3, h4, h1, h5⟩
theorem ac_of {args : Array Value} {s : State} {ty : FieldType} (h : (Cond.arrayClass ty).before args s = true) : ∃ cA : ClassId, ArrOfT s cA ty ∧ s.vm.findClass ("[" ++ ty.toString) = some cA := by
  obtain ⟨cA, kA, comp, h1, h2, h3⟩ := Cond.arrayClass_spec h
  exact ⟨cA, fun n z => ⟨fun k h => (by cases h), kA, h2, comp, h3⟩, h1⟩
section
variable {W W1 : List Nat} {S u Z : oS} {o a n : Nat} {v z : Nat → Int32} {fa fz : Nat → Nat → Int32} {r r1 : Int32}
theorem rfO_x (hI : oInv S) (to : oty S o 10) (h : rfO S o u r) : oX [2107] S u := by
  have tr := (ro_e (p := 15) (kr := 107) hI to rfl rfl rfl).2
  rw [show u = _ from h]
  exact oX.I (k := 107) (key := 2107) tr.2 rfl (List.mem_singleton.mpr rfl)
theorem RX_rf (hI : oInv S) (to : oty S o 10) (hn : (oI S o 6).toInt = (v 43).toInt) (hA : mA fa) (ho : rfO S o u r) (hm : sm2 v fa (z, fz) r1) (h : RX S o v fa) : RX u o z fz := RX_fr (rfO_x hI to ho) hI to (by decide) hn hA (hm.1 43 rfl) (fun k hk => hm.2.1 k (by revert k; decide) (by revert k; decide)) h
theorem RX_st {S : oS} {o : Nat} : RX S o (fun _ => 0) (fun _ _ => 0) := by
  have no : ∀ j : Nat, ¬ j < (0 : Int32).toNatClampNeg := fun j hj => Nat.not_lt_zero j hj
  exact ⟨fun a ha => absurd ha (no a), ⟨fun a _ ha => absurd ha (no a), fun a _ ha => absurd ha (no a), fun a _ ha => absurd ha (no a), fun a _ _ _ ha => absurd ha (no a)⟩, fun _ _ => ⟨rfl, rfl, rfl, rfl, rfl⟩⟩
theorem aAo_e {ng a x r r1 : Int} (h : aAo ng a x r) (g : aAo ng a x r1) : r = r1 := by
  unfold aAo at h g
  omega
/-- the extras behind sign -/
theorem RX_sg {m x w k p : Int32} {ma va : Nat} {sh : Option Nat} {A B : Prop} (hR : RC S o v fa) (hI : oInv S) (to : oty S o 10) (hA : mA fa) (hV : mV v) (hm : mX W1 v fa z fz) (hk1 : ∀ k ∈ [27, 29, 30, 31, 32, 33, 34, 37, 35, 36], k ∉ W1) (hp : A ∧ rO3 S o u r (sgO S o ma va sh w k u)) (hq : B ∧ rO2 v fa (z, fz) r1 (sgN v fa m x w k p (z, fz))) (er : r.toInt = r1.toInt) (h : RX S o v fa) : RX u o z fz := by
  have hn := (RC.n hR).2.2.2.1
  rcases hp.2 with ⟨n1, S0, i0, x0, p2⟩ | ⟨n1, p2⟩
  · rcases hq.2 with ⟨m1, q2⟩ | ⟨m1, _, q2⟩
    · have h0 := RX_fr (u := S0) (z := v) (fz := fa) x0 hI to (by decide) hn hA rfl (fun _ _ => rfl) h
      exact RX_rf i0 (x0.ty to) (by rw [x0.i (i := 6) to (by decide)]; exact hn) hA p2 q2 h0
    · exfalso; omega
  · rcases hq.2 with ⟨m1, q2⟩ | ⟨m1, _, q2⟩
    · exfalso; omega
    · exact RX_sgn hI to hn hA hV p2 q2 (fun k hk2 => hm.2 k (hk1 k hk2)) h
/-- the row behind put, check -/
theorem rRw_pu {y : Int32} (hI : oInv S) (to : oty S o 10) (hV : mV v) (hp : aPu (oI S o 14).toInt r.toInt ∧ rOo S o u r (u = setI (setI S (oQ S o 13) (oI S o 14).toNatClampNeg y) o 14 r)) (hq : aPu (v 62).toInt r1.toInt ∧ rO2 v fa (z, fz) r1 ((z 62).toInt = (v 62).toInt + 1 ∧ fz 61 = upd (fa 61) (v 62).toNatClampNeg y)) (h : rRw S o v fa) : rRw u o z fz := by
  obtain ⟨p1, p2⟩ := hp
  obtain ⟨q1, q2⟩ := hq
  have h1 := h.1
  unfold aPu at p1 q1
  have b0 : 0 ≤ (v 62).toInt := (hV 62).1
  rcases p2 with ⟨n1, p2⟩ | ⟨n1, p2⟩
  · rcases q2 with ⟨m1, q2⟩ | ⟨m1, _, q2⟩
    · exact rRw_fr (rfO_x hI to p2) hI to (by decide) (q2.1 62 rfl) (q2.2.1 61 rfl (by decide)) h
    · exfalso; omega
  · rcases q2 with ⟨m1, q2⟩ | ⟨m1, _, q2⟩
    · exfalso; omega
    · exact rRw_put hI to hV h p2 (by omega) q2.1 q2.2
theorem pu_e {a b r r1 : Int} (h : aPu a r) (g : aPu b r1) (e : a = b) : r = r1 := by
  unfold aPu at h g
  omega
theorem rRw_ck {x j k : Int} (hI : oInv S) (to : oty S o 10) (hp : (bSt (v 40).toInt (v 38).toInt x j k ∧ rfO S o u r) ∨ (¬ bSt (v 40).toInt (v 38).toInt x j k ∧ (oI u o 14).toInt = 0)) (hq : (bSt (v 40).toInt (v 38).toInt x j k ∧ sm1 v fa (z, fz) r1) ∨ (¬ bSt (v 40).toInt (v 38).toInt x j k ∧ (z 62).toInt = 0 ∧ fz 0 = fa 0)) (h : rRw S o v fa) : rRw u o z fz := by
  rcases hp with ⟨b, p2⟩ | ⟨b, p2⟩
  · rcases hq with ⟨-, q2⟩ | ⟨b2, -⟩
    · have q3 := sm2_1 q2
      exact rRw_fr (rfO_x hI to p2) hI to (by decide) (q3.1 62 rfl) (q3.2.1 61 rfl (by decide)) h
    · exact absurd b b2
  · rcases hq with ⟨b2, -⟩ | ⟨-, q2, -⟩
    · exact absurd b2 b
    · exact rRw_0 p2 q2
end

/-- the miles of both are one, and in their bounds -/
def rMi (S : oS) (o : Nat) (_ : Nat → Int32) (fa : Nat → Nat → Int32) : Prop := (∀ sea ml, oP S o 10 = some sea → oP S sea 0 = some ml → oI S ml = fa 1) ∧ ∀ i, 0 ≤ (fa 1 i).toInt ∧ (fa 1 i).toInt ≤ 9999
section
variable {W : List Nat} {S u : oS} {o : Nat} {v z : Nat → Int32} {fa fz : Nat → Nat → Int32}
theorem rMi_fr (hX : oX W S u) (hI : oInv S) (t : oty S o 10) (hk : ∀ x ∈ [1010, 700, 2200], x ∉ W) (hm : fz 1 = fa 1) (h : rMi S o v fa) : rMi u o z fz := by
  refine ⟨fun sea ml h1 h2 => ?_, fun i => by rw [hm]; exact h.2 i⟩
  rw [hX.p (i := 10) t (hk 1010 (by decide))] at h1
  have t1 : oty S sea 7 := oInv.rd hI t.2 h1 rfl rfl
  rw [hX.p (i := 0) t1 (hk 700 (by decide))] at h2
  have t2 : oty S ml 200 := oInv.rd hI t1.2 h2 rfl rfl
  rw [hX.f t2 (fun _ => hk 2200 (by decide)), hm]
  exact h.1 sea ml h1 h2
theorem rMi_ml {a b x r r1 : Int32} (hX : oX W S u) (hI : oInv S) (t : oty S o 10) (hk : ∀ x ∈ [1010, 700], x ∉ W) (hp : ∀ sea ml, oP S o 10 = some sea → oP S sea 0 = some ml → gml (oI S ml) a b x r (oI u ml)) (hq : gml (fa 1) a b x r1 (fz 1)) (h : rMi S o v fa) : rMi u o z fz := by
  refine ⟨fun sea ml h1 h2 => ?_, fun i => ?_⟩
  · rw [hX.p (i := 10) t (hk 1010 (by decide))] at h1
    have t1 : oty S sea 7 := oInv.rd hI t.2 h1 rfl rfl
    rw [hX.p (i := 0) t1 (hk 700 (by decide))] at h2
    have key := hp sea ml h1 h2
    rw [h.1 sea ml h1 h2] at key
    exact (gml_det key hq).2
  · rcases hq with ⟨-, e⟩ | ⟨-, x0, x9, i1, i2, -, -, -, e⟩
    · rw [e]; exact h.2 i
    · rw [e]
      unfold upd
      split
      · exact ⟨x0, x9⟩
      · split
        · exact ⟨x0, x9⟩
        · exact h.2 i
theorem rMi_st (hl : ∀ sea ml, oP S o 10 = some sea → oP S sea 0 = some ml → oI S ml = fun _ => 0) : rMi S o (fun _ => 0) (fun _ _ => 0) := ⟨hl, fun _ => (show 0 ≤ (0 : Int32).toInt ∧ (0 : Int32).toInt ≤ 9999 by decide)⟩
end
theorem boM {S : oS} {o : Nat} {v : Nat → Int32} {fa : Nat → Nat → Int32} (h : RC S o v fa) : ∀ a, a < (v 43).toNatClampNeg → (fa 20 a).toNatClampNeg < (v 39).toNatClampNeg ∧ (0 ≤ (fa 24 a).toInt → (fa 20 (fa 24 a).toNatClampNeg).toNatClampNeg < (v 39).toNatClampNeg) := fun a ha => by
  obtain ⟨⟨m1, m2, -⟩, -, -, h3, -⟩ := RC.a h ha
  refine ⟨ni_lt m1 m2, fun h0 => ?_⟩
  have e : (fa 24 a).toNatClampNeg = (fa 24 a).toInt.toNat := rfl
  have hl : (fa 24 a).toNatClampNeg < (v 43).toNatClampNeg := by
    rcases h3 with h3 | h3
    · omega
    · omega
  obtain ⟨⟨n1, n2, -⟩, -⟩ := RC.a h hl
  exact ni_lt n1 n2
theorem lx_advance {W W1 : List Nat} {S S1 : oS} {h0 : Nat} {v v1 : Nat → Int32} {fa fa1 : Nat → Nat → Int32} {a s r r1 : Int32} (h : lwI S h0 v fa) (hE : RX S h0 v fa) (hI : oInv S1) (hX : oX W S S1) (hp : aAd (v 43).toInt a.toInt (fa 27 a.toNatClampNeg).toInt (stF v fa a.toNatClampNeg (v 38).toInt (v 38).toInt) s.toInt r.toInt ∧ rOo S h0 S1 r (S1 = setI S (agA S h0 a.toNatClampNeg) 9 s)) (hV : mV v1) (hA : mA fa1) (hm : mX W1 v fa v1 fa1) (hq : aAd (v 43).toInt a.toInt (fa 27 a.toNatClampNeg).toInt (stF v fa a.toNatClampNeg (v 38).toInt (v 38).toInt) s.toInt r1.toInt ∧ rO2 v fa (v1, fa1) r1 (fa1 27 = upd (fa 27) a.toNatClampNeg s)) (hk : ∀ x ∈ keysC, x ∉ W) (hk1 : ∀ x ∈ fldC ++ rowC, x ∉ W1) (hk2 : ∀ x ∈ [28, 29, 30, 31, 32, 33, 34, 37, 35, 36], x ∉ W1) : r.toInt = r1.toInt ∧ lwI S1 h0 v1 fa1 ∧ RX S1 h0 v1 fa1 := by
  have hJ := lwI_m (lwI_o h hI hX hk) hV hA hm hk1
  obtain ⟨g1, t, g2, g3, hR⟩ := h
  obtain ⟨p1, p2⟩ := hp
  obtain ⟨q1, q2⟩ := hq
  have er : r.toInt = r1.toInt := by
    unfold aAd at p1 q1
    omega
  have hn := (RC.n hR).2.2.2.1
  have hz : v1 43 = v 43 := hm.1 43 (hk1 _ (by decide))
  refine ⟨er, hJ, ?_⟩
  rcases p2 with ⟨n1, p2⟩ | ⟨n1, p2⟩
  · rcases q2 with ⟨m1, q2⟩ | ⟨m1, _, q2⟩
    · exact RX_rf g1 t hn g3 p2 q2 hE
    · exfalso
      omega
  · rcases q2 with ⟨m1, q2⟩ | ⟨m1, _, q2⟩
    · exfalso
      omega
    · unfold aAd at p1
      have ha : a.toNatClampNeg < (v 43).toNatClampNeg := ni_lt (by omega) (by omega)
      have hj : ∀ a', a' < (v 43).toNatClampNeg → agA S h0 a' = agA S h0 a.toNatClampNeg → a' = a.toNatClampNeg := fun a' ha' e => RC.inj hR ha' ha e
      exact RX_adv g1 t hn g3 hj ha p2 (by omega) hz q2 (fun k hk hne => hm.2 k (hk2 k (by revert k; decide))) hE
theorem lx_sold {W W1 : List Nat} {S S1 : oS} {h0 : Nat} {v v1 : Nat → Int32} {fa fa1 : Nat → Nat → Int32} {a s r r1 : Int32} (h : lwI S h0 v fa) (hE : RX S h0 v fa) (hI : oInv S1) (hX : oX W S S1) (hp : aSo (v 43).toInt a.toInt (fa 27 a.toNatClampNeg).toInt (fa 28 a.toNatClampNeg).toInt s.toInt r.toInt ∧ rOo S h0 S1 r (S1 = setI S (agA S h0 a.toNatClampNeg) 10 s)) (hV : mV v1) (hA : mA fa1) (hm : mX W1 v fa v1 fa1) (hq : aSo (v 43).toInt a.toInt (fa 27 a.toNatClampNeg).toInt (fa 28 a.toNatClampNeg).toInt s.toInt r1.toInt ∧ rO2 v fa (v1, fa1) r1 (fa1 28 = upd (fa 28) a.toNatClampNeg s)) (hk : ∀ x ∈ keysC, x ∉ W) (hk1 : ∀ x ∈ fldC ++ rowC, x ∉ W1) (hk2 : ∀ x ∈ [27, 29, 30, 31, 32, 33, 34, 37, 35, 36], x ∉ W1) : r.toInt = r1.toInt ∧ lwI S1 h0 v1 fa1 ∧ RX S1 h0 v1 fa1 := by
  have hJ := lwI_m (lwI_o h hI hX hk) hV hA hm hk1
  obtain ⟨g1, t, g2, g3, hR⟩ := h
  obtain ⟨p1, p2⟩ := hp
  obtain ⟨q1, q2⟩ := hq
  have er : r.toInt = r1.toInt := by
    unfold aSo at p1 q1
    omega
  have hn := (RC.n hR).2.2.2.1
  have hz : v1 43 = v 43 := hm.1 43 (hk1 _ (by decide))
  refine ⟨er, hJ, ?_⟩
  rcases p2 with ⟨n1, p2⟩ | ⟨n1, p2⟩
  · rcases q2 with ⟨m1, q2⟩ | ⟨m1, _, q2⟩
    · exact RX_rf g1 t hn g3 p2 q2 hE
    · exfalso
      omega
  · rcases q2 with ⟨m1, q2⟩ | ⟨m1, _, q2⟩
    · exfalso
      omega
    · unfold aSo at p1
      have ha : a.toNatClampNeg < (v 43).toNatClampNeg := ni_lt (by omega) (by omega)
      have hj : ∀ a', a' < (v 43).toNatClampNeg → agA S h0 a' = agA S h0 a.toNatClampNeg → a' = a.toNatClampNeg := fun a' ha' e => RC.inj hR ha' ha e
      exact RX_sold g1 t hn g3 hj ha p2 (by omega) hz q2 (fun k hk hne => hm.2 k (hk2 k (by revert k; decide))) hE
theorem lx_fine {W W1 : List Nat} {S S1 : oS} {h0 : Nat} {v v1 : Nat → Int32} {fa fa1 : Nat → Nat → Int32} {a d s rd r r1 : Int32} (h : lwI S h0 v fa) (hE : RX S h0 v fa) (hI : oInv S1) (hX : oX W S S1) (hp : aFi (v 43).toInt a.toInt (fa 26 a.toNatClampNeg).toInt (fa 25 a.toNatClampNeg).toInt d.toInt s.toInt (v 38).toInt (fa 30 a.toNatClampNeg).toInt r.toInt ∧ rOo S h0 S1 r (fiO S (agA S h0 a.toNatClampNeg) d s rd r S1)) (hV : mV v1) (hA : mA fa1) (hm : mX W1 v fa v1 fa1) (hq : aFi (v 43).toInt a.toInt (fa 26 a.toNatClampNeg).toInt (fa 25 a.toNatClampNeg).toInt d.toInt s.toInt (v 38).toInt (fa 30 a.toNatClampNeg).toInt r1.toInt ∧ rO2 v fa (v1, fa1) r1 (fiN v fa a.toNatClampNeg d s rd (v1, fa1))) (hrd : 0 ≤ rd.toInt ∧ rd.toInt ≤ 1) (hk : ∀ x ∈ keysC, x ∉ W) (hk1 : ∀ x ∈ fldC ++ rowC, x ∉ W1) (hk2 : ∀ x ∈ [27, 28, 29, 31, 32, 35, 36], x ∉ W1) : r.toInt = r1.toInt ∧ lwI S1 h0 v1 fa1 ∧ RX S1 h0 v1 fa1 := by
  have hJ := lwI_m (lwI_o h hI hX hk) hV hA hm hk1
  obtain ⟨g1, t, g2, g3, hR⟩ := h
  obtain ⟨p1, p2⟩ := hp
  obtain ⟨q1, q2⟩ := hq
  have er : r.toInt = r1.toInt := by
    unfold aFi at p1 q1
    omega
  have hn := (RC.n hR).2.2.2.1
  have hz : v1 43 = v 43 := hm.1 43 (hk1 _ (by decide))
  refine ⟨er, hJ, ?_⟩
  rcases p2 with ⟨n1, p2⟩ | ⟨n1, p2⟩
  · rcases q2 with ⟨m1, q2⟩ | ⟨m1, _, q2⟩
    · exact RX_rf g1 t hn g3 p2 q2 hE
    · exfalso
      omega
  · rcases q2 with ⟨m1, q2⟩ | ⟨m1, _, q2⟩
    · exfalso
      omega
    · unfold aFi at p1
      have ha : a.toNatClampNeg < (v 43).toNatClampNeg := ni_lt (by omega) (by omega)
      have hj : ∀ a', a' < (v 43).toNatClampNeg → agA S h0 a' = agA S h0 a.toNatClampNeg → a' = a.toNatClampNeg := fun a' ha' e => RC.inj hR ha' ha e
      exact RX_fine g1 t hn g3 (fun m m' hm1 hm2 e => RC.inj hR hm1 hm2 e) ha (by omega) p2 q2 (by omega) hrd hz (fun k hk => hm.2 k (hk2 k hk)) hE
theorem lx_read {W W1 : List Nat} {S S1 : oS} {h0 : Nat} {v v1 : Nat → Int32} {fa fa1 : Nat → Nat → Int32} {a i r r1 : Int32} (h : lwI S h0 v fa) (hE : RX S h0 v fa) (hI : oInv S1) (hX : oX W S S1) (hp : aRe (v 43).toInt a.toInt (fa 30 a.toNatClampNeg).toInt i.toInt (fa 37 (6 * a.toNatClampNeg + i.toNatClampNeg)).toInt (fa 33 (6 * a.toNatClampNeg + i.toNatClampNeg)).toInt (v 38).toInt r.toInt ∧ rOo S h0 S1 r (S1 = setI S (fnA S (agA S h0 a.toNatClampNeg) i.toNatClampNeg) 2 1)) (hV : mV v1) (hA : mA fa1) (hm : mX W1 v fa v1 fa1) (hq : aRe (v 43).toInt a.toInt (fa 30 a.toNatClampNeg).toInt i.toInt (fa 37 (6 * a.toNatClampNeg + i.toNatClampNeg)).toInt (fa 33 (6 * a.toNatClampNeg + i.toNatClampNeg)).toInt (v 38).toInt r1.toInt ∧ rO2 v fa (v1, fa1) r1 (fa1 37 = upd (fa 37) (6 * a.toNatClampNeg + i.toNatClampNeg) 1)) (hk : ∀ x ∈ keysC, x ∉ W) (hk1 : ∀ x ∈ fldC ++ rowC, x ∉ W1) (hk2 : ∀ x ∈ [27, 28, 29, 30, 31, 32, 33, 34, 35, 36], x ∉ W1) : r.toInt = r1.toInt ∧ lwI S1 h0 v1 fa1 ∧ RX S1 h0 v1 fa1 := by
  have hJ := lwI_m (lwI_o h hI hX hk) hV hA hm hk1
  obtain ⟨g1, t, g2, g3, hR⟩ := h
  obtain ⟨p1, p2⟩ := hp
  obtain ⟨q1, q2⟩ := hq
  have er : r.toInt = r1.toInt := by
    unfold aRe at p1 q1
    omega
  have hn := (RC.n hR).2.2.2.1
  have hz : v1 43 = v 43 := hm.1 43 (hk1 _ (by decide))
  refine ⟨er, hJ, ?_⟩
  rcases p2 with ⟨n1, p2⟩ | ⟨n1, p2⟩
  · rcases q2 with ⟨m1, q2⟩ | ⟨m1, _, q2⟩
    · exact RX_rf g1 t hn g3 p2 q2 hE
    · exfalso
      omega
  · rcases q2 with ⟨m1, q2⟩ | ⟨m1, _, q2⟩
    · exfalso
      omega
    · unfold aRe at p1
      have ha : a.toNatClampNeg < (v 43).toNatClampNeg := ni_lt (by omega) (by omega)
      have hj : ∀ a', a' < (v 43).toNatClampNeg → agA S h0 a' = agA S h0 a.toNatClampNeg → a' = a.toNatClampNeg := fun a' ha' e => RC.inj hR ha' ha e
      exact RX_read g1 t hn g3 ha (ni_lt (by omega) (by omega)) p2 hz q2 (fun k hk hne => hm.2 k (hk2 k (by revert k; decide))) hE
theorem mu_b {x y : Int32} {A B : Int} (hx : 1 ≤ x.toInt ∧ x.toInt ≤ A) (hy : 1 ≤ y.toInt ∧ y.toInt ≤ B) (hA : A ≤ 999) (hB : B ≤ 99) : 0 ≤ (x * y).toInt ∧ (x * y).toInt ≤ 98901 := by
  have h1 : 0 ≤ x.toInt * y.toInt := Int.mul_nonneg (by omega) (by omega)
  have h2 : x.toInt * y.toInt ≤ 999 * y.toInt := Int.mul_le_mul_of_nonneg_right (by omega) (by omega)
  have e : (x * y).toInt = x.toInt * y.toInt := mu_i rfl rfl (by omega) (by omega)
  omega
theorem lx_rations {W W1 : List Nat} {S S1 : oS} {h0 : Nat} {v v1 : Nat → Int32} {fa fa1 : Nat → Nat → Int32} {a n k r r1 : Int32} (h : lwI S h0 v fa) (hE : RX S h0 v fa) (hI : oInv S1) (hX : oX W S S1) (hp : aRa (v 43).toInt a.toInt n.toInt k.toInt (fa 32 a.toNatClampNeg).toInt (fa 31 a.toNatClampNeg).toInt r.toInt ∧ rOo S h0 S1 r (raO S (agA S h0 a.toNatClampNeg) (oI S h0 0) (n * k) r S1)) (hV : mV v1) (hA : mA fa1) (hm : mX W1 v fa v1 fa1) (hq : aRa (v 43).toInt a.toInt n.toInt k.toInt (fa 32 a.toNatClampNeg).toInt (fa 31 a.toNatClampNeg).toInt r1.toInt ∧ rO2 v fa (v1, fa1) r1 (raN v fa a.toNatClampNeg (n * k) r1 (v1, fa1))) (hk : ∀ x ∈ keysC, x ∉ W) (hk1 : ∀ x ∈ fldC ++ rowC, x ∉ W1) (hk2 : ∀ x ∈ [27, 28, 29, 30, 33, 34, 37], x ∉ W1) : r.toInt = r1.toInt ∧ lwI S1 h0 v1 fa1 ∧ RX S1 h0 v1 fa1 := by
  have hJ := lwI_m (lwI_o h hI hX hk) hV hA hm hk1
  obtain ⟨g1, t, g2, g3, hR⟩ := h
  obtain ⟨p1, p2⟩ := hp
  obtain ⟨q1, q2⟩ := hq
  have er : r.toInt = r1.toInt := by
    unfold aRa at p1 q1
    omega
  have hn := (RC.n hR).2.2.2.1
  have hz : v1 43 = v 43 := hm.1 43 (hk1 _ (by decide))
  refine ⟨er, hJ, ?_⟩
  rcases p2 with ⟨n1, p2⟩ | ⟨n1, p2⟩
  · rcases q2 with ⟨m1, q2⟩ | ⟨m1, _, q2⟩
    · exact RX_rf g1 t hn g3 p2 q2 hE
    · exfalso
      omega
  · rcases q2 with ⟨m1, q2⟩ | ⟨m1, _, q2⟩
    · exfalso
      omega
    · unfold aRa at p1
      have ha : a.toNatClampNeg < (v 43).toNatClampNeg := ni_lt (by omega) (by omega)
      have hj : ∀ a', a' < (v 43).toNatClampNeg → agA S h0 a' = agA S h0 a.toNatClampNeg → a' = a.toNatClampNeg := fun a' ha' e => RC.inj hR ha' ha e
      have sb := (RX_b hE a.toNatClampNeg).2.2
      exact RX_rat g1 t hn g3 (fun m m' hm1 hm2 e => RC.inj hR hm1 hm2 e) ha (by omega) p2 q2 (RC.n hR).1 rfl (mu_b (A := 999) (B := 99) (by omega) (by omega) (by decide) (by decide)) er (by omega) hz (fun k hk => hm.2 k (hk2 k hk)) hE
theorem lx_allot {W W1 : List Nat} {S S1 : oS} {h0 : Nat} {v v1 : Nat → Int32} {fa fa1 : Nat → Nat → Int32} {a s r r1 : Int32} (h : lwI S h0 v fa) (hE : RX S h0 v fa) (hI : oInv S1) (hX : oX W S S1) (hp : aAl (v 43).toInt a.toInt (fa 29 a.toNatClampNeg).toInt (gonI v fa a.toNatClampNeg) s.toInt (alQ (fa 22 a.toNatClampNeg).toInt (alW v fa a.toNatClampNeg s)) r.toInt ∧ rO3 S h0 S1 r (∃ S0, oInv S0 ∧ oX [2108, 5001] S S0 ∧ S1 = setI S0 (agA S h0 a.toNatClampNeg) 11 s)) (hV : mV v1) (hA : mA fa1) (hm : mX W1 v fa v1 fa1) (hq : aAl (v 43).toInt a.toInt (fa 29 a.toNatClampNeg).toInt (gonI v fa a.toNatClampNeg) s.toInt (alQ (fa 22 a.toNatClampNeg).toInt (alW v fa a.toNatClampNeg s)) r1.toInt ∧ rO2 v fa (v1, fa1) r1 (fa1 29 = upd (fa 29) a.toNatClampNeg s)) (hk : ∀ x ∈ keysC, x ∉ W) (hk1 : ∀ x ∈ fldC ++ rowC, x ∉ W1) (hk2 : ∀ x ∈ [27, 28, 30, 31, 32, 33, 34, 37, 35, 36], x ∉ W1) : r.toInt = r1.toInt ∧ lwI S1 h0 v1 fa1 ∧ RX S1 h0 v1 fa1 := by
  have hJ := lwI_m (lwI_o h hI hX hk) hV hA hm hk1
  obtain ⟨g1, t, g2, g3, hR⟩ := h
  obtain ⟨p1, p2⟩ := hp
  obtain ⟨q1, q2⟩ := hq
  have er : r.toInt = r1.toInt := by
    unfold aAl at p1 q1
    omega
  have hn := (RC.n hR).2.2.2.1
  have hz : v1 43 = v 43 := hm.1 43 (hk1 _ (by decide))
  refine ⟨er, hJ, ?_⟩
  rcases p2 with ⟨n1, S0, i0, x0, p2⟩ | ⟨n1, S0, i0, x0, p2⟩
  · rcases q2 with ⟨m1, q2⟩ | ⟨m1, _, q2⟩
    · have e0 := RX_fr (u := S0) (z := v) (fz := fa) x0 g1 t (by decide) hn g3 rfl (fun _ _ => rfl) hE
      exact RX_rf i0 (x0.ty t) (by rw [x0.i (i := 6) t (by decide)]; exact hn) g3 p2 q2 e0
    · exfalso
      omega
  · rcases q2 with ⟨m1, q2⟩ | ⟨m1, _, q2⟩
    · exfalso
      omega
    · unfold aAl at p1
      have ha : a.toNatClampNeg < (v 43).toNatClampNeg := ni_lt (by omega) (by omega)
      have ea := agA_o x0 g1 t (by decide) (by decide)
      have e0 := RX_fr (u := S0) (z := v) (fz := fa) x0 g1 t (by decide) hn g3 rfl (fun _ _ => rfl) hE
      exact RX_allot i0 (x0.ty t) (by rw [x0.i (i := 6) t (by decide)]; exact hn) g3 (fun a' ha' e => RC.inj hR ha' ha (by rw [ea, ea] at e; exact e)) ha (by rw [ea]; exact p2) (by omega) hz q2 (fun k hk hne => hm.2 k (hk2 k (by revert k; decide))) e0
def lwK (S : oS) (h0 : Nat) (v : Nat → Int32) (fa : Nat → Nat → Int32) : Prop := lwI S h0 v fa ∧ RX S h0 v fa ∧ rRw S h0 v fa ∧ rMi S h0 v fa ∧ rGr S h0 v fa
