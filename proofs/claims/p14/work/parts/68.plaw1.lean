

/-- the reference's addresses -/
def mAd (g0 : Nat) (pq : Nat → Nat) : List Nat := [g0, pq 0, pq 1, pq 2, pq 3, pq 4, pq 5, pq 6, pq 7, pq 8, pq 9, pq 10, pq 11, pq 12, pq 13, pq 14, pq 15, pq 16, pq 17, pq 18, pq 19, pq 20, pq 21, pq 22, pq 23, pq 24, pq 25, pq 26, pq 27, pq 28, pq 29, pq 30, pq 31, pq 32, pq 33, pq 34, pq 35, pq 36, pq 37, pq 44, pq 45, pq 52, pq 53, pq 54, pq 55, pq 56, pq 57, pq 61]
theorem mAd_of {g0 : Nat} {pq : Nat → Nat} {cp : Nat → ClassId} {v : Nat → Int32} {fa : Nat → Nat → Int32} {k : Nat} {x : Nat × va_E} (h : (mW g0 pq cp v fa)[k]? = some x) : x.1 ∈ mAd g0 pq := by
  have e : mAd g0 pq = (mW g0 pq cp v fa).map (fun y => y.1) := rfl
  rw [e]
  exact List.mem_map.mpr ⟨x, List.mem_of_getElem? h, rfl⟩
/-- what holds of both: the same day, the same tape, as many acts -/
def lwR (S : oS) (h0 : Nat) (v : Nat → Int32) (fa : Nat → Nat → Int32) : Prop := (oI S h0 0).toInt = (v 38).toInt ∧ (∀ tp rw, oP S h0 9 = some tp → oP S tp 0 = some rw → (oI S tp 1).toInt = (v 46).toInt ∧ ∀ j, j < (v 46).toNatClampNeg → oI S rw j = fa 44 j) ∧ ∀ lw, oP S h0 8 = some lw → (oI S lw 2).toInt = (v 42).toInt
/-- what holds of both between two calls: each in its bounds, and the words above -/
def lwI (S : oS) (h0 : Nat) (v : Nat → Int32) (fa : Nat → Nat → Int32) : Prop := oInv S ∧ oty S h0 10 ∧ mV v ∧ mA fa ∧ lwR S h0 v fa
def lwH (D : va_G) (A : Nat → Prop) (cq cp : Nat → ClassId) (g0 : Nat) (pq : Nat → Nat) (S : oS) (v : Nat → Int32) (fa : Nat → Nat → Int32) (H : Heap) : Prop := va_P D vwCl (oW cq S) H ∧ va_D A (oW cq S) ∧ va_P D vwCl (mW g0 pq cp v fa) H ∧ va_D A (mW g0 pq cp v fa) ∧ ∀ a, a ∈ oL S → a ∉ mAd g0 pq
theorem oW_mem {cq : Nat → ClassId} {S : oS} {k : Nat} {x : Nat × va_E} (h : (oW cq S)[k]? = some x) : x.1 ∈ oL S := by
  obtain ⟨a, ha, e⟩ := List.mem_map.mp (List.mem_of_getElem? h : x ∈ va_pl (oL S) (oE cq S))
  rw [← e]
  exact ha
theorem lw_lt {D : va_G} {cp : Nat → ClassId} {g0 : Nat} {pq : Nat → Nat} {v : Nat → Int32} {fa : Nat → Nat → Int32} {H : Heap} (hP : va_P D vwCl (mW g0 pq cp v fa) H) {a : Nat} (h : a ∈ mAd g0 pq) : a < H.size := by
  have e : mAd g0 pq = (mW g0 pq cp v fa).map (fun y => y.1) := rfl
  rw [e] at h
  obtain ⟨x, hx, rfl⟩ := List.mem_map.mp h
  obtain ⟨k, hk⟩ := List.getElem?_of_mem hx
  exact (hP k x hk).lt
/-- behind a call of the office -/
theorem lwH_o {D : va_G} {A : Nat → Prop} {cq cp : Nat → ClassId} {g0 : Nat} {pq : Nat → Nat} {S S1 : oS} {v : Nat → Int32} {fa : Nat → Nat → Int32} {H H1 : Heap} (h : lwH D A cq cp g0 pq S v fa H) (hF : ∀ q, va_A (oW cq S) H.size q → A q) (hk : ∀ q : Nat, q < H.size → ¬ va_A (oW cq S) H.size q → H1[q]? = H[q]?) (hP : va_P D vwCl (oW cq S1) H1) (hD : va_D (va_A (oW cq S) H.size) (oW cq S1)) : lwH D A cq cp g0 pq S1 v fa H1 := by
  obtain ⟨h1, h2, h3, h4, h5⟩ := h
  have nin : ∀ a, a ∈ mAd g0 pq → ¬ va_A (oW cq S) H.size a := fun a ha q => by
    rcases q with ⟨k, e, hk⟩ | q
    · exact h5 a (oW_mem hk) ha
    · exact absurd (lw_lt h3 ha) (Nat.not_lt.mpr q)
  refine ⟨hP, hD.weaken (fun _ _ _ g => hF _ g), h3.kept (fun k x hx => hk x.1 (h3 k x hx).lt (nin _ (mAd_of hx))), h4, fun a ha hm => ?_⟩
  obtain ⟨k, hk2⟩ := va_pl_get (X := []) (f := oE cq S1) ha
  exact nin a hm (hD.2 k _ hk2)
/-- behind a call of the reference -/
theorem lwH_m {D : va_G} {A : Nat → Prop} {cq cp : Nat → ClassId} {g0 : Nat} {pq : Nat → Nat} {S : oS} {v v1 : Nat → Int32} {fa fa1 : Nat → Nat → Int32} {H H1 : Heap} (h : lwH D A cq cp g0 pq S v fa H) (hF : ∀ q, va_A (mW g0 pq cp v fa) H.size q → A q) (hk : ∀ q : Nat, q < H.size → ¬ va_A (mW g0 pq cp v fa) H.size q → H1[q]? = H[q]?) (hP : va_P D vwCl (mW g0 pq cp v1 fa1) H1) (hD : va_D (va_A (mW g0 pq cp v fa) H.size) (mW g0 pq cp v1 fa1)) : lwH D A cq cp g0 pq S v1 fa1 H1 := by
  obtain ⟨h1, h2, h3, h4, h5⟩ := h
  refine ⟨h1.kept (fun k x hx => hk x.1 (h1 k x hx).lt (fun q => ?_)), h2, hP, hD.weaken (fun _ _ _ g => hF _ g), h5⟩
  rcases q with ⟨j, e, hj⟩ | q
  · exact h5 x.1 (oW_mem hx) (mAd_of (x := (x.1, e)) hj)
  · exact absurd (h1 k x hx).lt (Nat.not_lt.mpr q)
theorem lwH_p {D : va_G} {A : Nat → Prop} {cq cp : Nat → ClassId} {g0 : Nat} {pq : Nat → Nat} {S : oS} {v : Nat → Int32} {fa : Nat → Nat → Int32} {H H1 : Heap} (h : lwH D A cq cp g0 pq S v fa H) (hk : ∀ q : Nat, q < H.size → ¬ va_A [] H.size q → H1[q]? = H[q]?) : lwH D A cq cp g0 pq S v fa H1 := ⟨pu_keep h.1 hk, h.2.1, pu_keep h.2.2.1 hk, h.2.2.2.1, h.2.2.2.2⟩
theorem lw_1 {W : List Nat} {S S1 : oS} {h0 i : Nat} (t : oty S h0 10) (hX : oX W S S1) (hk : wk 10 i ∉ W) : (oI S1 h0 i).toInt = (oI S h0 i).toInt := congrArg Int32.toInt (hX.i t hk)
theorem lw_t {W : List Nat} {S S1 : oS} {h0 : Nat} {t : Int} {n : Nat} {f : Nat → Int32} (hI : oInv S) (to : oty S h0 10) (hX : oX W S S1) (k1 : 1009 ∉ W) (k2 : 800 ∉ W) (k3 : 801 ∉ W) (k4 : 2160 ∉ W) (h : ∀ tp rw, oP S h0 9 = some tp → oP S tp 0 = some rw → (oI S tp 1).toInt = t ∧ ∀ j, j < n → oI S rw j = f j) : ∀ tp rw, oP S1 h0 9 = some tp → oP S1 tp 0 = some rw → (oI S1 tp 1).toInt = t ∧ ∀ j, j < n → oI S1 rw j = f j := by
  intro tp rw h1 h2
  rw [hX.p (i := 9) to k1] at h1
  have t1 : oty S tp 8 := oInv.rd hI to.2 h1 rfl rfl
  rw [hX.p (i := 0) t1 k2] at h2
  have t2 : oty S rw 160 := oInv.rd hI t1.2 h2 rfl rfl
  rw [hX.i (i := 1) t1 k3, hX.f t2 (fun _ => nkw (by decide) (by decide) k4)]
  exact h tp rw h1 h2
theorem lw_a {W : List Nat} {S S1 : oS} {h0 : Nat} {t : Int} (hI : oInv S) (to : oty S h0 10) (hX : oX W S S1) (k1 : 1008 ∉ W) (k2 : 502 ∉ W) (h : ∀ lw, oP S h0 8 = some lw → (oI S lw 2).toInt = t) : ∀ lw, oP S1 h0 8 = some lw → (oI S1 lw 2).toInt = t := by
  intro lw h1
  rw [hX.p (i := 8) to k1] at h1
  have t1 : oty S lw 5 := oInv.rd hI to.2 h1 rfl rfl
  rw [hX.i (i := 2) t1 k2]
  exact h lw h1
theorem lwI_o {W : List Nat} {S S1 : oS} {h0 : Nat} {v : Nat → Int32} {fa : Nat → Nat → Int32} (h : lwI S h0 v fa) (hI : oInv S1) (hX : oX W S S1) (hk : ∀ x ∈ [1000, 1009, 800, 801, 2160, 1008, 502], x ∉ W) : lwI S1 h0 v fa := by
  obtain ⟨g1, t, g2, g3, r1, r2, r3⟩ := h
  exact ⟨hI, hX.ty t, g2, g3, (lw_1 (i := 0) t hX (hk 1000 (by decide))).trans r1, lw_t g1 t hX (hk 1009 (by decide)) (hk 800 (by decide)) (hk 801 (by decide)) (hk 2160 (by decide)) r2, lw_a g1 t hX (hk 1008 (by decide)) (hk 502 (by decide)) r3⟩
theorem lwI_m {W : List Nat} {S : oS} {h0 : Nat} {v v1 : Nat → Int32} {fa fa1 : Nat → Nat → Int32} (h : lwI S h0 v fa) (hV : mV v1) (hA : mA fa1) (hm : mX W v fa v1 fa1) (hk : ∀ x ∈ [38, 46, 44, 42], x ∉ W) : lwI S h0 v1 fa1 := by
  obtain ⟨g1, t, g2, g3, r1, r2, r3⟩ := h
  refine ⟨g1, t, hV, hA, ?_, ?_, ?_⟩
  · rw [hm.1 38 (hk _ (by decide))]; exact r1
  · rw [hm.1 46 (hk _ (by decide)), hm.2 44 (hk _ (by decide))]; exact r2
  · rw [hm.1 42 (hk _ (by decide))]; exact r3
theorem od_eq {a n r r1 b b1 : Int} (h : odays a n r b) (g : odays a n r1 b1) : r = r1 ∧ b = b1 := by
  unfold odays at h g
  omega
theorem lw_days {W W1 : List Nat} {S S1 : oS} {h0 : Nat} {v v1 : Nat → Int32} {fa fa1 : Nat → Nat → Int32} {n r r1 : Int32} (h : lwI S h0 v fa) (hI : oInv S1) (hX : oX W S S1) (hp : odays (oI S h0 0).toInt n.toInt r.toInt (oI S1 h0 0).toInt) (hV : mV v1) (hA : mA fa1) (hm : mX W1 v fa v1 fa1) (hq : odays (v 38).toInt n.toInt r1.toInt (v1 38).toInt) (hk : ∀ x ∈ [1009, 800, 801, 2160, 1008, 502], x ∉ W) (hk1 : ∀ x ∈ [46, 44, 42], x ∉ W1) : r.toInt = r1.toInt ∧ lwI S1 h0 v1 fa1 := by
  obtain ⟨g1, t, g2, g3, d1, d2, d3⟩ := h
  rw [d1] at hp
  obtain ⟨er, eb⟩ := od_eq hp hq
  refine ⟨er, hI, hX.ty t, hV, hA, eb, ?_, ?_⟩
  · rw [hm.1 46 (hk1 _ (by decide)), hm.2 44 (hk1 _ (by decide))]; exact lw_t g1 t hX (hk 1009 (by decide)) (hk 800 (by decide)) (hk 801 (by decide)) (hk 2160 (by decide)) d2
  · rw [hm.1 42 (hk1 _ (by decide))]; exact lw_a g1 t hX (hk 1008 (by decide)) (hk 502 (by decide)) d3
theorem lw_feed {W W1 : List Nat} {S S1 : oS} {h0 tp rw : Nat} {v v1 : Nat → Int32} {fa fa1 : Nat → Nat → Int32} {n r r1 : Int32} {b : Int64} (h : lwI S h0 v fa) (hI : oInv S1) (hX : oX W S S1) (htp : oP S h0 9 = some tp) (hrw : oP S tp 0 = some rw) (hp : gfd (oI S tp 1).toInt n.toInt b (oI S rw) r.toInt (oI S1 tp 1).toInt (oI S1 rw)) (hV : mV v1) (hA : mA fa1) (hm : mX W1 v fa v1 fa1) (hq : gfd (v 46).toInt n.toInt b (fa 44) r1.toInt (v1 46).toInt (fa1 44)) (hk : ∀ x ∈ [1000, 1009, 800, 1008, 502], x ∉ W) (hk1 : ∀ x ∈ [38, 42], x ∉ W1) : r.toInt = r1.toInt ∧ lwI S1 h0 v1 fa1 := by
  obtain ⟨g1, t, g2, g3, d1, d2, d3⟩ := h
  have t1 : oty S tp 8 := oInv.rd g1 t.2 htp rfl rfl
  obtain ⟨e1, e2⟩ := d2 tp rw htp hrw
  rw [e1] at hp
  obtain ⟨er, et, ef⟩ := gfd_det hp hq (g2 46).1 e2
  refine ⟨er, hI, hX.ty t, hV, hA, ?_, ?_, ?_⟩
  · rw [hm.1 38 (hk1 _ (by decide))]; exact (lw_1 (i := 0) t hX (hk 1000 (by decide))).trans d1
  · intro tp2 rw2 h1 h2
    rw [hX.p (i := 9) t (hk 1009 (by decide)), htp] at h1
    cases h1
    rw [hX.p (i := 0) t1 (hk 800 (by decide)), hrw] at h2
    cases h2
    exact ⟨et, fun j hj => ef j (by rw [et]; exact hj)⟩
  · rw [hm.1 42 (hk1 _ (by decide))]; exact lw_a g1 t hX (hk 1008 (by decide)) (hk 502 (by decide)) d3
theorem lw_act {W W1 : List Nat} {S S1 : oS} {h0 tp rw cd lw : Nat} {v v1 : Nat → Int32} {fa fa1 : Nat → Nat → Int32} {p d r r1 : Int32} (h : lwI S h0 v fa) (hI : oInv S1) (hX : oX W S S1) (htp : oP S h0 9 = some tp) (hrw : oP S tp 0 = some rw) (hcd : oP S tp 2 = some cd) (hlw : oP S h0 8 = some lw) (hp : gac (oI S h0 0).toInt (oI S lw 2).toInt (oI S tp 1).toInt p.toInt d.toInt ((cS (tC S tp rw) 5 0).1 : Int) (bI (cS (tC S tp rw) 5 0).2.1) r.toInt (oI S1 lw 2).toInt (oI S1 tp 1).toInt) (hV : mV v1) (hA : mA fa1) (hm : mX W1 v fa v1 fa1) (hq : gac (v 38).toInt (v 42).toInt (v 46).toInt p.toInt d.toInt ((mvS (mL fa) (cI (fa 44) (v 46).toNatClampNeg) 5 0).1 : Int) (bI (mvS (mL fa) (cI (fa 44) (v 46).toNatClampNeg) 5 0).2.1) r1.toInt (v1 42).toInt (v1 46).toInt) (hk : ∀ x ∈ [1000, 1009, 800, 2160, 1008], x ∉ W) (hk1 : ∀ x ∈ [38, 44], x ∉ W1) : r.toInt = r1.toInt ∧ lwI S1 h0 v1 fa1 := by
  obtain ⟨g1, t, g2, g3, d1, d2, d3⟩ := h
  have t1 : oty S tp 8 := oInv.rd g1 t.2 htp rfl rfl
  have t2 : oty S rw 160 := oInv.rd g1 t1.2 hrw rfl rfl
  obtain ⟨e1, e2⟩ := d2 tp rw htp hrw
  have eC : tC S tp rw = cI (fa 44) (v 46).toNatClampNeg := by
    have en : (oI S tp 1).toNatClampNeg = (v 46).toNatClampNeg := congrArg Int32.toNatClampNeg (Int32.toInt_inj.mp e1)
    unfold tC
    rw [en]
    exact cI_congr e2
  obtain ⟨c1, c2⟩ := cm_same (c := cI (fa 44) (v 46).toNatClampNeg) (lt := mL fa)
  rw [d1, d3 lw hlw, e1, eC, c1, c2] at hp
  obtain ⟨er, ea, et⟩ := gac_det hp hq
  have hle : (v1 46).toInt ≤ (v 46).toInt := by
    have := (g2 46).1
    have : vLo 46 = 0 := rfl
    unfold gac at hq
    omega
  refine ⟨er, hI, hX.ty t, hV, hA, ?_, ?_, ?_⟩
  · rw [hm.1 38 (hk1 _ (by decide))]; exact (lw_1 (i := 0) t hX (hk 1000 (by decide))).trans d1
  · intro tp2 rw2 h1 h2
    rw [hX.p (i := 9) t (hk 1009 (by decide)), htp] at h1
    cases h1
    rw [hX.p (i := 0) t1 (hk 800 (by decide)), hrw] at h2
    cases h2
    refine ⟨et, fun j hj => ?_⟩
    rw [hX.f t2 (fun _ => nkw (by decide) (by decide) (hk 2160 (by decide))), hm.2 44 (hk1 _ (by decide))]
    refine e2 j ?_
    have q1 : (v1 46).toNatClampNeg = (v1 46).toInt.toNat := rfl
    have q2 : (v 46).toNatClampNeg = (v 46).toInt.toNat := rfl
    omega
  · intro lw2 h1
    rw [hX.p (i := 8) t (hk 1008 (by decide)), hlw] at h1
    cases h1
    exact ea
theorem ao_of {C : String} {s : State} (h : va_AO C s) : ∃ cA : ClassId, ArrOfT s cA (.object C) ∧ va_RA s cA (.object C) := by
  obtain ⟨comp, c, k, h1, h2, h3, h4, h5⟩ := Cond.arrayOver_spec h
  exact ⟨c, fun N z => ⟨(fun k h => by cases h), k, h3, comp, h4⟩, k, comp, h3, h4, h1, h5⟩
theorem ac_of {args : Array Value} {s : State} {ty : FieldType} (h : (Cond.arrayClass ty).before args s = true) : ∃ cA : ClassId, ArrOfT s cA ty ∧ s.vm.findClass ("[" ++ ty.toString) = some cA := by
  obtain ⟨cA, kA, comp, h1, h2, h3⟩ := Cond.arrayClass_spec h
  exact ⟨cA, fun n z => ⟨fun k h => (by cases h), kA, h2, comp, h3⟩, h1⟩
