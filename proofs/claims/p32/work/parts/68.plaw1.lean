

/-- the reference's addresses -/
def mAd (g0 : Nat) (pq : Nat → Nat) : List Nat := [g0, pq 0, pq 1, pq 2, pq 3, pq 4, pq 5, pq 6, pq 7, pq 8, pq 9, pq 10, pq 11, pq 12, pq 13, pq 14, pq 15, pq 16, pq 17, pq 18, pq 19, pq 20, pq 21, pq 22, pq 23, pq 24, pq 25, pq 26, pq 27, pq 28, pq 29, pq 30, pq 31, pq 32, pq 33, pq 34, pq 35, pq 36, pq 37, pq 44, pq 45, pq 52, pq 53, pq 54, pq 55, pq 56, pq 57, pq 61]
theorem mAd_of {g0 : Nat} {pq : Nat → Nat} {cp : Nat → ClassId} {v : Nat → Int32} {fa : Nat → Nat → Int32} {k : Nat} {x : Nat × va_E} (h : (mW g0 pq cp v fa)[k]? = some x) : x.1 ∈ mAd g0 pq := by
  have e : mAd g0 pq = (mW g0 pq cp v fa).map (fun y => y.1) := rfl
  rw [e]
  exact List.mem_map.mpr ⟨x, List.mem_of_getElem? h, rfl⟩
/-- the wages that the first n men ask for; no two men have one row; behind them all is 0 -/
def lwA (S : oS) (h0 n : Nat) (f : Nat → Int32) : Prop := ∀ row, oP S h0 1 = some row → (∀ m, m < n → ∀ man w, oP S row m = some man → oP S man 4 = some w → ∀ r, r < 4 → oI S w r = f (4 * m + r)) ∧ (∀ m m' man man' w, m < n → m' < n → oP S row m = some man → oP S row m' = some man' → oP S man 4 = some w → oP S man' 4 = some w → m = m') ∧ ∀ j, 4 * n ≤ j → f j = 0
theorem lwA_gen {W : List Nat} {S S1 : oS} {h0 n : Nat} {f f1 : Nat → Int32} (hI : oInv S) (t : oty S h0 10) (hX : oX W S S1) (k1 : 1001 ∉ W) (k2 : 2014 ∉ W) (k3 : 604 ∉ W) (h : lwA S h0 n f) (hf : ∀ row, oP S h0 1 = some row → (∀ m, m < n → ∀ man w, oP S row m = some man → oP S man 4 = some w → oty S w 104 → ∀ r, r < 4 → oI S1 w r = f1 (4 * m + r)) ∧ ∀ j, 4 * n ≤ j → f1 j = 0) : lwA S1 h0 n f1 := by
  intro row hr
  rw [hX.p (i := 1) t k1] at hr
  have t1 : oty S row 14 := oInv.rd hI t.2 hr rfl rfl
  obtain ⟨a1, a2, a3⟩ := h row hr
  obtain ⟨b1, b2⟩ := hf row hr
  have er : oP S1 row = oP S row := hX.fp t1 (fun _ => k2)
  have tm : ∀ m man, oP S row m = some man → oty S man 6 := fun m man q => oInv.rd hI t1.2 q rfl rfl
  have em : ∀ man, oty S man 6 → oP S1 man 4 = oP S man 4 := fun man q => hX.p (i := 4) q k3
  refine ⟨?_, ?_, b2⟩
  · intro m hm man w g1 g2 r hr2
    rw [er] at g1
    rw [em man (tm m man g1)] at g2
    exact b1 m hm man w g1 g2 (oInv.rd hI (tm m man g1).2 g2 rfl rfl) r hr2
  · intro m m' man man' w h1 h2 g1 g2 g3 g4
    rw [er] at g1 g2
    rw [em man (tm m man g1)] at g3
    rw [em man' (tm m' man' g2)] at g4
    exact a2 m m' man man' w h1 h2 g1 g2 g3 g4
theorem lwA_o {W : List Nat} {S S1 : oS} {h0 n : Nat} {f : Nat → Int32} (hI : oInv S) (t : oty S h0 10) (hX : oX W S S1) (k1 : 1001 ∉ W) (k2 : 2014 ∉ W) (k3 : 604 ∉ W) (k4 : 2104 ∉ W) (h : lwA S h0 n f) : lwA S1 h0 n f :=
  lwA_gen hI t hX k1 k2 k3 h (fun row hr => ⟨fun m hm man w g1 g2 tw r hr2 => by rw [hX.f tw (fun _ => k4)]; exact (h row hr).1 m hm man w g1 g2 r hr2, (h row hr).2.2⟩)
theorem lwA_man {W : List Nat} {S S1 : oS} {h0 n n1 : Nat} {f : Nat → Int32} {men men1 : Int} (hI : oInv S) (t : oty S h0 10) (hX : oX W S S1) (k1 : 1001 ∉ W) (k3 : 604 ∉ W) (k4 : 2104 ∉ W) (hp : 0 ≤ men) (hn : men.toNat = n) (hn1 : men1.toNat = n1) (hg : ∀ row, oP S h0 1 = some row → gnm S S1 row men men1) (h : lwA S h0 n f) : lwA S1 h0 n1 f := by
  intro row hr
  rw [hX.p (i := 1) t k1] at hr
  have t1 : oty S row 14 := oInv.rd hI t.2 hr rfl rfl
  obtain ⟨a1, a2, a3⟩ := h row hr
  have tm : ∀ m man, oP S row m = some man → oty S man 6 := fun m man q => oInv.rd hI t1.2 q rfl rfl
  have em : ∀ man, oty S man 6 → oP S1 man 4 = oP S man 4 := fun man q => hX.p (i := 4) q k3
  have tw : ∀ man w, oty S man 6 → oP S man 4 = some w → oty S w 104 := fun man w q g => oInv.rd hI q.2 g rfl rfl
  rcases hg row hr with ⟨e1, er⟩ | ⟨e1, q, wq, er, hq, hw, hz⟩
  · have en : n1 = n := by omega
    rw [en]
    refine ⟨?_, ?_, a3⟩
    · intro m hm man w g1 g2 r hr2
      rw [er] at g1
      rw [em man (tm m man g1)] at g2
      rw [hX.f (tw man w (tm m man g1) g2) (fun _ => k4)]
      exact a1 m hm man w g1 g2 r hr2
    · intro m m' man man' w h1 h2 g1 g2 g3 g4
      rw [er] at g1 g2
      rw [em man (tm m man g1)] at g3
      rw [em man' (tm m' man' g2)] at g4
      exact a2 m m' man man' w h1 h2 g1 g2 g3 g4
  · have en : n1 = n + 1 := by omega
    rw [hn] at er
    have eo : ∀ m, m ≠ n → oP S1 row m = oP S row m := fun m g => by rw [er]; exact if_neg g
    have eq : oP S1 row n = some q := by rw [er]; exact va_up_self ..
    have nw : ∀ m man w, oP S row m = some man → oP S1 man 4 = some w → w ≠ wq ∧ oP S man 4 = some w ∧ oI S1 w = oI S w := fun m man w g1 g2 => by
      rw [em man (tm m man g1)] at g2
      have g3 := tw man w (tm m man g1) g2
      exact ⟨fun e => hw (by rw [← e]; exact g3.1), g2, hX.f g3 (fun _ => k4)⟩
    refine ⟨?_, ?_, fun j hj => a3 j (by omega)⟩
    · intro m hm man w g1 g2 r hr2
      by_cases c : m = n
      · rw [c, eq] at g1
        cases g1
        rw [hq] at g2
        cases g2
        rw [hz, a3 (4 * m + r) (by omega)]
      · rw [eo m c] at g1
        obtain ⟨-, g3, g4⟩ := nw m man w g1 g2
        rw [g4]
        exact a1 m (by omega) man w g1 g3 r hr2
    · intro m m' man man' w h1 h2 g1 g2 g3 g4
      by_cases c : m = n
      · by_cases c' : m' = n
        · omega
        · rw [c, eq] at g1
          cases g1
          rw [hq] at g3
          cases g3
          rw [eo m' c'] at g2
          exact absurd rfl (nw m' man' _ g2 g4).1
      · by_cases c' : m' = n
        · rw [c', eq] at g2
          cases g2
          rw [hq] at g4
          cases g4
          rw [eo m c] at g1
          exact absurd rfl (nw m man _ g1 g3).1
        · rw [eo m c] at g1
          rw [eo m' c'] at g2
          exact a2 m m' man man' w (by omega) (by omega) g1 g2 (nw m man w g1 g3).2.1 (nw m' man' w g2 g4).2.1
theorem lwA_ask {W : List Nat} {S S1 : oS} {h0 n : Nat} {f f1 : Nat → Int32} {men : Int} {m k x r r1 : Int32} (hI : oInv S) (t : oty S h0 10) (hX : oX W S S1) (k1 : 1001 ∉ W) (k2 : 2014 ∉ W) (k3 : 604 ∉ W) (hn : men.toNat = n) (hp : ∀ row, oP S h0 1 = some row → gas S S1 row men m k x r) (hq : gar men f m k x r1 f1) (h : lwA S h0 n f) : r.toInt = r1.toInt ∧ lwA S1 h0 n f1 := by
  obtain ⟨row, hr⟩ := oInv.nn (i := 1) hI t rfl
  obtain ⟨a1, a2, a3⟩ := h row hr
  rcases hp row hr with ⟨g1, g2⟩ | ⟨g1, man, w, q1, q2, q3, q4, q5⟩
  · rcases hq with ⟨p1, ef⟩ | ⟨p1, -⟩
    · refine ⟨by unfold gao at g1 p1; omega, ?_⟩
      rw [ef]
      exact lwA_gen hI t hX k1 k2 k3 h (fun row' hr' => by
        rw [hr] at hr'
        cases hr'
        exact ⟨fun m hm man w b1 b2 tw r hr2 => by rw [g2 w tw]; exact a1 m hm man w b1 b2 r hr2, a3⟩)
    · exfalso
      unfold gao at g1
      unfold gaok at p1
      omega
  · rcases hq with ⟨p1, -⟩ | ⟨p1, i, e1, e2, e3⟩
    · exfalso
      unfold gao at p1
      unfold gaok at g1
      omega
    · have gg := g1
      unfold gaok at gg
      have em : m.toNatClampNeg = m.toInt.toNat := rfl
      have ek : k.toNatClampNeg = k.toInt.toNat := rfl
      have ei : i.toNatClampNeg = 4 * m.toNatClampNeg + k.toNatClampNeg := (show i.toInt.toNat = _ by omega)
      have hm : m.toNatClampNeg < n := by omega
      have hk : k.toNatClampNeg < 4 := by omega
      refine ⟨by rw [q3, e2, ei, a1 _ hm man w q1 q2 _ hk], lwA_gen hI t hX k1 k2 k3 h (fun row' hr' => ?_)⟩
      rw [hr] at hr'
      cases hr'
      rw [e3, ei]
      refine ⟨fun m' hm' man' w' b1 b2 tw r' hr2 => ?_, fun j hj => ?_⟩
      · by_cases c : w' = w
        · have c2 : m' = m.toNatClampNeg := a2 m' _ man' man w' hm' hm b1 q1 b2 (by rw [c]; exact q2)
          rw [c, q4]
          by_cases c3 : r' = k.toNatClampNeg
          · rw [c3, c2]
            exact (if_pos rfl).trans (if_pos rfl).symm
          · refine (if_neg c3).trans (Eq.trans ?_ (if_neg (by omega)).symm)
            rw [← c]
            exact a1 m' hm' man' w' b1 b2 r' hr2
        · rw [q5 w' tw c]
          refine (a1 m' hm' man' w' b1 b2 r' hr2).trans (if_neg (fun e => c ?_)).symm
          have c2 : m' = m.toNatClampNeg := by omega
          rw [c2, q1] at b1
          cases b1
          rw [q2] at b2
          cases b2
          rfl
      · exact (if_neg (by omega)).trans (a3 j hj)
/-- what holds of both: the same day, as many men, the same miles, the same wages asked for -/
def lwR (S : oS) (h0 : Nat) (v : Nat → Int32) (fa : Nat → Nat → Int32) : Prop := (oI S h0 0).toInt = (v 38).toInt ∧ (oI S h0 2).toInt = (v 39).toInt ∧ (∀ sea ml, oP S h0 10 = some sea → oP S sea 0 = some ml → oI S ml = fa 1) ∧ lwA S h0 (v 39).toNatClampNeg (fa 5)
/-- what holds of both between two calls: each in its bounds, and the words above -/
def lwI (S : oS) (h0 : Nat) (v : Nat → Int32) (fa : Nat → Nat → Int32) : Prop := oInv S ∧ oty S h0 10 ∧ mV v ∧ mA fa ∧ lwR S h0 v fa
def lwH (D : va_G) (A : Nat → Prop) (cq cp : Nat → ClassId) (g0 : Nat) (pq : Nat → Nat) (S : oS) (v : Nat → Int32) (fa : Nat → Nat → Int32) (H : Heap) : Prop := va_P D vwCl (oW cq S) H ∧ va_D A (oW cq S) ∧ va_P D vwCl (mW g0 pq cp v fa) H ∧ va_D A (mW g0 pq cp v fa) ∧ ∀ a, a ∈ oL S → a ∉ mAd g0 pq
theorem oW_mem {cq : Nat → ClassId} {S : oS} {k : Nat} {x : Nat × va_E} (h : (oW cq S)[k]? = some x) : x.1 ∈ oL S := by
  obtain ⟨a, ha, e⟩ := List.mem_map.mp (List.mem_of_getElem? h : x ∈ va_pl (oL S) (oE cq S))
  rw [← e]
  exact ha
theorem lw_lt {D : va_G} {cp : Nat → ClassId} {g0 : Nat} {pq : Nat → Nat} {v : Nat → Int32} {fa : Nat → Nat → Int32} {H : Heap} (hP : va_P D vwCl (mW g0 pq cp v fa) H) {a : Nat} (h : a ∈ mAd g0 pq) : a < H.size := by
  have e : mAd g0 pq = (mW g0 pq cp v fa).map (fun y => y.1) := rfl
  rw [e] at h
  obtain ⟨x, hx, rfl⟩ := List.mem_map.mp h
  obtain ⟨k, hk⟩ := List.getElem?_of_mem hx
  exact (hP k x hk).lt
/-- behind a call of the office -/
theorem lwH_o {D : va_G} {A : Nat → Prop} {cq cp : Nat → ClassId} {g0 : Nat} {pq : Nat → Nat} {S S1 : oS} {v : Nat → Int32} {fa : Nat → Nat → Int32} {H H1 : Heap} (h : lwH D A cq cp g0 pq S v fa H) (hF : ∀ q, va_A (oW cq S) H.size q → A q) (hk : ∀ q : Nat, q < H.size → ¬ va_A (oW cq S) H.size q → H1[q]? = H[q]?) (hP : va_P D vwCl (oW cq S1) H1) (hD : va_D (va_A (oW cq S) H.size) (oW cq S1)) : lwH D A cq cp g0 pq S1 v fa H1 := by
  obtain ⟨h1, h2, h3, h4, h5⟩ := h
  have nin : ∀ a, a ∈ mAd g0 pq → ¬ va_A (oW cq S) H.size a := fun a ha q => by
    rcases q with ⟨k, e, hk⟩ | q
    · exact h5 a (oW_mem hk) ha
    · exact absurd (lw_lt h3 ha) (Nat.not_lt.mpr q)
  refine ⟨hP, hD.weaken (fun _ _ _ g => hF _ g), h3.kept (fun k x hx => hk x.1 (h3 k x hx).lt (nin _ (mAd_of hx))), h4, fun a ha hm => ?_⟩
  obtain ⟨k, hk2⟩ := va_pl_get (X := []) (f := oE cq S1) ha
  exact nin a hm (hD.2 k _ hk2)
/-- behind a call of the reference -/
theorem lwH_m {D : va_G} {A : Nat → Prop} {cq cp : Nat → ClassId} {g0 : Nat} {pq : Nat → Nat} {S : oS} {v v1 : Nat → Int32} {fa fa1 : Nat → Nat → Int32} {H H1 : Heap} (h : lwH D A cq cp g0 pq S v fa H) (hF : ∀ q, va_A (mW g0 pq cp v fa) H.size q → A q) (hk : ∀ q : Nat, q < H.size → ¬ va_A (mW g0 pq cp v fa) H.size q → H1[q]? = H[q]?) (hP : va_P D vwCl (mW g0 pq cp v1 fa1) H1) (hD : va_D (va_A (mW g0 pq cp v fa) H.size) (mW g0 pq cp v1 fa1)) : lwH D A cq cp g0 pq S v1 fa1 H1 := by
  obtain ⟨h1, h2, h3, h4, h5⟩ := h
  refine ⟨h1.kept (fun k x hx => hk x.1 (h1 k x hx).lt (fun q => ?_)), h2, hP, hD.weaken (fun _ _ _ g => hF _ g), h5⟩
  rcases q with ⟨j, e, hj⟩ | q
  · exact h5 x.1 (oW_mem hx) (mAd_of (x := (x.1, e)) hj)
  · exact absurd (h1 k x hx).lt (Nat.not_lt.mpr q)
theorem lwH_p {D : va_G} {A : Nat → Prop} {cq cp : Nat → ClassId} {g0 : Nat} {pq : Nat → Nat} {S : oS} {v : Nat → Int32} {fa : Nat → Nat → Int32} {H H1 : Heap} (h : lwH D A cq cp g0 pq S v fa H) (hk : ∀ q : Nat, q < H.size → ¬ va_A [] H.size q → H1[q]? = H[q]?) : lwH D A cq cp g0 pq S v fa H1 := ⟨pu_keep h.1 hk, h.2.1, pu_keep h.2.2.1 hk, h.2.2.2.1, h.2.2.2.2⟩
theorem lw_1 {W : List Nat} {S S1 : oS} {h0 i : Nat} (t : oty S h0 10) (hX : oX W S S1) (hk : wk 10 i ∉ W) : (oI S1 h0 i).toInt = (oI S h0 i).toInt := congrArg Int32.toInt (hX.i t hk)
theorem lw_2 {W : List Nat} {S S1 : oS} {h0 : Nat} {f : Nat → Int32} (hI : oInv S) (t : oty S h0 10) (hX : oX W S S1) (k1 : 1010 ∉ W) (k2 : 700 ∉ W) (k3 : 2200 ∉ W) (h : ∀ sea ml, oP S h0 10 = some sea → oP S sea 0 = some ml → oI S ml = f) : ∀ sea ml, oP S1 h0 10 = some sea → oP S1 sea 0 = some ml → oI S1 ml = f := by
  intro sea ml h1 h2
  rw [hX.p (i := 10) t k1] at h1
  have t1 : oty S sea 7 := oInv.rd hI t.2 h1 rfl rfl
  rw [hX.p (i := 0) t1 k2] at h2
  have t2 : oty S ml 200 := oInv.rd hI t1.2 h2 rfl rfl
  rw [hX.f t2 (fun _ => k3)]
  exact h sea ml h1 h2
theorem lwI_o {W : List Nat} {S S1 : oS} {h0 : Nat} {v : Nat → Int32} {fa : Nat → Nat → Int32} (h : lwI S h0 v fa) (hI : oInv S1) (hX : oX W S S1) (hk : ∀ x ∈ [1000, 1002, 1010, 700, 2200, 1001, 2014, 604, 2104], x ∉ W) : lwI S1 h0 v fa := by
  obtain ⟨g1, t, g2, g3, r1, r2, r3, r4⟩ := h
  exact ⟨hI, hX.ty t, g2, g3, (lw_1 (i := 0) t hX (hk 1000 (by decide))).trans r1, (lw_1 (i := 2) t hX (hk 1002 (by decide))).trans r2, lw_2 g1 t hX (hk 1010 (by decide)) (hk 700 (by decide)) (hk 2200 (by decide)) r3, lwA_o g1 t hX (hk 1001 (by decide)) (hk 2014 (by decide)) (hk 604 (by decide)) (hk 2104 (by decide)) r4⟩
theorem lwI_m {W : List Nat} {S : oS} {h0 : Nat} {v v1 : Nat → Int32} {fa fa1 : Nat → Nat → Int32} (h : lwI S h0 v fa) (hV : mV v1) (hA : mA fa1) (hm : mX W v fa v1 fa1) (hk : ∀ x ∈ [38, 39, 1, 5], x ∉ W) : lwI S h0 v1 fa1 := by
  obtain ⟨g1, t, g2, g3, r1, r2, r3, r4⟩ := h
  refine ⟨g1, t, hV, hA, ?_, ?_, ?_, ?_⟩
  · rw [hm.1 38 (hk _ (by decide))]; exact r1
  · rw [hm.1 39 (hk _ (by decide))]; exact r2
  · rw [hm.2 1 (hk _ (by decide))]; exact r3
  · rw [hm.1 39 (hk _ (by decide)), hm.2 5 (hk _ (by decide))]; exact r4
theorem od_eq {a n r r1 b b1 : Int} (h : odays a n r b) (g : odays a n r1 b1) : r = r1 ∧ b = b1 := by
  unfold odays at h g
  omega
theorem lw_days {W W1 : List Nat} {S S1 : oS} {h0 : Nat} {v v1 : Nat → Int32} {fa fa1 : Nat → Nat → Int32} {n r r1 : Int32} (h : lwI S h0 v fa) (hI : oInv S1) (hX : oX W S S1) (hp : odays (oI S h0 0).toInt n.toInt r.toInt (oI S1 h0 0).toInt) (hV : mV v1) (hA : mA fa1) (hm : mX W1 v fa v1 fa1) (hq : odays (v 38).toInt n.toInt r1.toInt (v1 38).toInt) (hk : ∀ x ∈ [1002, 1010, 700, 2200, 1001, 2014, 604, 2104], x ∉ W) (hk1 : ∀ x ∈ [39, 1, 5], x ∉ W1) : r.toInt = r1.toInt ∧ lwI S1 h0 v1 fa1 := by
  obtain ⟨g1, t, g2, g3, d1, d2, d3, d4⟩ := h
  rw [d1] at hp
  obtain ⟨er, eb⟩ := od_eq hp hq
  refine ⟨er, hI, hX.ty t, hV, hA, eb, ?_, ?_, ?_⟩
  · rw [hm.1 39 (hk1 _ (by decide))]; exact (lw_1 (i := 2) t hX (hk 1002 (by decide))).trans d2
  · rw [hm.2 1 (hk1 _ (by decide))]; exact lw_2 g1 t hX (hk 1010 (by decide)) (hk 700 (by decide)) (hk 2200 (by decide)) d3
  · rw [hm.1 39 (hk1 _ (by decide)), hm.2 5 (hk1 _ (by decide))]; exact lwA_o g1 t hX (hk 1001 (by decide)) (hk 2014 (by decide)) (hk 604 (by decide)) (hk 2104 (by decide)) d4
theorem lw_man {W W1 : List Nat} {S S1 : oS} {h0 : Nat} {v v1 : Nat → Int32} {fa fa1 : Nat → Nat → Int32} {a b d r r1 : Int32} (h : lwI S h0 v fa) (hI : oInv S1) (hX : oX W S S1) (hp0 : gmn (oI S h0 0).toInt (oI S h0 2).toInt a.toInt b.toInt d.toInt r.toInt (oI S1 h0 2).toInt ∧ ∀ row, oP S h0 1 = some row → gnm S S1 row (oI S h0 2).toInt (oI S1 h0 2).toInt) (hV : mV v1) (hA : mA fa1) (hm : mX W1 v fa v1 fa1) (hq : gmn (v 38).toInt (v 39).toInt a.toInt b.toInt d.toInt r1.toInt (v1 39).toInt) (hk : ∀ x ∈ [1000, 1010, 700, 2200, 1001, 604, 2104], x ∉ W) (hk1 : ∀ x ∈ [38, 1, 5], x ∉ W1) : r.toInt = r1.toInt ∧ lwI S1 h0 v1 fa1 := by
  obtain ⟨g1, t, g2, g3, d1, d2, d3, d4⟩ := h
  obtain ⟨hp, hg⟩ := hp0
  rw [d1, d2] at hp
  obtain ⟨er, eb⟩ := gmn_det hp hq
  have hb : 0 ≤ (v 39).toInt := (g2 39).1
  refine ⟨er, hI, hX.ty t, hV, hA, ?_, eb, ?_, ?_⟩
  · rw [hm.1 38 (hk1 _ (by decide))]; exact (lw_1 (i := 0) t hX (hk 1000 (by decide))).trans d1
  · rw [hm.2 1 (hk1 _ (by decide))]; exact lw_2 g1 t hX (hk 1010 (by decide)) (hk 700 (by decide)) (hk 2200 (by decide)) d3
  · rw [hm.2 5 (hk1 _ (by decide))]; exact lwA_man (men := (oI S h0 2).toInt) (men1 := (oI S1 h0 2).toInt) g1 t hX (hk 1001 (by decide)) (hk 604 (by decide)) (hk 2104 (by decide)) (by omega) (by show _ = (v 39).toInt.toNat; rw [d2]) (by show _ = (v1 39).toInt.toNat; rw [eb]) hg d4
theorem lw_miles {W W1 : List Nat} {S S1 : oS} {h0 : Nat} {v v1 : Nat → Int32} {fa fa1 : Nat → Nat → Int32} {a b x r r1 : Int32} (h : lwI S h0 v fa) (hI : oInv S1) (hX : oX W S S1) (hp : ∀ sea ml, oP S h0 10 = some sea → oP S sea 0 = some ml → gml (oI S ml) a b x r (oI S1 ml)) (hV : mV v1) (hA : mA fa1) (hm : mX W1 v fa v1 fa1) (hq : gml (fa 1) a b x r1 (fa1 1)) (hk : ∀ x ∈ [1000, 1002, 1010, 700, 1001, 2014, 604, 2104], x ∉ W) (hk1 : ∀ x ∈ [38, 39, 5], x ∉ W1) : r.toInt = r1.toInt ∧ lwI S1 h0 v1 fa1 := by
  obtain ⟨g1, t, g2, g3, d1, d2, d3, d4⟩ := h
  obtain ⟨sea, hs⟩ := oInv.nn (i := 10) g1 t rfl
  have t1 : oty S sea 7 := oInv.rd g1 t.2 hs rfl rfl
  obtain ⟨ml, hl⟩ := oInv.nn (i := 0) g1 t1 rfl
  have key := hp sea ml hs hl
  rw [d3 sea ml hs hl] at key
  obtain ⟨er, ef⟩ := gml_det key hq
  refine ⟨by rw [er], hI, hX.ty t, hV, hA, ?_, ?_, ?_, ?_⟩
  · rw [hm.1 38 (hk1 _ (by decide))]; exact (lw_1 (i := 0) t hX (hk 1000 (by decide))).trans d1
  · rw [hm.1 39 (hk1 _ (by decide))]; exact (lw_1 (i := 2) t hX (hk 1002 (by decide))).trans d2
  · intro sea2 ml2 h1 h2
    rw [hX.p (i := 10) t (hk 1010 (by decide)), hs] at h1
    cases h1
    rw [hX.p (i := 0) t1 (hk 700 (by decide)), hl] at h2
    cases h2
    exact ef
  · rw [hm.1 39 (hk1 _ (by decide)), hm.2 5 (hk1 _ (by decide))]; exact lwA_o g1 t hX (hk 1001 (by decide)) (hk 2014 (by decide)) (hk 604 (by decide)) (hk 2104 (by decide)) d4
theorem lw_ask {W W1 : List Nat} {S S1 : oS} {h0 : Nat} {v v1 : Nat → Int32} {fa fa1 : Nat → Nat → Int32} {m k x r r1 : Int32} (h : lwI S h0 v fa) (hI : oInv S1) (hX : oX W S S1) (hp : ∀ row, oP S h0 1 = some row → gas S S1 row (oI S h0 2).toInt m k x r) (hV : mV v1) (hA : mA fa1) (hm : mX W1 v fa v1 fa1) (hq : gar (v 39).toInt (fa 5) m k x r1 (fa1 5)) (hk : ∀ x ∈ [1000, 1002, 1010, 700, 2200, 1001, 2014, 604], x ∉ W) (hk1 : ∀ x ∈ [38, 39, 1], x ∉ W1) : r.toInt = r1.toInt ∧ lwI S1 h0 v1 fa1 := by
  obtain ⟨g1, t, g2, g3, d1, d2, d3, d4⟩ := h
  rw [d2] at hp
  obtain ⟨er, ea⟩ := lwA_ask g1 t hX (hk 1001 (by decide)) (hk 2014 (by decide)) (hk 604 (by decide)) (show _ = (v 39).toNatClampNeg from rfl) hp hq d4
  refine ⟨er, hI, hX.ty t, hV, hA, ?_, ?_, ?_, ?_⟩
  · rw [hm.1 38 (hk1 _ (by decide))]; exact (lw_1 (i := 0) t hX (hk 1000 (by decide))).trans d1
  · rw [hm.1 39 (hk1 _ (by decide))]; exact (lw_1 (i := 2) t hX (hk 1002 (by decide))).trans d2
  · rw [hm.2 1 (hk1 _ (by decide))]; exact lw_2 g1 t hX (hk 1010 (by decide)) (hk 700 (by decide)) (hk 2200 (by decide)) d3
  · rw [hm.1 39 (hk1 _ (by decide))]; exact ea
theorem ao_of {C : String} {s : State} (h : va_AO C s) : ∃ cA : ClassId, ArrOfT s cA (.object C) ∧ va_RA s cA (.object C) := by
  obtain ⟨comp, c, k, h1, h2, h3, h4, h5⟩ := Cond.arrayOver_spec h
  exact ⟨c, fun N z => ⟨(fun k h => by cases h), k, h3, comp, h4⟩, k, comp, h3, h4, h1, h5⟩
theorem ac_of {args : Array Value} {s : State} {ty : FieldType} (h : (Cond.arrayClass ty).before args s = true) : ∃ cA : ClassId, ArrOfT s cA ty ∧ s.vm.findClass ("[" ++ ty.toString) = some cA := by
  obtain ⟨cA, kA, comp, h1, h2, h3⟩ := Cond.arrayClass_spec h
  exact ⟨cA, fun n z => ⟨fun k h => (by cases h), kA, h2, comp, h3⟩, h1⟩
