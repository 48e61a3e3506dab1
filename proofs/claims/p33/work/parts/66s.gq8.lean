

/-- the wages that the first n men ask for; no two men have one row; behind them all is 0 -/
def lwA (S : oS) (h0 n : Nat) (f : Nat → Int32) : Prop := ∀ row, oP S h0 1 = some row → (∀ m, m < n → ∀ man w, oP S row m = some man → oP S man 4 = some w → ∀ r, r < 4 → oI S w r = f (4 * m + r)) ∧ (∀ m m' man man' w, m < n → m' < n → oP S row m = some man → oP S row m' = some man' → oP S man 4 = some w → oP S man' 4 = some w → m = m') ∧ ∀ j, 4 * n ≤ j → f j = 0
theorem lwA_gen {W : List Nat} {S S1 : oS} {h0 n : Nat} {f f1 : Nat → Int32} (hI : oInv S) (t : oty S h0 10) (hX : oX W S S1) (k1 : 1001 ∉ W) (k2 : 2014 ∉ W) (k3 : 604 ∉ W) (h : lwA S h0 n f) (hf : ∀ row, oP S h0 1 = some row → (∀ m, m < n → ∀ man w, oP S row m = some man → oP S man 4 = some w → oty S w 104 → ∀ r, r < 4 → oI S1 w r = f1 (4 * m + r)) ∧ ∀ j, 4 * n ≤ j → f1 j = 0) : lwA S1 h0 n f1 := by
  intro row hr
  rw [hX.p (i := 1) t k1] at hr
  have t1 : oty S row 14 := oInv.rd hI t.2 hr rfl rfl
  obtain ⟨a1, a2, a3⟩ := h row hr
  obtain ⟨b1, b2⟩ := hf row hr
  have er : oP S1 row = oP S row := hX.fp t1 (fun _ => k2)
  have tm : ∀ m man, oP S row m = some man → oty S man 6 := fun m man q => oInv.rd hI t1.2 q rfl rfl
  have em : ∀ man, oty S man 6 → oP S1 man 4 = oP S man 4 := fun man q => hX.p (i := 4) q k3
  refine ⟨?_, ?_, b2⟩
  · intro m hm man w g1 g2 r hr2
    rw [er] at g1
    rw [em man (tm m man g1)] at g2
    exact b1 m hm man w g1 g2 (oInv.rd hI (tm m man g1).2 g2 rfl rfl) r hr2
  · intro m m' man man' w h1 h2 g1 g2 g3 g4
    rw [er] at g1 g2
    rw [em man (tm m man g1)] at g3
    rw [em man' (tm m' man' g2)] at g4
    exact a2 m m' man man' w h1 h2 g1 g2 g3 g4
theorem lwA_o {W : List Nat} {S S1 : oS} {h0 n : Nat} {f : Nat → Int32} (hI : oInv S) (t : oty S h0 10) (hX : oX W S S1) (k1 : 1001 ∉ W) (k2 : 2014 ∉ W) (k3 : 604 ∉ W) (k4 : 2104 ∉ W) (h : lwA S h0 n f) : lwA S1 h0 n f :=
  lwA_gen hI t hX k1 k2 k3 h (fun row hr => ⟨fun m hm man w g1 g2 tw r hr2 => by rw [hX.f tw (fun _ => k4)]; exact (h row hr).1 m hm man w g1 g2 r hr2, (h row hr).2.2⟩)
theorem lwA_man {W : List Nat} {S S1 : oS} {h0 n n1 : Nat} {f : Nat → Int32} {men men1 : Int} (hI : oInv S) (t : oty S h0 10) (hX : oX W S S1) (k1 : 1001 ∉ W) (k3 : 604 ∉ W) (k4 : 2104 ∉ W) (hp : 0 ≤ men) (hn : men.toNat = n) (hn1 : men1.toNat = n1) (hg : ∀ row, oP S h0 1 = some row → gnm S S1 row men men1) (h : lwA S h0 n f) : lwA S1 h0 n1 f := by
  intro row hr
  rw [hX.p (i := 1) t k1] at hr
  have t1 : oty S row 14 := oInv.rd hI t.2 hr rfl rfl
  obtain ⟨a1, a2, a3⟩ := h row hr
  have tm : ∀ m man, oP S row m = some man → oty S man 6 := fun m man q => oInv.rd hI t1.2 q rfl rfl
  have em : ∀ man, oty S man 6 → oP S1 man 4 = oP S man 4 := fun man q => hX.p (i := 4) q k3
  have tw : ∀ man w, oty S man 6 → oP S man 4 = some w → oty S w 104 := fun man w q g => oInv.rd hI q.2 g rfl rfl
  rcases hg row hr with ⟨e1, er⟩ | ⟨e1, q, wq, er, hq, hw, hz⟩
  · have en : n1 = n := by omega
    rw [en]
    refine ⟨?_, ?_, a3⟩
    · intro m hm man w g1 g2 r hr2
      rw [er] at g1
      rw [em man (tm m man g1)] at g2
      rw [hX.f (tw man w (tm m man g1) g2) (fun _ => k4)]
      exact a1 m hm man w g1 g2 r hr2
    · intro m m' man man' w h1 h2 g1 g2 g3 g4
      rw [er] at g1 g2
      rw [em man (tm m man g1)] at g3
      rw [em man' (tm m' man' g2)] at g4
      exact a2 m m' man man' w h1 h2 g1 g2 g3 g4
  · have en : n1 = n + 1 := by omega
    rw [hn] at er
    have eo : ∀ m, m ≠ n → oP S1 row m = oP S row m := fun m g => by rw [er]; exact if_neg g
    have eq : oP S1 row n = some q := by rw [er]; exact va_up_self ..
    have nw : ∀ m man w, oP S row m = some man → oP S1 man 4 = some w → w ≠ wq ∧ oP S man 4 = some w ∧ oI S1 w = oI S w := fun m man w g1 g2 => by
      rw [em man (tm m man g1)] at g2
      have g3 := tw man w (tm m man g1) g2
      exact ⟨fun e => hw (by rw [← e]; exact g3.1), g2, hX.f g3 (fun _ => k4)⟩
    refine ⟨?_, ?_, fun j hj => a3 j (by omega)⟩
    · intro m hm man w g1 g2 r hr2
      by_cases c : m = n
      · rw [c, eq] at g1
        cases g1
        rw [hq] at g2
        cases g2
        rw [hz, a3 (4 * m + r) (by omega)]
      · rw [eo m c] at g1
        obtain ⟨-, g3, g4⟩ := nw m man w g1 g2
        rw [g4]
        exact a1 m (by omega) man w g1 g3 r hr2
    · intro m m' man man' w h1 h2 g1 g2 g3 g4
      by_cases c : m = n
      · by_cases c' : m' = n
        · omega
        · rw [c, eq] at g1
          cases g1
          rw [hq] at g3
          cases g3
          rw [eo m' c'] at g2
          exact absurd rfl (nw m' man' _ g2 g4).1
      · by_cases c' : m' = n
        · rw [c', eq] at g2
          cases g2
          rw [hq] at g4
          cases g4
          rw [eo m c] at g1
          exact absurd rfl (nw m man _ g1 g3).1
        · rw [eo m c] at g1
          rw [eo m' c'] at g2
          exact a2 m m' man man' w (by omega) (by omega) g1 g2 (nw m man w g1 g3).2.1 (nw m' man' w g2 g4).2.1
theorem lwA_ask {W : List Nat} {S S1 : oS} {h0 n : Nat} {f f1 : Nat → Int32} {men : Int} {m k x r r1 : Int32} (hI : oInv S) (t : oty S h0 10) (hX : oX W S S1) (k1 : 1001 ∉ W) (k2 : 2014 ∉ W) (k3 : 604 ∉ W) (hn : men.toNat = n) (hp : ∀ row, oP S h0 1 = some row → gas S S1 row men m k x r) (hq : gar men f m k x r1 f1) (h : lwA S h0 n f) : r.toInt = r1.toInt ∧ lwA S1 h0 n f1 := by
  obtain ⟨row, hr⟩ := oInv.nn (i := 1) hI t rfl
  obtain ⟨a1, a2, a3⟩ := h row hr
  rcases hp row hr with ⟨g1, g2⟩ | ⟨g1, man, w, q1, q2, q3, q4, q5⟩
  · rcases hq with ⟨p1, ef⟩ | ⟨p1, -⟩
    · refine ⟨by unfold gao at g1 p1; omega, ?_⟩
      rw [ef]
      exact lwA_gen hI t hX k1 k2 k3 h (fun row' hr' => by
        rw [hr] at hr'
        cases hr'
        exact ⟨fun m hm man w b1 b2 tw r hr2 => by rw [g2 w tw]; exact a1 m hm man w b1 b2 r hr2, a3⟩)
    · exfalso
      unfold gao at g1
      unfold gaok at p1
      omega
  · rcases hq with ⟨p1, -⟩ | ⟨p1, i, e1, e2, e3⟩
    · exfalso
      unfold gao at p1
      unfold gaok at g1
      omega
    · have gg := g1
      unfold gaok at gg
      have em : m.toNatClampNeg = m.toInt.toNat := rfl
      have ek : k.toNatClampNeg = k.toInt.toNat := rfl
      have ei : i.toNatClampNeg = 4 * m.toNatClampNeg + k.toNatClampNeg := (show i.toInt.toNat = _ by omega)
      have hm : m.toNatClampNeg < n := by omega
      have hk : k.toNatClampNeg < 4 := by omega
      refine ⟨by rw [q3, e2, ei, a1 _ hm man w q1 q2 _ hk], lwA_gen hI t hX k1 k2 k3 h (fun row' hr' => ?_)⟩
      rw [hr] at hr'
      cases hr'
      rw [e3, ei]
      refine ⟨fun m' hm' man' w' b1 b2 tw r' hr2 => ?_, fun j hj => ?_⟩
      · by_cases c : w' = w
        · have c2 : m' = m.toNatClampNeg := a2 m' _ man' man w' hm' hm b1 q1 b2 (by rw [c]; exact q2)
          rw [c, q4]
          by_cases c3 : r' = k.toNatClampNeg
          · rw [c3, c2]
            exact (if_pos rfl).trans (if_pos rfl).symm
          · refine (if_neg c3).trans (Eq.trans ?_ (if_neg (by omega)).symm)
            rw [← c]
            exact a1 m' hm' man' w' b1 b2 r' hr2
        · rw [q5 w' tw c]
          refine (a1 m' hm' man' w' b1 b2 r' hr2).trans (if_neg (fun e => c ?_)).symm
          have c2 : m' = m.toNatClampNeg := by omega
          rw [c2, q1] at b1
          cases b1
          rw [q2] at b2
          cases b2
          rfl
      · exact (if_neg (by omega)).trans (a3 j hj)
/-- the wages asked for of both are one, and in their bounds -/
def rAs (S : oS) (o : Nat) (v : Nat → Int32) (fa : Nat → Nat → Int32) : Prop := lwA S o (v 39).toNatClampNeg (fa 5) ∧ asB fa
def akO (S : oS) (b : Nat) : Prop := ∃ k, k < 4 ∧ 0 < (oI S (oQ S b 4) k).toInt
theorem ak_e {S : oS} {o m b : Nat} {v : Nat → Int32} {fa : Nat → Nat → Int32} (hI : oInv S) (to : oty S o 10) (hR : RC S o v fa) (h : rAs S o v fa) (hm : m < (v 39).toNatClampNeg) (eb : b = mnA S o m) : akO S b ↔ akP fa m := by
  obtain ⟨row, hr⟩ := oInv.nn (i := 1) hI to rfl
  have g := RC.tm hR hI to hm
  rw [oQ_e hr, ← eb] at g
  obtain ⟨w, hw⟩ := oInv.nn (i := 4) hI g.2 rfl
  have k := (h.1 row hr).1 m hm b w g.1 hw
  unfold akO akP
  rw [oQ_e hw]
  constructor
  · rintro ⟨j, j1, j2⟩
    rw [k j j1] at j2
    have : j = 0 ∨ j = 1 ∨ j = 2 ∨ j = 3 := by omega
    rcases this with rfl | rfl | rfl | rfl
    · exact Or.inl j2
    · exact Or.inr (Or.inl j2)
    · exact Or.inr (Or.inr (Or.inl j2))
    · exact Or.inr (Or.inr (Or.inr j2))
  · rintro (j | j | j | j)
    · exact ⟨0, by decide, by rw [k 0 (by decide)]; exact j⟩
    · exact ⟨1, by decide, by rw [k 1 (by decide)]; exact j⟩
    · exact ⟨2, by decide, by rw [k 2 (by decide)]; exact j⟩
    · exact ⟨3, by decide, by rw [k 3 (by decide)]; exact j⟩
set_option maxHeartbeats 4000000 in
set_option maxRecDepth 100000 in
theorem c_X6_asks_c (l : Launch) (dC : Nat → ClassId) (dI : Nat → Nat → Nat) (sz : Nat) (cq : Nat → ClassId) (Z : oS) (gI : oInv Z) (o : Nat) (to : oty Z o 6) : Met l yX6_asks wsX6_asks ({ frames := 0, cells := 0, slots := 0, locals := 0 }) (va_Pc [.ref o] (pcW (dC, dI) (oT cq) (oW cq Z) sz)) (va_Qi (fun (r : Int32) (u : Unit) => (0 ≤ r.toInt ∧ r.toInt ≤ 1) ∧ (r.toInt = b01 (akO Z o))) (fun _ _ => True) (va_A [] sz)) 0 0 (va_A [] sz) := by
  refine Met.ofW (cc := cX6_asks) (maxL := 5) (ret := (some .boolean)) (by decide) rfl ?_
  intro p e s m args below meth c s₁ B hml hv
  obtain ⟨rfl, hsz, hP, hK, hD0⟩ := hv
  have hx := B.exec
  have hb := B.bytes
  have hr := B.returns
  have hts := atoms_spec (ws := wsX6_asks) B.pre
  have hown : s.vm.findClass RX6 = some m.cls := findClass_of_methodNamed B.named
  have hlocks := B.notSynchronized
  subst hsz
  have hD := hD0
  generalize hAe : va_A [] s.heap.size = A at ⊢
  have hA : ∀ q : Nat, s.heap.size ≤ q → A q := fun q h => by rw [← hAe]; exact Or.inr h
  have hS : va_S A s.heap s.heap [] := va_S.rf
  have hP : va_P (dC, dI) vwCl (oW cq Z) s.heap := hP
  have hl := lv_entry ([.ref o]) (n := 5) (Nat.le_of_ble_eq_true rfl)
  rw [lg_entry_eq]
  generalize (lg_sl ([.ref o]) ++ List.replicate (5 - (lg_sl ([.ref o])).length) Slot.unset).toArray = ls at hl ⊢
  have hl : lv_has ls 5 [(0, .ref o)] := hl
  refine lv_aload_n hx hb dX6_asks_0 rfl (lv_at hl 0 rfl) ?_
  obtain ⟨q_1, hq_1⟩ := og (cq := cq) to.1 (oE_6 to.2)
  obtain ⟨b_2, hb_2⟩ := oInv.nn (i := 4) gI to rfl
  refine va_get (D := (dC, dI)) (ci := 6) (v := .ref b_2) (C := RX6) (T := TX6) (N := 6) hx hb hts in_wsX6_asks_X6 hown hK hP q_1 hq_1 rfl 4 (by decide) (hts (.fieldLink RX6 9 "ShipOffice$Man" "wages" "[I") iw_X6_asks_1) (fun _ h9 => h9) (o_rd hb_2) dX6_asks_1 ?_
  have tb_2 : oty Z b_2 104 := oInv.rd gI to.2 hb_2 rfl rfl
  refine lv_astore_n (lv' := [(1, .ref b_2), (0, .ref o)]) hx hb dX6_asks_4 rfl hl (by decide) rfl (fun ls hl => ?_)
  refine lv_aload_n hx hb dX6_asks_5 rfl (lv_at hl 0 rfl) ?_
  obtain ⟨q_3, hq_3⟩ := og (cq := cq) tb_2.1 (oE_a1 (n := 4) tb_2.2 (by decide))
  refine va_alen (v := 4) hx hb hK hP q_3 0 hq_3 rfl (show Int32.ofNat 4 = 4 by decide) dX6_asks_6 ?_
  refine lv_istore_n (lv' := [(2, .int 4), (1, .ref b_2), (0, .ref o)]) hx hb dX6_asks_7 rfl hl (by decide) rfl (fun ls hl => ?_)
  refine lv_iconst (v := 0) hx hb dX6_asks_8 (by decide) ?_
  refine lv_istore_n (lv' := [(3, .int 0), (2, .int 4), (1, .ref b_2), (0, .ref o)]) hx hb dX6_asks_9 rfl hl (by decide) rfl (fun ls hl => ?_)
  have cut_4 : ∀ (n : Nat) (y_5 : Int32) (H : Heap) (locs : List Loc) (ls : Array Slot), 4 - y_5.toInt ≤ (n : Int) → (0 ≤ y_5.toInt ∧ y_5.toInt ≤ 4) → (∀ j, j < y_5.toNatClampNeg → ¬ 0 < (oI Z b_2 j).toInt) → va_P (dC, dI) vwCl (oW cq Z) H → va_S A s.heap H locs → lv_has ls 5 [(3, .int y_5), (2, .int 4), (1, .ref b_2), (0, .ref o)] → W p l e (headSpec wsX6_asks { frames := 0, cells := 0, slots := 0, locals := 0 }).room s m #[Value.ref o] below meth c H locs 0 0 (MQ below (va_Qi (fun (r : Int32) (u : Unit) => (0 ≤ r.toInt ∧ r.toInt ≤ 1) ∧ (r.toInt = b01 (akO Z o))) (fun _ _ => True) A) #[Value.ref o] s 0 0 A) (F0 m 10 ls []) := by
    intro n
    induction n using Nat.strongRecOn with
    | ind n ih =>
      intro y_5 H locs ls hm hy_5 hq0_cut_4 hP hS hl
      refine lv_iload_n hx hb dX6_asks_10 rfl (lv_at hl 0 rfl) ?_
      refine lv_iload_n hx hb dX6_asks_11 rfl (lv_at hl 1 rfl) ?_
      refine lv_icmp_ge (tgt := 33) hx hb dX6_asks_12 (by decide) (fun c_6 => ?_) (fun c_6 => ?_)
      · have dc_6 := c_le (a := 4) (b := y_5.toInt) (by decide) rfl c_6
        refine lv_iconst (v := 0) hx hb dX6_asks_33 (by decide) ?_
        exact W.zret (v := 0) hx hb hr rfl (fun t ht hW => ⟨⟨0, (), rfl, ⟨(by decide), (b1_f (fun ⟨j, hj, hp⟩ => by rw [oQ_e hb_2] at hp; exact hq0_cut_4 j (by show j < y_5.toInt.toNat; omega) hp))⟩, trivial⟩, hS.F ht⟩) hS.2.2 dX6_asks_34
      · have dc_6 := c_nle (a := 4) (b := y_5.toInt) (by decide) rfl c_6
        refine lv_aload_n hx hb dX6_asks_15 rfl (lv_at hl 2 rfl) ?_
        refine lv_iload_n hx hb dX6_asks_16 rfl (lv_at hl 0 rfl) ?_
        obtain ⟨q_7, hq_7⟩ := og (cq := cq) tb_2.1 (oE_a1 (n := 4) tb_2.2 (by decide))
        refine va_iald hx hb hK hP q_7 0 hq_7 rfl (vp_in_iff.mpr (by omega)) dX6_asks_17 ?_
        refine lv_topi (fun x_8 ex_8 => ?_)
        have gx_8 : x_8.toInt = (oI Z b_2 (y_5 : Int32).toNatClampNeg).toInt := iv_to ex_8
        refine lv_istore (lv' := [(4, .int x_8), (3, .int y_5), (2, .int 4), (1, .ref b_2), (0, .ref o)]) hx hb dX6_asks_18 hl (by decide) rfl (fun ls hl => ?_)
        refine lv_iload hx hb dX6_asks_20 (lv_at hl 0 rfl) ?_
        refine lv_if_le (tgt := 27) hx hb dX6_asks_22 (by decide) (fun c_9 => ?_) (fun c_9 => ?_)
        · have dc_9 := c_le (a := x_8.toInt) (b := 0) rfl (by decide) c_9
          obtain ⟨x_10, ex_10⟩ : ∃ zq : Int32, y_5 + 1 = zq := ⟨_, rfl⟩
          have hx_10 : x_10.toInt = y_5.toInt + 1 := (iv_to ex_10).symm.trans (ad_i rfl (by decide) (by omega) (by omega))
          refine lv_iinc (v := x_10) (lv' := [(3, .int x_10), (4, .int x_8), (2, .int 4), (1, .ref b_2), (0, .ref o)]) hx hb dX6_asks_27 hl (k := 1) rfl ex_10 (by decide) rfl (fun ls hl => ?_)
          clear ex_10
          refine lv_goto (tgt := 10) hx hb dX6_asks_30 (by decide) ?_
          exact ih (n - 1) (by omega) x_10 _ _ ls (by omega) (by omega) (al_s hq0_cut_4 (fun q => by omega) (by omega) (by omega)) hP hS (lv_sub hl [0, 2, 3, 4] rfl)
        · have dc_9 := c_nle (a := x_8.toInt) (b := 0) rfl (by decide) c_9
          refine lv_iconst (v := 1) hx hb dX6_asks_25 (by decide) ?_
          exact W.zret (v := 1) hx hb hr rfl (fun t ht hW => ⟨⟨1, (), rfl, ⟨(by decide), (b1_t ⟨y_5.toNatClampNeg, (show y_5.toInt.toNat < 4 by omega), by rw [oQ_e hb_2]; omega⟩)⟩, trivial⟩, hS.F ht⟩) hS.2.2 dX6_asks_26
  have kc_11 : (0 : Int32).toInt = 0 := by decide
  exact cut_4 5 0 _ _ ls (by omega) (by decide) (al_0 (by decide)) hP hS (lv_sub hl [0, 1, 2, 3] rfl)
set_option maxHeartbeats 4000000 in
set_option maxRecDepth 100000 in
theorem c_X10_menWhoAsk_c (l : Launch) (dC : Nat → ClassId) (dI : Nat → Nat → Nat) (sz : Nat) (cq : Nat → ClassId) (Z : oS) (gI : oInv Z) (o : Nat) (to : oty Z o 10) (v : Nat → Int32) (fa : Nat → Nat → Int32) (hR : RC Z o v fa) (hRa : rAs Z o v fa) : Met l yX10_menWhoAsk wsX10_menWhoAsk ({ frames := 1, cells := 0, slots := 0, locals := 24 }) (va_Pc [.ref o] (pcW (dC, dI) (oT cq) (oW cq Z) sz)) (va_Qi (fun (r : Int32) (u : Unit) => (r.toInt = cnN (akP fa) (v 39).toNatClampNeg)) (fun _ _ => True) (va_A [] sz)) 0 0 (va_A [] sz) := by
  refine Met.ofW (cc := cX10_menWhoAsk) (maxL := 3) (ret := (some .int)) (by decide) rfl ?_
  intro p e s m args below meth c s₁ B hml hv
  obtain ⟨rfl, hsz, hP, hK, hD0⟩ := hv
  have hx := B.exec
  have hb := B.bytes
  have hr := B.returns
  have hts := atoms_spec (ws := wsX10_menWhoAsk) B.pre
  have hown : s.vm.findClass RX10 = some m.cls := findClass_of_methodNamed B.named
  have hlocks := B.notSynchronized
  subst hsz
  have hD := hD0
  generalize hAe : va_A [] s.heap.size = A at ⊢
  have hA : ∀ q : Nat, s.heap.size ≤ q → A q := fun q h => by rw [← hAe]; exact Or.inr h
  have hS : va_S A s.heap s.heap [] := va_S.rf
  have hP : va_P (dC, dI) vwCl (oW cq Z) s.heap := hP
  have hl := lv_entry ([.ref o]) (n := 3) (Nat.le_of_ble_eq_true rfl)
  rw [lg_entry_eq]
  generalize (lg_sl ([.ref o]) ++ List.replicate (3 - (lg_sl ([.ref o])).length) Slot.unset).toArray = ls at hl ⊢
  have hl : lv_has ls 3 [(0, .ref o)] := hl
  obtain ⟨fn0, fn1, fn2, fn3, fn4⟩ := RC.n hR
  have fb38 : 0 ≤ (v 38).toInt ∧ (v 38).toInt ≤ 3000 := RC.V hR 38
  have fb39 : 0 ≤ (v 39).toInt ∧ (v 39).toInt ≤ 40 := RC.V hR 39
  have fb40 : 0 ≤ (v 40).toInt ∧ (v 40).toInt ≤ 20 := RC.V hR 40
  have fb43 : 0 ≤ (v 43).toInt ∧ (v 43).toInt ≤ 60 := RC.V hR 43
  have fb41 : 0 ≤ (v 41).toInt ∧ (v 41).toInt ≤ 200 := RC.V hR 41
  refine lv_iconst (v := 0) hx hb dX10_menWhoAsk_0 (by decide) ?_
  refine lv_istore_n (lv' := [(1, .int 0), (0, .ref o)]) hx hb dX10_menWhoAsk_1 rfl hl (by decide) rfl (fun ls hl => ?_)
  refine lv_iconst (v := 0) hx hb dX10_menWhoAsk_2 (by decide) ?_
  refine lv_istore_n (lv' := [(2, .int 0), (1, .int 0), (0, .ref o)]) hx hb dX10_menWhoAsk_3 rfl hl (by decide) rfl (fun ls hl => ?_)
  have cut_1 : ∀ (n : Nat) (y_2 : Int32) (y_3 : Int32) (H : Heap) (locs : List Loc) (ls : Array Slot), 40 - y_3.toInt ≤ (n : Int) → (0 ≤ y_2.toInt ∧ y_2.toInt ≤ 40) → (0 ≤ y_3.toInt ∧ y_3.toInt ≤ 40) → y_2.toInt = cnN (akP fa) y_3.toNatClampNeg → y_2.toInt ≤ y_3.toInt → y_3.toInt ≤ (v 39).toInt → va_P (dC, dI) vwCl (oW cq Z) H → va_S A s.heap H locs → lv_has ls 3 [(1, .int y_2), (2, .int y_3), (0, .ref o)] → W p l e (headSpec wsX10_menWhoAsk { frames := 1, cells := 0, slots := 0, locals := 24 }).room s m #[Value.ref o] below meth c H locs 0 0 (MQ below (va_Qi (fun (r : Int32) (u : Unit) => (r.toInt = cnN (akP fa) (v 39).toNatClampNeg)) (fun _ _ => True) A) #[Value.ref o] s 0 0 A) (F0 m 4 ls []) := by
    intro n
    induction n using Nat.strongRecOn with
    | ind n ih =>
      intro y_2 y_3 H locs ls hm hy_2 hy_3 hq0_cut_1 hq1_cut_1 hq2_cut_1 hP hS hl
      refine lv_iload_n hx hb dX10_menWhoAsk_4 rfl (lv_at hl 1 rfl) ?_
      refine lv_aload_n hx hb dX10_menWhoAsk_5 rfl (lv_at hl 2 rfl) ?_
      obtain ⟨q_4, hq_4⟩ := og (cq := cq) to.1 (oE_10 to.2)
      refine va_get (D := (dC, dI)) (ci := 10) (v := .int (oI Z o 2)) (C := RX10) (T := TX10) (N := 16) hx hb hts in_wsX10_menWhoAsk_X10 hown hK hP q_4 hq_4 rfl 2 (by decide) (hts (.fieldLink RX10 86 "ShipOffice" "manCount" "I") iw_X10_menWhoAsk_1) (fun _ h9 => h9) rfl dX10_menWhoAsk_6 ?_
      refine lv_topi (fun x_5 ex_5 => ?_)
      have hx_5 : 0 ≤ x_5.toInt ∧ x_5.toInt ≤ 40 := iv_of ex_5 (oInv.iv gI to.2 rfl rfl)
      have gx_5 : x_5.toInt = (oI Z o 2).toInt := iv_to ex_5
      clear ex_5
      refine lv_icmp_ge (tgt := 33) hx hb dX10_menWhoAsk_9 (by decide) (fun c_6 => ?_) (fun c_6 => ?_)
      · have dc_6 := c_le (a := x_5.toInt) (b := y_3.toInt) rfl rfl c_6
        refine lv_iload_n hx hb dX10_menWhoAsk_33 rfl (lv_at hl 0 rfl) ?_
        exact W.iret (v := y_2) hx hb hr (fun t ht hW => ⟨⟨y_2, (), rfl, (by have hc9 := hq0_cut_1; rw [show y_3.toNatClampNeg = (v 39).toNatClampNeg from (show y_3.toInt.toNat = (v 39).toInt.toNat by omega)] at hc9; omega), trivial⟩, hS.F ht⟩) hS.2.2 dX10_menWhoAsk_34
      · have dc_6 := c_nle (a := x_5.toInt) (b := y_3.toInt) rfl rfl c_6
        refine lv_aload_n hx hb dX10_menWhoAsk_12 rfl (lv_at hl 2 rfl) ?_
        obtain ⟨b_7, hb_7⟩ := oInv.nn (i := 1) gI to rfl
        refine va_get (D := (dC, dI)) (ci := 10) (v := .ref b_7) (C := RX10) (T := TX10) (N := 16) hx hb hts in_wsX10_menWhoAsk_X10 hown hK hP q_4 hq_4 rfl 1 (by decide) (hts (.fieldLink RX10 11 "ShipOffice" "men" "[LShipOffice$Man;") iw_X10_menWhoAsk_2) (fun _ h9 => h9) (o_rd hb_7) dX10_menWhoAsk_13 ?_
        have tb_7 : oty Z b_7 14 := oInv.rd gI to.2 hb_7 rfl rfl
        refine lv_iload_n hx hb dX10_menWhoAsk_16 rfl (lv_at hl 1 rfl) ?_
        obtain ⟨q_8, hq_8⟩ := og (cq := cq) tb_7.1 (oE_14 tb_7.2)
        refine va_aldq hx hb hK hP q_8 3 hq_8 rfl (vp_in_iff.mpr (by omega)) dX10_menWhoAsk_17 ?_
        obtain ⟨b_9, hb_9⟩ := oInv.el (i := 2) (x := y_3) gI to rfl hb_7 (by omega) (by omega)
        refine W.eq (g2 := F0 m 18 ls [.ref b_9]) (congrArg (fun z => F0 m 18 ls [va_rf z]) hb_9) ?_
        have tb_9 : oty Z b_9 6 := oInv.rd gI tb_7.2 hb_9 rfl rfl
        have ejb_9 : b_9 = mnA Z o y_3.toNatClampNeg := by unfold mnA; rw [oQ_e hb_7, oQ_e hb_9]
        have ljb_9 : y_3.toNatClampNeg < (v 39).toNatClampNeg := ni_lt (by omega) (by omega)
        have njb_9 : ((y_3.toNatClampNeg : Nat) : Int) = y_3.toInt := tn_i (by omega)
        have fMb_9 := RC.m hR ljb_9
        rw [← ejb_9] at fMb_9
        obtain ⟨fz0b_9, fz1b_9, fz2b_9, fz3b_9⟩ := fMb_9
        rw [njb_9] at fz0b_9
        have hFc : ∀ q, va_A [] H.size q → A q := pu_free hS hA
        obtain ⟨q_10, hq_10⟩ := og (cq := cq) tb_9.1 (oE_6 tb_9.2)
        refine va_calli (va_runV (As := []) (rest := []) ⟨hx, hb, hml, hown, hts⟩ (c_X6_asks_c l dC dI H.size cq Z gI b_9 tb_9) (cwV 0 hts gX10_menWhoAsk_X6_asks rfl rfl rfl (by decide +kernel) ⟨(Nat.le_of_ble_eq_true rfl), (Nat.le_of_ble_eq_true rfl)⟩) (pr_V (r := (RX6, TX6, 6)) hP hK hD q_10 6 rfl hq_10) rfl rfl hl.1 rfl (lv_room (Nat.le_of_ble_eq_true rfl)) dX10_menWhoAsk_18 ⟨(Nat.le_of_ble_eq_true rfl), (Nat.le_of_ble_eq_true rfl)⟩) hS (fun q _ h => hFc q h) hFc (fun r_12 u t H locs ht hvm w_11 hB hz1 hk1 hS => ?_)
        have hP := pu_keep hP hk1
        clear hk1 hz1 hvm hB ht hFc
        obtain ⟨hb_13, hx_14⟩ := w_11
        refine lv_if_eq (tgt := 27) hx hb dX10_menWhoAsk_21 (by decide) (fun c_15 => ?_) (fun c_15 => ?_)
        · have dc_15 := c_eq (a := r_12.toInt) (b := 0) rfl (by decide) c_15
          obtain ⟨x_16, ex_16⟩ : ∃ zq : Int32, y_3 + 1 = zq := ⟨_, rfl⟩
          have hx_16 : x_16.toInt = y_3.toInt + 1 := (iv_to ex_16).symm.trans (ad_i rfl (by decide) (by omega) (by omega))
          refine lv_iinc (v := x_16) (lv' := [(2, .int x_16), (1, .int y_2), (0, .ref o)]) hx hb dX10_menWhoAsk_27 hl (k := 1) rfl ex_16 (by decide) rfl (fun ls hl => ?_)
          clear ex_16
          refine lv_goto (tgt := 4) hx hb dX10_menWhoAsk_30 (by decide) ?_
          exact ih (n - 1) (by omega) y_2 x_16 _ _ ls (by omega) (by omega) (by omega) (cnN_s hq0_cut_1 (by omega) (by omega) (show y_2.toInt = y_2.toInt + b01 (akP fa y_3.toNatClampNeg) from by have bq := b01_i (akP fa y_3.toNatClampNeg); have q9 : b01 (akO Z b_9) = b01 (akP fa y_3.toNatClampNeg) := b01_c (ak_e gI to hR hRa ljb_9 ejb_9); omega)) (by omega) (by omega) hP hS (lv_sub hl [1, 0, 2] rfl)
        · have dc_15 := c_ne (a := r_12.toInt) (b := 0) rfl (by decide) c_15
          obtain ⟨x_17, ex_17⟩ : ∃ zq : Int32, y_2 + 1 = zq := ⟨_, rfl⟩
          have hx_17 : x_17.toInt = y_2.toInt + 1 := (iv_to ex_17).symm.trans (ad_i rfl (by decide) (by omega) (by omega))
          refine lv_iinc (v := x_17) (lv' := [(1, .int x_17), (2, .int y_3), (0, .ref o)]) hx hb dX10_menWhoAsk_24 hl (k := 0) rfl ex_17 (by decide) rfl (fun ls hl => ?_)
          clear ex_17
          obtain ⟨x_18, ex_18⟩ : ∃ zq : Int32, y_3 + 1 = zq := ⟨_, rfl⟩
          have hx_18 : x_18.toInt = y_3.toInt + 1 := (iv_to ex_18).symm.trans (ad_i rfl (by decide) (by omega) (by omega))
          refine lv_iinc (v := x_18) (lv' := [(2, .int x_18), (1, .int x_17), (0, .ref o)]) hx hb dX10_menWhoAsk_27 hl (k := 1) rfl ex_18 (by decide) rfl (fun ls hl => ?_)
          clear ex_18
          refine lv_goto (tgt := 4) hx hb dX10_menWhoAsk_30 (by decide) ?_
          exact ih (n - 1) (by omega) x_17 x_18 _ _ ls (by omega) (by omega) (by omega) (cnN_s hq0_cut_1 (by omega) (by omega) (show x_17.toInt = y_2.toInt + b01 (akP fa y_3.toNatClampNeg) from by have bq := b01_i (akP fa y_3.toNatClampNeg); have q9 : b01 (akO Z b_9) = b01 (akP fa y_3.toNatClampNeg) := b01_c (ak_e gI to hR hRa ljb_9 ejb_9); omega)) (by omega) (by omega) hP hS (lv_sub hl [1, 0, 2] rfl)
  have kc_19 : (0 : Int32).toInt = 0 := by decide
  exact cut_1 41 0 0 _ _ ls (by omega) (by decide) (by decide) (cnN_0 (by decide) (by decide)) (by decide) (by have rc : (0 : Int32).toInt = 0 := (by decide); omega) hP hS (lv_sub hl [1, 0, 2] rfl)
set_option maxHeartbeats 4000000 in
set_option maxRecDepth 100000 in
theorem c_X10_openVoyages_c (l : Launch) (dC : Nat → ClassId) (dI : Nat → Nat → Nat) (sz : Nat) (cq : Nat → ClassId) (Z : oS) (gI : oInv Z) (o : Nat) (to : oty Z o 10) (v : Nat → Int32) (fa : Nat → Nat → Int32) (hR : RC Z o v fa) : Met l yX10_openVoyages wsX10_openVoyages ({ frames := 0, cells := 0, slots := 0, locals := 0 }) (va_Pc [.ref o] (pcW (dC, dI) (oT cq) (oW cq Z) sz)) (va_Qi (fun (r : Int32) (u : Unit) => (r.toInt = cnN (enP9 fa) (v 40).toNatClampNeg)) (fun _ _ => True) (va_A [] sz)) 0 0 (va_A [] sz) := by
  refine Met.ofW (cc := cX10_openVoyages) (maxL := 3) (ret := (some .int)) (by decide) rfl ?_
  intro p e s m args below meth c s₁ B hml hv
  obtain ⟨rfl, hsz, hP, hK, hD0⟩ := hv
  have hx := B.exec
  have hb := B.bytes
  have hr := B.returns
  have hts := atoms_spec (ws := wsX10_openVoyages) B.pre
  have hown : s.vm.findClass RX10 = some m.cls := findClass_of_methodNamed B.named
  have hlocks := B.notSynchronized
  subst hsz
  have hD := hD0
  generalize hAe : va_A [] s.heap.size = A at ⊢
  have hA : ∀ q : Nat, s.heap.size ≤ q → A q := fun q h => by rw [← hAe]; exact Or.inr h
  have hS : va_S A s.heap s.heap [] := va_S.rf
  have hP : va_P (dC, dI) vwCl (oW cq Z) s.heap := hP
  have hl := lv_entry ([.ref o]) (n := 3) (Nat.le_of_ble_eq_true rfl)
  rw [lg_entry_eq]
  generalize (lg_sl ([.ref o]) ++ List.replicate (3 - (lg_sl ([.ref o])).length) Slot.unset).toArray = ls at hl ⊢
  have hl : lv_has ls 3 [(0, .ref o)] := hl
  obtain ⟨fn0, fn1, fn2, fn3, fn4⟩ := RC.n hR
  have fb38 : 0 ≤ (v 38).toInt ∧ (v 38).toInt ≤ 3000 := RC.V hR 38
  have fb39 : 0 ≤ (v 39).toInt ∧ (v 39).toInt ≤ 40 := RC.V hR 39
  have fb40 : 0 ≤ (v 40).toInt ∧ (v 40).toInt ≤ 20 := RC.V hR 40
  have fb43 : 0 ≤ (v 43).toInt ∧ (v 43).toInt ≤ 60 := RC.V hR 43
  have fb41 : 0 ≤ (v 41).toInt ∧ (v 41).toInt ≤ 200 := RC.V hR 41
  refine lv_iconst (v := 0) hx hb dX10_openVoyages_0 (by decide) ?_
  refine lv_istore_n (lv' := [(1, .int 0), (0, .ref o)]) hx hb dX10_openVoyages_1 rfl hl (by decide) rfl (fun ls hl => ?_)
  refine lv_iconst (v := 0) hx hb dX10_openVoyages_2 (by decide) ?_
  refine lv_istore_n (lv' := [(2, .int 0), (1, .int 0), (0, .ref o)]) hx hb dX10_openVoyages_3 rfl hl (by decide) rfl (fun ls hl => ?_)
  have cut_1 : ∀ (n : Nat) (y_2 : Int32) (y_3 : Int32) (H : Heap) (locs : List Loc) (ls : Array Slot), 20 - y_3.toInt ≤ (n : Int) → (0 ≤ y_2.toInt ∧ y_2.toInt ≤ 20) → (0 ≤ y_3.toInt ∧ y_3.toInt ≤ 20) → y_2.toInt = cnN (enP9 fa) y_3.toNatClampNeg → y_2.toInt ≤ y_3.toInt → y_3.toInt ≤ (v 40).toInt → va_P (dC, dI) vwCl (oW cq Z) H → va_S A s.heap H locs → lv_has ls 3 [(1, .int y_2), (2, .int y_3), (0, .ref o)] → W p l e (headSpec wsX10_openVoyages { frames := 0, cells := 0, slots := 0, locals := 0 }).room s m #[Value.ref o] below meth c H locs 0 0 (MQ below (va_Qi (fun (r : Int32) (u : Unit) => (r.toInt = cnN (enP9 fa) (v 40).toNatClampNeg)) (fun _ _ => True) A) #[Value.ref o] s 0 0 A) (F0 m 4 ls []) := by
    intro n
    induction n using Nat.strongRecOn with
    | ind n ih =>
      intro y_2 y_3 H locs ls hm hy_2 hy_3 hq0_cut_1 hq1_cut_1 hq2_cut_1 hP hS hl
      refine lv_iload_n hx hb dX10_openVoyages_4 rfl (lv_at hl 1 rfl) ?_
      refine lv_aload_n hx hb dX10_openVoyages_5 rfl (lv_at hl 2 rfl) ?_
      obtain ⟨q_4, hq_4⟩ := og (cq := cq) to.1 (oE_10 to.2)
      refine va_get (D := (dC, dI)) (ci := 10) (v := .int (oI Z o 4)) (C := RX10) (T := TX10) (N := 16) hx hb hts in_wsX10_openVoyages_X10 hown hK hP q_4 hq_4 rfl 4 (by decide) (hts (.fieldLink RX10 99 "ShipOffice" "voyageCount" "I") iw_X10_openVoyages_1) (fun _ h9 => h9) rfl dX10_openVoyages_6 ?_
      refine lv_topi (fun x_5 ex_5 => ?_)
      have hx_5 : 0 ≤ x_5.toInt ∧ x_5.toInt ≤ 20 := iv_of ex_5 (oInv.iv gI to.2 rfl rfl)
      have gx_5 : x_5.toInt = (oI Z o 4).toInt := iv_to ex_5
      clear ex_5
      refine lv_icmp_ge (tgt := 33) hx hb dX10_openVoyages_9 (by decide) (fun c_6 => ?_) (fun c_6 => ?_)
      · have dc_6 := c_le (a := x_5.toInt) (b := y_3.toInt) rfl rfl c_6
        refine lv_iload_n hx hb dX10_openVoyages_33 rfl (lv_at hl 0 rfl) ?_
        exact W.iret (v := y_2) hx hb hr (fun t ht hW => ⟨⟨y_2, (), rfl, (by have hc9 := hq0_cut_1; rw [show y_3.toNatClampNeg = (v 40).toNatClampNeg from (show y_3.toInt.toNat = (v 40).toInt.toNat by omega)] at hc9; omega), trivial⟩, hS.F ht⟩) hS.2.2 dX10_openVoyages_34
      · have dc_6 := c_nle (a := x_5.toInt) (b := y_3.toInt) rfl rfl c_6
        refine lv_aload_n hx hb dX10_openVoyages_12 rfl (lv_at hl 2 rfl) ?_
        obtain ⟨b_7, hb_7⟩ := oInv.nn (i := 3) gI to rfl
        refine va_get (D := (dC, dI)) (ci := 10) (v := .ref b_7) (C := RX10) (T := TX10) (N := 16) hx hb hts in_wsX10_openVoyages_X10 hown hK hP q_4 hq_4 rfl 3 (by decide) (hts (.fieldLink RX10 17 "ShipOffice" "voyages" "[LShipOffice$Voyage;") iw_X10_openVoyages_2) (fun _ h9 => h9) (o_rd hb_7) dX10_openVoyages_13 ?_
        have tb_7 : oty Z b_7 15 := oInv.rd gI to.2 hb_7 rfl rfl
        refine lv_iload_n hx hb dX10_openVoyages_16 rfl (lv_at hl 1 rfl) ?_
        obtain ⟨q_8, hq_8⟩ := og (cq := cq) tb_7.1 (oE_15 tb_7.2)
        refine va_aldq hx hb hK hP q_8 4 hq_8 rfl (vp_in_iff.mpr (by omega)) dX10_openVoyages_17 ?_
        obtain ⟨b_9, hb_9⟩ := oInv.el (i := 4) (x := y_3) gI to rfl hb_7 (by omega) (by omega)
        refine W.eq (g2 := F0 m 18 ls [.ref b_9]) (congrArg (fun z => F0 m 18 ls [va_rf z]) hb_9) ?_
        have tb_9 : oty Z b_9 9 := oInv.rd gI tb_7.2 hb_9 rfl rfl
        have ejb_9 : b_9 = voA Z o y_3.toNatClampNeg := by unfold voA; rw [oQ_e hb_7, oQ_e hb_9]
        have ljb_9 : y_3.toNatClampNeg < (v 40).toNatClampNeg := ni_lt (by omega) (by omega)
        have njb_9 : ((y_3.toNatClampNeg : Nat) : Int) = y_3.toInt := tn_i (by omega)
        have fVb_9 := RC.vo hR ljb_9
        rw [← ejb_9] at fVb_9
        obtain ⟨fy0b_9, fy1b_9, fy2b_9, fy3b_9, fy4b_9, fySb_9, fyLb_9, fyhb_9⟩ := fVb_9
        have fBb_9 : 0 ≤ (fa 7 y_3.toNatClampNeg).toInt ∧ (fa 7 y_3.toNatClampNeg).toInt ≤ 3000 := RC.A hR 7 _
        have fSb_9 := onc_i fySb_9
        have fLb_9 := onc_i fyLb_9
        rw [njb_9] at fy0b_9 fSb_9 fLb_9
        obtain ⟨q_10, hq_10⟩ := og (cq := cq) tb_9.1 (oE_9 tb_9.2)
        refine va_get (D := (dC, dI)) (ci := 9) (v := .int (oI Z b_9 4)) (C := RX9) (T := TX9) (N := 10) hx hb hts in_wsX10_openVoyages_X9 hown hK hP q_10 hq_10 rfl 4 (by decide) (hts (.fieldLink RX10 107 "ShipOffice$Voyage" "isOver" "Z") iw_X10_openVoyages_3) (fun _ h9 => h9) rfl dX10_openVoyages_18 ?_
        refine lv_topi (fun x_11 ex_11 => ?_)
        have gx_11 : x_11.toInt = (oI Z b_9 4).toInt := iv_to ex_11
        clear ex_11
        refine lv_if_ne (tgt := 27) hx hb dX10_openVoyages_21 (by decide) (fun c_12 => ?_) (fun c_12 => ?_)
        · have dc_12 := c_ne (a := x_11.toInt) (b := 0) rfl (by decide) c_12
          obtain ⟨x_13, ex_13⟩ : ∃ zq : Int32, y_3 + 1 = zq := ⟨_, rfl⟩
          have hx_13 : x_13.toInt = y_3.toInt + 1 := (iv_to ex_13).symm.trans (ad_i rfl (by decide) (by omega) (by omega))
          refine lv_iinc (v := x_13) (lv' := [(2, .int x_13), (1, .int y_2), (0, .ref o)]) hx hb dX10_openVoyages_27 hl (k := 1) rfl ex_13 (by decide) rfl (fun ls hl => ?_)
          clear ex_13
          refine lv_goto (tgt := 4) hx hb dX10_openVoyages_30 (by decide) ?_
          exact ih (n - 1) (by omega) y_2 x_13 _ _ ls (by omega) (by omega) (by omega) (cnN_s hq0_cut_1 (by omega) (by omega) (show y_2.toInt = y_2.toInt + b01 (enP9 fa y_3.toNatClampNeg) from by have bq := b01_i (enP9 fa y_3.toNatClampNeg); have q9 : (b01 (enP9 fa y_3.toNatClampNeg) = 1 ∧ (fa 9 y_3.toNatClampNeg).toInt < 0) ∨ (b01 (enP9 fa y_3.toNatClampNeg) = 0 ∧ 0 ≤ (fa 9 y_3.toNatClampNeg).toInt) := en_b fa _; omega)) (by omega) (by omega) hP hS (lv_sub hl [1, 0, 2] rfl)
        · have dc_12 := c_eq (a := x_11.toInt) (b := 0) rfl (by decide) c_12
          obtain ⟨x_14, ex_14⟩ : ∃ zq : Int32, y_2 + 1 = zq := ⟨_, rfl⟩
          have hx_14 : x_14.toInt = y_2.toInt + 1 := (iv_to ex_14).symm.trans (ad_i rfl (by decide) (by omega) (by omega))
          refine lv_iinc (v := x_14) (lv' := [(1, .int x_14), (2, .int y_3), (0, .ref o)]) hx hb dX10_openVoyages_24 hl (k := 0) rfl ex_14 (by decide) rfl (fun ls hl => ?_)
          clear ex_14
          obtain ⟨x_15, ex_15⟩ : ∃ zq : Int32, y_3 + 1 = zq := ⟨_, rfl⟩
          have hx_15 : x_15.toInt = y_3.toInt + 1 := (iv_to ex_15).symm.trans (ad_i rfl (by decide) (by omega) (by omega))
          refine lv_iinc (v := x_15) (lv' := [(2, .int x_15), (1, .int x_14), (0, .ref o)]) hx hb dX10_openVoyages_27 hl (k := 1) rfl ex_15 (by decide) rfl (fun ls hl => ?_)
          clear ex_15
          refine lv_goto (tgt := 4) hx hb dX10_openVoyages_30 (by decide) ?_
          exact ih (n - 1) (by omega) x_14 x_15 _ _ ls (by omega) (by omega) (by omega) (cnN_s hq0_cut_1 (by omega) (by omega) (show x_14.toInt = y_2.toInt + b01 (enP9 fa y_3.toNatClampNeg) from by have bq := b01_i (enP9 fa y_3.toNatClampNeg); have q9 : (b01 (enP9 fa y_3.toNatClampNeg) = 1 ∧ (fa 9 y_3.toNatClampNeg).toInt < 0) ∨ (b01 (enP9 fa y_3.toNatClampNeg) = 0 ∧ 0 ≤ (fa 9 y_3.toNatClampNeg).toInt) := en_b fa _; omega)) (by omega) (by omega) hP hS (lv_sub hl [1, 0, 2] rfl)
  have kc_16 : (0 : Int32).toInt = 0 := by decide
  exact cut_1 21 0 0 _ _ ls (by omega) (by decide) (by decide) (cnN_0 (by decide) (by decide)) (by decide) (by have rc : (0 : Int32).toInt = 0 := (by decide); omega) hP hS (lv_sub hl [1, 0, 2] rfl)
set_option maxHeartbeats 4000000 in
set_option maxRecDepth 100000 in
theorem c_X10_openAgreements_c (l : Launch) (dC : Nat → ClassId) (dI : Nat → Nat → Nat) (sz : Nat) (cq : Nat → ClassId) (Z : oS) (gI : oInv Z) (o : Nat) (to : oty Z o 10) (v : Nat → Int32) (fa : Nat → Nat → Int32) (hR : RC Z o v fa) : Met l yX10_openAgreements wsX10_openAgreements ({ frames := 1, cells := 0, slots := 0, locals := 20 }) (va_Pc [.ref o] (pcW (dC, dI) (oT cq) (oW cq Z) sz)) (va_Qi (fun (r : Int32) (u : Unit) => (r.toInt = cnN (gnP9 v fa) (v 43).toNatClampNeg)) (fun _ _ => True) (va_A [] sz)) 0 0 (va_A [] sz) := by
  refine Met.ofW (cc := cX10_openAgreements) (maxL := 3) (ret := (some .int)) (by decide) rfl ?_
  intro p e s m args below meth c s₁ B hml hv
  obtain ⟨rfl, hsz, hP, hK, hD0⟩ := hv
  have hx := B.exec
  have hb := B.bytes
  have hr := B.returns
  have hts := atoms_spec (ws := wsX10_openAgreements) B.pre
  have hown : s.vm.findClass RX10 = some m.cls := findClass_of_methodNamed B.named
  have hlocks := B.notSynchronized
  subst hsz
  have hD := hD0
  generalize hAe : va_A [] s.heap.size = A at ⊢
  have hA : ∀ q : Nat, s.heap.size ≤ q → A q := fun q h => by rw [← hAe]; exact Or.inr h
  have hS : va_S A s.heap s.heap [] := va_S.rf
  have hP : va_P (dC, dI) vwCl (oW cq Z) s.heap := hP
  have hl := lv_entry ([.ref o]) (n := 3) (Nat.le_of_ble_eq_true rfl)
  rw [lg_entry_eq]
  generalize (lg_sl ([.ref o]) ++ List.replicate (3 - (lg_sl ([.ref o])).length) Slot.unset).toArray = ls at hl ⊢
  have hl : lv_has ls 3 [(0, .ref o)] := hl
  obtain ⟨fn0, fn1, fn2, fn3, fn4⟩ := RC.n hR
  have fb38 : 0 ≤ (v 38).toInt ∧ (v 38).toInt ≤ 3000 := RC.V hR 38
  have fb39 : 0 ≤ (v 39).toInt ∧ (v 39).toInt ≤ 40 := RC.V hR 39
  have fb40 : 0 ≤ (v 40).toInt ∧ (v 40).toInt ≤ 20 := RC.V hR 40
  have fb43 : 0 ≤ (v 43).toInt ∧ (v 43).toInt ≤ 60 := RC.V hR 43
  have fb41 : 0 ≤ (v 41).toInt ∧ (v 41).toInt ≤ 200 := RC.V hR 41
  refine lv_iconst (v := 0) hx hb dX10_openAgreements_0 (by decide) ?_
  refine lv_istore_n (lv' := [(1, .int 0), (0, .ref o)]) hx hb dX10_openAgreements_1 rfl hl (by decide) rfl (fun ls hl => ?_)
  refine lv_iconst (v := 0) hx hb dX10_openAgreements_2 (by decide) ?_
  refine lv_istore_n (lv' := [(2, .int 0), (1, .int 0), (0, .ref o)]) hx hb dX10_openAgreements_3 rfl hl (by decide) rfl (fun ls hl => ?_)
  have cut_1 : ∀ (n : Nat) (y_2 : Int32) (y_3 : Int32) (H : Heap) (locs : List Loc) (ls : Array Slot), 60 - y_3.toInt ≤ (n : Int) → (0 ≤ y_2.toInt ∧ y_2.toInt ≤ 60) → (0 ≤ y_3.toInt ∧ y_3.toInt ≤ 60) → y_2.toInt = cnN (gnP9 v fa) y_3.toNatClampNeg → y_2.toInt ≤ y_3.toInt → y_3.toInt ≤ (v 43).toInt → va_P (dC, dI) vwCl (oW cq Z) H → va_S A s.heap H locs → lv_has ls 3 [(1, .int y_2), (2, .int y_3), (0, .ref o)] → W p l e (headSpec wsX10_openAgreements { frames := 1, cells := 0, slots := 0, locals := 20 }).room s m #[Value.ref o] below meth c H locs 0 0 (MQ below (va_Qi (fun (r : Int32) (u : Unit) => (r.toInt = cnN (gnP9 v fa) (v 43).toNatClampNeg)) (fun _ _ => True) A) #[Value.ref o] s 0 0 A) (F0 m 4 ls []) := by
    intro n
    induction n using Nat.strongRecOn with
    | ind n ih =>
      intro y_2 y_3 H locs ls hm hy_2 hy_3 hq0_cut_1 hq1_cut_1 hq2_cut_1 hP hS hl
      refine lv_iload_n hx hb dX10_openAgreements_4 rfl (lv_at hl 1 rfl) ?_
      refine lv_aload_n hx hb dX10_openAgreements_5 rfl (lv_at hl 2 rfl) ?_
      obtain ⟨q_4, hq_4⟩ := og (cq := cq) to.1 (oE_10 to.2)
      refine va_get (D := (dC, dI)) (ci := 10) (v := .int (oI Z o 6)) (C := RX10) (T := TX10) (N := 16) hx hb hts in_wsX10_openAgreements_X10 hown hK hP q_4 hq_4 rfl 6 (by decide) (hts (.fieldLink RX10 115 "ShipOffice" "agreementCount" "I") iw_X10_openAgreements_1) (fun _ h9 => h9) rfl dX10_openAgreements_6 ?_
      refine lv_topi (fun x_5 ex_5 => ?_)
      have hx_5 : 0 ≤ x_5.toInt ∧ x_5.toInt ≤ 60 := iv_of ex_5 (oInv.iv gI to.2 rfl rfl)
      have gx_5 : x_5.toInt = (oI Z o 6).toInt := iv_to ex_5
      clear ex_5
      refine lv_icmp_ge (tgt := 33) hx hb dX10_openAgreements_9 (by decide) (fun c_6 => ?_) (fun c_6 => ?_)
      · have dc_6 := c_le (a := x_5.toInt) (b := y_3.toInt) rfl rfl c_6
        refine lv_iload_n hx hb dX10_openAgreements_33 rfl (lv_at hl 0 rfl) ?_
        exact W.iret (v := y_2) hx hb hr (fun t ht hW => ⟨⟨y_2, (), rfl, (by have hc9 := hq0_cut_1; rw [show y_3.toNatClampNeg = (v 43).toNatClampNeg from (show y_3.toInt.toNat = (v 43).toInt.toNat by omega)] at hc9; omega), trivial⟩, hS.F ht⟩) hS.2.2 dX10_openAgreements_34
      · have dc_6 := c_nle (a := x_5.toInt) (b := y_3.toInt) rfl rfl c_6
        refine lv_aload_n hx hb dX10_openAgreements_12 rfl (lv_at hl 2 rfl) ?_
        obtain ⟨b_7, hb_7⟩ := oInv.nn (i := 5) gI to rfl
        refine va_get (D := (dC, dI)) (ci := 10) (v := .ref b_7) (C := RX10) (T := TX10) (N := 16) hx hb hts in_wsX10_openAgreements_X10 hown hK hP q_4 hq_4 rfl 5 (by decide) (hts (.fieldLink RX10 23 "ShipOffice" "agreements" "[LShipOffice$Agreement;") iw_X10_openAgreements_2) (fun _ h9 => h9) (o_rd hb_7) dX10_openAgreements_13 ?_
        have tb_7 : oty Z b_7 16 := oInv.rd gI to.2 hb_7 rfl rfl
        refine lv_iload_n hx hb dX10_openAgreements_16 rfl (lv_at hl 1 rfl) ?_
        obtain ⟨q_8, hq_8⟩ := og (cq := cq) tb_7.1 (oE_16 tb_7.2)
        refine va_aldq hx hb hK hP q_8 5 hq_8 rfl (vp_in_iff.mpr (by omega)) dX10_openAgreements_17 ?_
        obtain ⟨b_9, hb_9⟩ := oInv.el (i := 6) (x := y_3) gI to rfl hb_7 (by omega) (by omega)
        refine W.eq (g2 := F0 m 18 ls [.ref b_9]) (congrArg (fun z => F0 m 18 ls [va_rf z]) hb_9) ?_
        have tb_9 : oty Z b_9 1 := oInv.rd gI tb_7.2 hb_9 rfl rfl
        have ejb_9 : b_9 = agA Z o y_3.toNatClampNeg := by unfold agA; rw [oQ_e hb_7, oQ_e hb_9]
        have ljb_9 : y_3.toNatClampNeg < (v 43).toNatClampNeg := ni_lt (by omega) (by omega)
        have njb_9 : ((y_3.toNatClampNeg : Nat) : Int) = y_3.toInt := tn_i (by omega)
        have fAb_9 := RC.a hR ljb_9
        rw [← ejb_9] at fAb_9
        obtain ⟨⟨fm1b_9, fm2b_9, fm3b_9⟩, ⟨fv1b_9, fv2b_9, fv3b_9⟩, fsib_9, fppb_9, fwgb_9, frkb_9, fofb_9, fdeb_9, fchb_9⟩ := fAb_9
        have fBb_9 : 0 ≤ (fa 25 y_3.toNatClampNeg).toInt ∧ (fa 25 y_3.toNatClampNeg).toInt ≤ 3000 := RC.A hR 25 _
        have lamb_9 : (fa 20 y_3.toNatClampNeg).toNatClampNeg < (v 39).toNatClampNeg := ni_lt fm1b_9 fm2b_9
        have namb_9 : (((fa 20 y_3.toNatClampNeg).toNatClampNeg : Nat) : Int) = (fa 20 y_3.toNatClampNeg).toInt := tn_i fm1b_9
        obtain ⟨amb_9, eamb_9⟩ : ∃ z, z = mnA Z o (fa 20 y_3.toNatClampNeg).toNatClampNeg := ⟨_, rfl⟩
        rw [← eamb_9] at fm3b_9
        have tamb_9 : oty Z amb_9 6 := by rw [eamb_9]; exact (RC.tm hR gI to lamb_9).2
        have fMamb_9 := RC.m hR lamb_9
        rw [← eamb_9] at fMamb_9
        obtain ⟨fz0amb_9, fz1amb_9, fz2amb_9, fz3amb_9⟩ := fMamb_9
        rw [namb_9] at fz0amb_9
        have lavb_9 : (fa 21 y_3.toNatClampNeg).toNatClampNeg < (v 40).toNatClampNeg := ni_lt fv1b_9 fv2b_9
        have navb_9 : (((fa 21 y_3.toNatClampNeg).toNatClampNeg : Nat) : Int) = (fa 21 y_3.toNatClampNeg).toInt := tn_i fv1b_9
        obtain ⟨avb_9, eavb_9⟩ : ∃ z, z = voA Z o (fa 21 y_3.toNatClampNeg).toNatClampNeg := ⟨_, rfl⟩
        rw [← eavb_9] at fv3b_9
        have tavb_9 : oty Z avb_9 9 := by rw [eavb_9]; exact (RC.tv hR gI to lavb_9).2
        have fVavb_9 := RC.vo hR lavb_9
        rw [← eavb_9] at fVavb_9
        obtain ⟨fy0avb_9, fy1avb_9, fy2avb_9, fy3avb_9, fy4avb_9, fySavb_9, fyLavb_9, fyhavb_9⟩ := fVavb_9
        have fBavb_9 : 0 ≤ (fa 7 ((fa 21 y_3.toNatClampNeg).toNatClampNeg)).toInt ∧ (fa 7 ((fa 21 y_3.toNatClampNeg).toNatClampNeg)).toInt ≤ 3000 := RC.A hR 7 _
        have fSavb_9 := onc_i fySavb_9
        have fLavb_9 := onc_i fyLavb_9
        rw [navb_9] at fy0avb_9 fSavb_9 fLavb_9
        have hFc : ∀ q, va_A [] H.size q → A q := pu_free hS hA
        obtain ⟨q_10, hq_10⟩ := og (cq := cq) tb_9.1 (oE_1 tb_9.2)
        refine va_calli (va_runV (As := []) (rest := []) ⟨hx, hb, hml, hown, hts⟩ (c_X1_goesOn_c l dC dI H.size cq Z gI b_9 tb_9 o to v fa hR y_3.toNatClampNeg ljb_9 ejb_9) (cwV 0 hts gX10_openAgreements_X1_goesOn rfl rfl rfl (by decide +kernel) ⟨(Nat.le_of_ble_eq_true rfl), (Nat.le_of_ble_eq_true rfl)⟩) (pr_V (r := (RX1, TX1, 18)) hP hK hD q_10 1 rfl hq_10) rfl rfl hl.1 rfl (lv_room (Nat.le_of_ble_eq_true rfl)) dX10_openAgreements_18 ⟨(Nat.le_of_ble_eq_true rfl), (Nat.le_of_ble_eq_true rfl)⟩) hS (fun q _ h => hFc q h) hFc (fun r_12 u t H locs ht hvm w_11 hB hz1 hk1 hS => ?_)
        have hP := pu_keep hP hk1
        clear hk1 hz1 hvm hB ht hFc
        obtain ⟨hb_13, hx_14⟩ := w_11
        refine lv_if_eq (tgt := 27) hx hb dX10_openAgreements_21 (by decide) (fun c_15 => ?_) (fun c_15 => ?_)
        · have dc_15 := c_eq (a := r_12.toInt) (b := 0) rfl (by decide) c_15
          obtain ⟨x_16, ex_16⟩ : ∃ zq : Int32, y_3 + 1 = zq := ⟨_, rfl⟩
          have hx_16 : x_16.toInt = y_3.toInt + 1 := (iv_to ex_16).symm.trans (ad_i rfl (by decide) (by omega) (by omega))
          refine lv_iinc (v := x_16) (lv' := [(2, .int x_16), (1, .int y_2), (0, .ref o)]) hx hb dX10_openAgreements_27 hl (k := 1) rfl ex_16 (by decide) rfl (fun ls hl => ?_)
          clear ex_16
          refine lv_goto (tgt := 4) hx hb dX10_openAgreements_30 (by decide) ?_
          exact ih (n - 1) (by omega) y_2 x_16 _ _ ls (by omega) (by omega) (by omega) (cnN_s hq0_cut_1 (by omega) (by omega) (show y_2.toInt = y_2.toInt + b01 (gnP9 v fa y_3.toNatClampNeg) from by have bq := b01_i (gnP9 v fa y_3.toNatClampNeg); have q9 : gonI v fa y_3.toNatClampNeg = b01 (gnP9 v fa y_3.toNatClampNeg) := gn_b v fa _; omega)) (by omega) (by omega) hP hS (lv_sub hl [1, 0, 2] rfl)
        · have dc_15 := c_ne (a := r_12.toInt) (b := 0) rfl (by decide) c_15
          obtain ⟨x_17, ex_17⟩ : ∃ zq : Int32, y_2 + 1 = zq := ⟨_, rfl⟩
          have hx_17 : x_17.toInt = y_2.toInt + 1 := (iv_to ex_17).symm.trans (ad_i rfl (by decide) (by omega) (by omega))
          refine lv_iinc (v := x_17) (lv' := [(1, .int x_17), (2, .int y_3), (0, .ref o)]) hx hb dX10_openAgreements_24 hl (k := 0) rfl ex_17 (by decide) rfl (fun ls hl => ?_)
          clear ex_17
          obtain ⟨x_18, ex_18⟩ : ∃ zq : Int32, y_3 + 1 = zq := ⟨_, rfl⟩
          have hx_18 : x_18.toInt = y_3.toInt + 1 := (iv_to ex_18).symm.trans (ad_i rfl (by decide) (by omega) (by omega))
          refine lv_iinc (v := x_18) (lv' := [(2, .int x_18), (1, .int x_17), (0, .ref o)]) hx hb dX10_openAgreements_27 hl (k := 1) rfl ex_18 (by decide) rfl (fun ls hl => ?_)
          clear ex_18
          refine lv_goto (tgt := 4) hx hb dX10_openAgreements_30 (by decide) ?_
          exact ih (n - 1) (by omega) x_17 x_18 _ _ ls (by omega) (by omega) (by omega) (cnN_s hq0_cut_1 (by omega) (by omega) (show x_17.toInt = y_2.toInt + b01 (gnP9 v fa y_3.toNatClampNeg) from by have bq := b01_i (gnP9 v fa y_3.toNatClampNeg); have q9 : gonI v fa y_3.toNatClampNeg = b01 (gnP9 v fa y_3.toNatClampNeg) := gn_b v fa _; omega)) (by omega) (by omega) hP hS (lv_sub hl [1, 0, 2] rfl)
  have kc_19 : (0 : Int32).toInt = 0 := by decide
  exact cut_1 61 0 0 _ _ ls (by omega) (by decide) (by decide) (cnN_0 (by decide) (by decide)) (by decide) (by have rc : (0 : Int32).toInt = 0 := (by decide); omega) hP hS (lv_sub hl [1, 0, 2] rfl)
set_option maxHeartbeats 4000000 in
set_option maxRecDepth 100000 in
theorem c_X10_count_c (l : Launch) (dC : Nat → ClassId) (dI : Nat → Nat → Nat) (sz : Nat) (cq : Nat → ClassId) (Z : oS) (gI : oInv Z) (o : Nat) (to : oty Z o 10) (x1 : Int32) (v : Nat → Int32) (fa : Nat → Nat → Int32) (hR : RC Z o v fa) (hRa : rAs Z o v fa) (hRw : rRw Z o v fa) (hRr : rCR Z o v fa) : Met l yX10_count wsX10_count ({ frames := 2, cells := 0, slots := 0, locals := 46 }) (va_Pc [.ref o, .int x1] (pcW (dC, dI) (oT cq) (oW cq Z) sz)) (va_Qi (fun (r : Int32) (u : Unit) => (coA v fa x1.toInt r.toInt)) (fun _ _ => True) (va_A [] sz)) 0 0 (va_A [] sz) := by
  refine Met.ofW (cc := cX10_count) (maxL := 2) (ret := (some .int)) (by decide) rfl ?_
  intro p e s m args below meth c s₁ B hml hv
  obtain ⟨rfl, hsz, hP, hK, hD0⟩ := hv
  have hx := B.exec
  have hb := B.bytes
  have hr := B.returns
  have hts := atoms_spec (ws := wsX10_count) B.pre
  have hown : s.vm.findClass RX10 = some m.cls := findClass_of_methodNamed B.named
  have hlocks := B.notSynchronized
  subst hsz
  have hD := hD0
  generalize hAe : va_A [] s.heap.size = A at ⊢
  have hA : ∀ q : Nat, s.heap.size ≤ q → A q := fun q h => by rw [← hAe]; exact Or.inr h
  have hS : va_S A s.heap s.heap [] := va_S.rf
  have hP : va_P (dC, dI) vwCl (oW cq Z) s.heap := hP
  have hl := lv_entry ([.ref o, .int x1]) (n := 2) (Nat.le_of_ble_eq_true rfl)
  rw [lg_entry_eq]
  generalize (lg_sl ([.ref o, .int x1]) ++ List.replicate (2 - (lg_sl ([.ref o, .int x1])).length) Slot.unset).toArray = ls at hl ⊢
  have hl : lv_has ls 2 [(0, .ref o), (1, .int x1)] := hl
  obtain ⟨fn0, fn1, fn2, fn3, fn4⟩ := RC.n hR
  have fb38 : 0 ≤ (v 38).toInt ∧ (v 38).toInt ≤ 3000 := RC.V hR 38
  have fb39 : 0 ≤ (v 39).toInt ∧ (v 39).toInt ≤ 40 := RC.V hR 39
  have fb40 : 0 ≤ (v 40).toInt ∧ (v 40).toInt ≤ 20 := RC.V hR 40
  have fb43 : 0 ≤ (v 43).toInt ∧ (v 43).toInt ≤ 60 := RC.V hR 43
  have fb41 : 0 ≤ (v 41).toInt ∧ (v 41).toInt ≤ 200 := RC.V hR 41
  refine lv_iload_n hx hb dX10_count_0 rfl (lv_at hl 1 rfl) ?_
  by_cases q_1 : x1 = 0
  · have kq_1 : x1.toInt = 0 := by rw [q_1]; decide
    refine lv_topi (fun y ey => ?_)
    obtain rfl : y = 0 := ey.trans q_1
    refine lv_tableIn (x := 0) (off := 87) (tgt := 88) hx hb dX10_count_1 (by decide) (by decide) (by decide) (by decide) ?_
    refine lv_aload_n hx hb dX10_count_88 rfl (lv_at hl 0 rfl) ?_
    obtain ⟨q_2, hq_2⟩ := og (cq := cq) to.1 (oE_10 to.2)
    refine va_get (D := (dC, dI)) (ci := 10) (v := .int (oI Z o 0)) (C := RX10) (T := TX10) (N := 16) hx hb hts in_wsX10_count_X10 hown hK hP q_2 hq_2 rfl 0 (by decide) (hts (.fieldLink RX10 73 "ShipOffice" "now" "I") iw_X10_count_1) (fun _ h9 => h9) rfl dX10_count_89 ?_
    refine lv_topi (fun x_3 ex_3 => ?_)
    have hx_3 : 0 ≤ x_3.toInt ∧ x_3.toInt ≤ 3000 := iv_of ex_3 (oInv.iv gI to.2 rfl rfl)
    have gx_3 : x_3.toInt = (oI Z o 0).toInt := iv_to ex_3
    clear ex_3
    exact W.iret (v := x_3) hx hb hr (fun t ht hW => ⟨⟨x_3, (), rfl, (by have hw9 := hRw.1; unfold coA; (first | exact Or.inl ⟨by omega, by omega⟩ | exact Or.inr (Or.inl ⟨by omega, by omega⟩) | exact Or.inr (Or.inr (Or.inl ⟨by omega, by omega⟩)) | exact Or.inr (Or.inr (Or.inr (Or.inl ⟨by omega, by omega⟩))) | exact Or.inr (Or.inr (Or.inr (Or.inr (Or.inl ⟨by omega, by omega⟩)))) | exact Or.inr (Or.inr (Or.inr (Or.inr (Or.inr (Or.inl ⟨by omega, by omega⟩))))) | exact Or.inr (Or.inr (Or.inr (Or.inr (Or.inr (Or.inr (Or.inl ⟨by omega, by omega⟩)))))) | exact Or.inr (Or.inr (Or.inr (Or.inr (Or.inr (Or.inr (Or.inr (Or.inl ⟨by omega, by omega⟩))))))) | exact Or.inr (Or.inr (Or.inr (Or.inr (Or.inr (Or.inr (Or.inr (Or.inr (Or.inl ⟨by omega, by omega⟩)))))))) | exact Or.inr (Or.inr (Or.inr (Or.inr (Or.inr (Or.inr (Or.inr (Or.inr (Or.inr (Or.inl ⟨by omega, by omega⟩))))))))) | exact Or.inr (Or.inr (Or.inr (Or.inr (Or.inr (Or.inr (Or.inr (Or.inr (Or.inr (Or.inr (Or.inl ⟨by omega, by omega⟩)))))))))) | exact Or.inr (Or.inr (Or.inr (Or.inr (Or.inr (Or.inr (Or.inr (Or.inr (Or.inr (Or.inr (Or.inr (Or.inl ⟨by omega, by omega, by omega⟩))))))))))) | exact Or.inr (Or.inr (Or.inr (Or.inr (Or.inr (Or.inr (Or.inr (Or.inr (Or.inr (Or.inr (Or.inr (Or.inr (⟨by omega, by omega⟩)))))))))))))), trivial⟩, hS.F ht⟩) hS.2.2 dX10_count_92
  have n_4 := c_ne (a := x1.toInt) (b := 0) rfl (by decide) q_1
  by_cases q_5 : x1 = 1
  · have kq_5 : x1.toInt = 1 := by rw [q_5]; decide
    refine lv_topi (fun y ey => ?_)
    obtain rfl : y = 1 := ey.trans q_5
    refine lv_tableIn (x := 1) (off := 92) (tgt := 93) hx hb dX10_count_1 (by decide) (by decide) (by decide) (by decide) ?_
    refine lv_aload_n hx hb dX10_count_93 rfl (lv_at hl 0 rfl) ?_
    obtain ⟨q_6, hq_6⟩ := og (cq := cq) to.1 (oE_10 to.2)
    refine va_get (D := (dC, dI)) (ci := 10) (v := .int (oI Z o 2)) (C := RX10) (T := TX10) (N := 16) hx hb hts in_wsX10_count_X10 hown hK hP q_6 hq_6 rfl 2 (by decide) (hts (.fieldLink RX10 86 "ShipOffice" "manCount" "I") iw_X10_count_2) (fun _ h9 => h9) rfl dX10_count_94 ?_
    refine lv_topi (fun x_7 ex_7 => ?_)
    have hx_7 : 0 ≤ x_7.toInt ∧ x_7.toInt ≤ 40 := iv_of ex_7 (oInv.iv gI to.2 rfl rfl)
    have gx_7 : x_7.toInt = (oI Z o 2).toInt := iv_to ex_7
    clear ex_7
    exact W.iret (v := x_7) hx hb hr (fun t ht hW => ⟨⟨x_7, (), rfl, (by have hw9 := hRw.1; unfold coA; (first | exact Or.inl ⟨by omega, by omega⟩ | exact Or.inr (Or.inl ⟨by omega, by omega⟩) | exact Or.inr (Or.inr (Or.inl ⟨by omega, by omega⟩)) | exact Or.inr (Or.inr (Or.inr (Or.inl ⟨by omega, by omega⟩))) | exact Or.inr (Or.inr (Or.inr (Or.inr (Or.inl ⟨by omega, by omega⟩)))) | exact Or.inr (Or.inr (Or.inr (Or.inr (Or.inr (Or.inl ⟨by omega, by omega⟩))))) | exact Or.inr (Or.inr (Or.inr (Or.inr (Or.inr (Or.inr (Or.inl ⟨by omega, by omega⟩)))))) | exact Or.inr (Or.inr (Or.inr (Or.inr (Or.inr (Or.inr (Or.inr (Or.inl ⟨by omega, by omega⟩))))))) | exact Or.inr (Or.inr (Or.inr (Or.inr (Or.inr (Or.inr (Or.inr (Or.inr (Or.inl ⟨by omega, by omega⟩)))))))) | exact Or.inr (Or.inr (Or.inr (Or.inr (Or.inr (Or.inr (Or.inr (Or.inr (Or.inr (Or.inl ⟨by omega, by omega⟩))))))))) | exact Or.inr (Or.inr (Or.inr (Or.inr (Or.inr (Or.inr (Or.inr (Or.inr (Or.inr (Or.inr (Or.inl ⟨by omega, by omega⟩)))))))))) | exact Or.inr (Or.inr (Or.inr (Or.inr (Or.inr (Or.inr (Or.inr (Or.inr (Or.inr (Or.inr (Or.inr (Or.inl ⟨by omega, by omega, by omega⟩))))))))))) | exact Or.inr (Or.inr (Or.inr (Or.inr (Or.inr (Or.inr (Or.inr (Or.inr (Or.inr (Or.inr (Or.inr (Or.inr (⟨by omega, by omega⟩)))))))))))))), trivial⟩, hS.F ht⟩) hS.2.2 dX10_count_97
  have n_8 := c_ne (a := x1.toInt) (b := 1) rfl (by decide) q_5
  by_cases q_9 : x1 = 2
  · have kq_9 : x1.toInt = 2 := by rw [q_9]; decide
    refine lv_topi (fun y ey => ?_)
    obtain rfl : y = 2 := ey.trans q_9
    refine lv_tableIn (x := 2) (off := 97) (tgt := 98) hx hb dX10_count_1 (by decide) (by decide) (by decide) (by decide) ?_
    refine lv_aload_n hx hb dX10_count_98 rfl (lv_at hl 0 rfl) ?_
    obtain ⟨q_10, hq_10⟩ := og (cq := cq) to.1 (oE_10 to.2)
    refine va_get (D := (dC, dI)) (ci := 10) (v := .int (oI Z o 4)) (C := RX10) (T := TX10) (N := 16) hx hb hts in_wsX10_count_X10 hown hK hP q_10 hq_10 rfl 4 (by decide) (hts (.fieldLink RX10 99 "ShipOffice" "voyageCount" "I") iw_X10_count_3) (fun _ h9 => h9) rfl dX10_count_99 ?_
    refine lv_topi (fun x_11 ex_11 => ?_)
    have hx_11 : 0 ≤ x_11.toInt ∧ x_11.toInt ≤ 20 := iv_of ex_11 (oInv.iv gI to.2 rfl rfl)
    have gx_11 : x_11.toInt = (oI Z o 4).toInt := iv_to ex_11
    clear ex_11
    exact W.iret (v := x_11) hx hb hr (fun t ht hW => ⟨⟨x_11, (), rfl, (by have hw9 := hRw.1; unfold coA; (first | exact Or.inl ⟨by omega, by omega⟩ | exact Or.inr (Or.inl ⟨by omega, by omega⟩) | exact Or.inr (Or.inr (Or.inl ⟨by omega, by omega⟩)) | exact Or.inr (Or.inr (Or.inr (Or.inl ⟨by omega, by omega⟩))) | exact Or.inr (Or.inr (Or.inr (Or.inr (Or.inl ⟨by omega, by omega⟩)))) | exact Or.inr (Or.inr (Or.inr (Or.inr (Or.inr (Or.inl ⟨by omega, by omega⟩))))) | exact Or.inr (Or.inr (Or.inr (Or.inr (Or.inr (Or.inr (Or.inl ⟨by omega, by omega⟩)))))) | exact Or.inr (Or.inr (Or.inr (Or.inr (Or.inr (Or.inr (Or.inr (Or.inl ⟨by omega, by omega⟩))))))) | exact Or.inr (Or.inr (Or.inr (Or.inr (Or.inr (Or.inr (Or.inr (Or.inr (Or.inl ⟨by omega, by omega⟩)))))))) | exact Or.inr (Or.inr (Or.inr (Or.inr (Or.inr (Or.inr (Or.inr (Or.inr (Or.inr (Or.inl ⟨by omega, by omega⟩))))))))) | exact Or.inr (Or.inr (Or.inr (Or.inr (Or.inr (Or.inr (Or.inr (Or.inr (Or.inr (Or.inr (Or.inl ⟨by omega, by omega⟩)))))))))) | exact Or.inr (Or.inr (Or.inr (Or.inr (Or.inr (Or.inr (Or.inr (Or.inr (Or.inr (Or.inr (Or.inr (Or.inl ⟨by omega, by omega, by omega⟩))))))))))) | exact Or.inr (Or.inr (Or.inr (Or.inr (Or.inr (Or.inr (Or.inr (Or.inr (Or.inr (Or.inr (Or.inr (Or.inr (⟨by omega, by omega⟩)))))))))))))), trivial⟩, hS.F ht⟩) hS.2.2 dX10_count_102
  have n_12 := c_ne (a := x1.toInt) (b := 2) rfl (by decide) q_9
  by_cases q_13 : x1 = 3
  · have kq_13 : x1.toInt = 3 := by rw [q_13]; decide
    refine lv_topi (fun y ey => ?_)
    obtain rfl : y = 3 := ey.trans q_13
    refine lv_tableIn (x := 3) (off := 102) (tgt := 103) hx hb dX10_count_1 (by decide) (by decide) (by decide) (by decide) ?_
    refine lv_aload_n hx hb dX10_count_103 rfl (lv_at hl 0 rfl) ?_
    have hFc : ∀ q, va_A [] s.heap.size q → A q := pu_free hS hA
    obtain ⟨q_14, hq_14⟩ := og (cq := cq) to.1 (oE_10 to.2)
    refine va_calli (va_runV (As := []) (rest := []) ⟨hx, hb, hml, hown, hts⟩ (c_X10_openVoyages_c l dC dI s.heap.size cq Z gI o to v fa hR) (cwV 0 hts gX10_count_X10_openVoyages rfl rfl rfl (by decide +kernel) ⟨(Nat.le_of_ble_eq_true rfl), (Nat.le_of_ble_eq_true rfl)⟩) (pr_V (r := (RX10, TX10, 16)) hP hK hD q_14 10 rfl hq_14) rfl rfl hl.1 rfl (lv_room (Nat.le_of_ble_eq_true rfl)) dX10_count_104 ⟨(Nat.le_of_ble_eq_true rfl), (Nat.le_of_ble_eq_true rfl)⟩) hS (fun q _ h => hFc q h) hFc (fun r_16 u t H locs ht hvm w_15 hB hz1 hk1 hS => ?_)
    have hP := pu_keep hP hk1
    clear hk1 hz1 hvm hB ht hFc
    have hx_17 := w_15
    exact W.iret (v := r_16) hx hb hr (fun t ht hW => ⟨⟨r_16, (), rfl, (by have hc9 := hx_17; unfold coA; (first | exact Or.inl ⟨by omega, by omega⟩ | exact Or.inr (Or.inl ⟨by omega, by omega⟩) | exact Or.inr (Or.inr (Or.inl ⟨by omega, by omega⟩)) | exact Or.inr (Or.inr (Or.inr (Or.inl ⟨by omega, by omega⟩))) | exact Or.inr (Or.inr (Or.inr (Or.inr (Or.inl ⟨by omega, by omega⟩)))) | exact Or.inr (Or.inr (Or.inr (Or.inr (Or.inr (Or.inl ⟨by omega, by omega⟩))))) | exact Or.inr (Or.inr (Or.inr (Or.inr (Or.inr (Or.inr (Or.inl ⟨by omega, by omega⟩)))))) | exact Or.inr (Or.inr (Or.inr (Or.inr (Or.inr (Or.inr (Or.inr (Or.inl ⟨by omega, by omega⟩))))))) | exact Or.inr (Or.inr (Or.inr (Or.inr (Or.inr (Or.inr (Or.inr (Or.inr (Or.inl ⟨by omega, by omega⟩)))))))) | exact Or.inr (Or.inr (Or.inr (Or.inr (Or.inr (Or.inr (Or.inr (Or.inr (Or.inr (Or.inl ⟨by omega, by omega⟩))))))))) | exact Or.inr (Or.inr (Or.inr (Or.inr (Or.inr (Or.inr (Or.inr (Or.inr (Or.inr (Or.inr (Or.inl ⟨by omega, by omega⟩)))))))))) | exact Or.inr (Or.inr (Or.inr (Or.inr (Or.inr (Or.inr (Or.inr (Or.inr (Or.inr (Or.inr (Or.inr (Or.inl ⟨by omega, by omega, by omega⟩))))))))))) | exact Or.inr (Or.inr (Or.inr (Or.inr (Or.inr (Or.inr (Or.inr (Or.inr (Or.inr (Or.inr (Or.inr (Or.inr (⟨by omega, by omega⟩)))))))))))))), trivial⟩, hS.F ht⟩) hS.2.2 dX10_count_107
  have n_18 := c_ne (a := x1.toInt) (b := 3) rfl (by decide) q_13
  by_cases q_19 : x1 = 4
  · have kq_19 : x1.toInt = 4 := by rw [q_19]; decide
    refine lv_topi (fun y ey => ?_)
    obtain rfl : y = 4 := ey.trans q_19
    refine lv_tableIn (x := 4) (off := 107) (tgt := 108) hx hb dX10_count_1 (by decide) (by decide) (by decide) (by decide) ?_
    refine lv_aload_n hx hb dX10_count_108 rfl (lv_at hl 0 rfl) ?_
    obtain ⟨q_20, hq_20⟩ := og (cq := cq) to.1 (oE_10 to.2)
    refine va_get (D := (dC, dI)) (ci := 10) (v := .int (oI Z o 6)) (C := RX10) (T := TX10) (N := 16) hx hb hts in_wsX10_count_X10 hown hK hP q_20 hq_20 rfl 6 (by decide) (hts (.fieldLink RX10 115 "ShipOffice" "agreementCount" "I") iw_X10_count_4) (fun _ h9 => h9) rfl dX10_count_109 ?_
    refine lv_topi (fun x_21 ex_21 => ?_)
    have hx_21 : 0 ≤ x_21.toInt ∧ x_21.toInt ≤ 60 := iv_of ex_21 (oInv.iv gI to.2 rfl rfl)
    have gx_21 : x_21.toInt = (oI Z o 6).toInt := iv_to ex_21
    clear ex_21
    exact W.iret (v := x_21) hx hb hr (fun t ht hW => ⟨⟨x_21, (), rfl, (by have hw9 := hRw.1; unfold coA; (first | exact Or.inl ⟨by omega, by omega⟩ | exact Or.inr (Or.inl ⟨by omega, by omega⟩) | exact Or.inr (Or.inr (Or.inl ⟨by omega, by omega⟩)) | exact Or.inr (Or.inr (Or.inr (Or.inl ⟨by omega, by omega⟩))) | exact Or.inr (Or.inr (Or.inr (Or.inr (Or.inl ⟨by omega, by omega⟩)))) | exact Or.inr (Or.inr (Or.inr (Or.inr (Or.inr (Or.inl ⟨by omega, by omega⟩))))) | exact Or.inr (Or.inr (Or.inr (Or.inr (Or.inr (Or.inr (Or.inl ⟨by omega, by omega⟩)))))) | exact Or.inr (Or.inr (Or.inr (Or.inr (Or.inr (Or.inr (Or.inr (Or.inl ⟨by omega, by omega⟩))))))) | exact Or.inr (Or.inr (Or.inr (Or.inr (Or.inr (Or.inr (Or.inr (Or.inr (Or.inl ⟨by omega, by omega⟩)))))))) | exact Or.inr (Or.inr (Or.inr (Or.inr (Or.inr (Or.inr (Or.inr (Or.inr (Or.inr (Or.inl ⟨by omega, by omega⟩))))))))) | exact Or.inr (Or.inr (Or.inr (Or.inr (Or.inr (Or.inr (Or.inr (Or.inr (Or.inr (Or.inr (Or.inl ⟨by omega, by omega⟩)))))))))) | exact Or.inr (Or.inr (Or.inr (Or.inr (Or.inr (Or.inr (Or.inr (Or.inr (Or.inr (Or.inr (Or.inr (Or.inl ⟨by omega, by omega, by omega⟩))))))))))) | exact Or.inr (Or.inr (Or.inr (Or.inr (Or.inr (Or.inr (Or.inr (Or.inr (Or.inr (Or.inr (Or.inr (Or.inr (⟨by omega, by omega⟩)))))))))))))), trivial⟩, hS.F ht⟩) hS.2.2 dX10_count_112
  have n_22 := c_ne (a := x1.toInt) (b := 4) rfl (by decide) q_19
  by_cases q_23 : x1 = 5
  · have kq_23 : x1.toInt = 5 := by rw [q_23]; decide
    refine lv_topi (fun y ey => ?_)
    obtain rfl : y = 5 := ey.trans q_23
    refine lv_tableIn (x := 5) (off := 112) (tgt := 113) hx hb dX10_count_1 (by decide) (by decide) (by decide) (by decide) ?_
    refine lv_aload_n hx hb dX10_count_113 rfl (lv_at hl 0 rfl) ?_
    have hFc : ∀ q, va_A [] s.heap.size q → A q := pu_free hS hA
    obtain ⟨q_24, hq_24⟩ := og (cq := cq) to.1 (oE_10 to.2)
    refine va_calli (va_runV (As := []) (rest := []) ⟨hx, hb, hml, hown, hts⟩ (c_X10_openAgreements_c l dC dI s.heap.size cq Z gI o to v fa hR) (cwV 0 hts gX10_count_X10_openAgreements rfl rfl rfl (by decide +kernel) ⟨(Nat.le_of_ble_eq_true rfl), (Nat.le_of_ble_eq_true rfl)⟩) (pr_V (r := (RX10, TX10, 16)) hP hK hD q_24 10 rfl hq_24) rfl rfl hl.1 rfl (lv_room (Nat.le_of_ble_eq_true rfl)) dX10_count_114 ⟨(Nat.le_of_ble_eq_true rfl), (Nat.le_of_ble_eq_true rfl)⟩) hS (fun q _ h => hFc q h) hFc (fun r_26 u t H locs ht hvm w_25 hB hz1 hk1 hS => ?_)
    have hP := pu_keep hP hk1
    clear hk1 hz1 hvm hB ht hFc
    have hx_27 := w_25
    exact W.iret (v := r_26) hx hb hr (fun t ht hW => ⟨⟨r_26, (), rfl, (by have hc9 := hx_27; unfold coA; (first | exact Or.inl ⟨by omega, by omega⟩ | exact Or.inr (Or.inl ⟨by omega, by omega⟩) | exact Or.inr (Or.inr (Or.inl ⟨by omega, by omega⟩)) | exact Or.inr (Or.inr (Or.inr (Or.inl ⟨by omega, by omega⟩))) | exact Or.inr (Or.inr (Or.inr (Or.inr (Or.inl ⟨by omega, by omega⟩)))) | exact Or.inr (Or.inr (Or.inr (Or.inr (Or.inr (Or.inl ⟨by omega, by omega⟩))))) | exact Or.inr (Or.inr (Or.inr (Or.inr (Or.inr (Or.inr (Or.inl ⟨by omega, by omega⟩)))))) | exact Or.inr (Or.inr (Or.inr (Or.inr (Or.inr (Or.inr (Or.inr (Or.inl ⟨by omega, by omega⟩))))))) | exact Or.inr (Or.inr (Or.inr (Or.inr (Or.inr (Or.inr (Or.inr (Or.inr (Or.inl ⟨by omega, by omega⟩)))))))) | exact Or.inr (Or.inr (Or.inr (Or.inr (Or.inr (Or.inr (Or.inr (Or.inr (Or.inr (Or.inl ⟨by omega, by omega⟩))))))))) | exact Or.inr (Or.inr (Or.inr (Or.inr (Or.inr (Or.inr (Or.inr (Or.inr (Or.inr (Or.inr (Or.inl ⟨by omega, by omega⟩)))))))))) | exact Or.inr (Or.inr (Or.inr (Or.inr (Or.inr (Or.inr (Or.inr (Or.inr (Or.inr (Or.inr (Or.inr (Or.inl ⟨by omega, by omega, by omega⟩))))))))))) | exact Or.inr (Or.inr (Or.inr (Or.inr (Or.inr (Or.inr (Or.inr (Or.inr (Or.inr (Or.inr (Or.inr (Or.inr (⟨by omega, by omega⟩)))))))))))))), trivial⟩, hS.F ht⟩) hS.2.2 dX10_count_117
  have n_28 := c_ne (a := x1.toInt) (b := 5) rfl (by decide) q_23
  by_cases q_29 : x1 = 6
  · have kq_29 : x1.toInt = 6 := by rw [q_29]; decide
    refine lv_topi (fun y ey => ?_)
    obtain rfl : y = 6 := ey.trans q_29
    refine lv_tableIn (x := 6) (off := 117) (tgt := 118) hx hb dX10_count_1 (by decide) (by decide) (by decide) (by decide) ?_
    refine lv_aload_n hx hb dX10_count_118 rfl (lv_at hl 0 rfl) ?_
    obtain ⟨q_30, hq_30⟩ := og (cq := cq) to.1 (oE_10 to.2)
    refine va_get (D := (dC, dI)) (ci := 10) (v := .int (oI Z o 7)) (C := RX10) (T := TX10) (N := 16) hx hb hts in_wsX10_count_X10 hown hK hP q_30 hq_30 rfl 7 (by decide) (hts (.fieldLink RX10 139 "ShipOffice" "happeningCount" "I") iw_X10_count_5) (fun _ h9 => h9) rfl dX10_count_119 ?_
    refine lv_topi (fun x_31 ex_31 => ?_)
    have gx_31 : x_31.toInt = (oI Z o 7).toInt := iv_to ex_31
    clear ex_31
    exact W.iret (v := x_31) hx hb hr (fun t ht hW => ⟨⟨x_31, (), rfl, (by have hw9 := hRw.1; unfold coA; (first | exact Or.inl ⟨by omega, by omega⟩ | exact Or.inr (Or.inl ⟨by omega, by omega⟩) | exact Or.inr (Or.inr (Or.inl ⟨by omega, by omega⟩)) | exact Or.inr (Or.inr (Or.inr (Or.inl ⟨by omega, by omega⟩))) | exact Or.inr (Or.inr (Or.inr (Or.inr (Or.inl ⟨by omega, by omega⟩)))) | exact Or.inr (Or.inr (Or.inr (Or.inr (Or.inr (Or.inl ⟨by omega, by omega⟩))))) | exact Or.inr (Or.inr (Or.inr (Or.inr (Or.inr (Or.inr (Or.inl ⟨by omega, by omega⟩)))))) | exact Or.inr (Or.inr (Or.inr (Or.inr (Or.inr (Or.inr (Or.inr (Or.inl ⟨by omega, by omega⟩))))))) | exact Or.inr (Or.inr (Or.inr (Or.inr (Or.inr (Or.inr (Or.inr (Or.inr (Or.inl ⟨by omega, by omega⟩)))))))) | exact Or.inr (Or.inr (Or.inr (Or.inr (Or.inr (Or.inr (Or.inr (Or.inr (Or.inr (Or.inl ⟨by omega, by omega⟩))))))))) | exact Or.inr (Or.inr (Or.inr (Or.inr (Or.inr (Or.inr (Or.inr (Or.inr (Or.inr (Or.inr (Or.inl ⟨by omega, by omega⟩)))))))))) | exact Or.inr (Or.inr (Or.inr (Or.inr (Or.inr (Or.inr (Or.inr (Or.inr (Or.inr (Or.inr (Or.inr (Or.inl ⟨by omega, by omega, by omega⟩))))))))))) | exact Or.inr (Or.inr (Or.inr (Or.inr (Or.inr (Or.inr (Or.inr (Or.inr (Or.inr (Or.inr (Or.inr (Or.inr (⟨by omega, by omega⟩)))))))))))))), trivial⟩, hS.F ht⟩) hS.2.2 dX10_count_122
  have n_32 := c_ne (a := x1.toInt) (b := 6) rfl (by decide) q_29
  by_cases q_33 : x1 = 7
  · have kq_33 : x1.toInt = 7 := by rw [q_33]; decide
    refine lv_topi (fun y ey => ?_)
    obtain rfl : y = 7 := ey.trans q_33
    refine lv_tableIn (x := 7) (off := 122) (tgt := 123) hx hb dX10_count_1 (by decide) (by decide) (by decide) (by decide) ?_
    refine lv_aload_n hx hb dX10_count_123 rfl (lv_at hl 0 rfl) ?_
    obtain ⟨q_34, hq_34⟩ := og (cq := cq) to.1 (oE_10 to.2)
    obtain ⟨b_35, hb_35⟩ := oInv.nn (i := 8) gI to rfl
    refine va_get (D := (dC, dI)) (ci := 10) (v := .ref b_35) (C := RX10) (T := TX10) (N := 16) hx hb hts in_wsX10_count_X10 hown hK hP q_34 hq_34 rfl 8 (by decide) (hts (.fieldLink RX10 30 "ShipOffice" "law" "LShipOffice$Law;") iw_X10_count_6) (fun _ h9 => h9) (o_rd hb_35) dX10_count_124 ?_
    have tb_35 : oty Z b_35 5 := oInv.rd gI to.2 hb_35 rfl rfl
    obtain ⟨q_36, hq_36⟩ := og (cq := cq) tb_35.1 (oE_5 tb_35.2)
    refine va_get (D := (dC, dI)) (ci := 5) (v := .int (oI Z b_35 2)) (C := RX5) (T := TX5) (N := 3) hx hb hts in_wsX10_count_X5 hown hK hP q_36 hq_36 rfl 2 (by decide) (hts (.fieldLink RX10 178 "ShipOffice$Law" "actCount" "I") iw_X10_count_7) (fun _ h9 => h9) rfl dX10_count_127 ?_
    refine lv_topi (fun x_37 ex_37 => ?_)
    have hx_37 : 0 ≤ x_37.toInt ∧ x_37.toInt ≤ 30 := iv_of ex_37 (oInv.iv gI tb_35.2 rfl rfl)
    have gx_37 : x_37.toInt = (oI Z b_35 2).toInt := iv_to ex_37
    clear ex_37
    have q9 := (RC.l hR).1
    rw [oQ_e hb_35] at q9
    exact W.iret (v := x_37) hx hb hr (fun t ht hW => ⟨⟨x_37, (), rfl, (by have hw9 := hRw.1; unfold coA; (first | exact Or.inl ⟨by omega, by omega⟩ | exact Or.inr (Or.inl ⟨by omega, by omega⟩) | exact Or.inr (Or.inr (Or.inl ⟨by omega, by omega⟩)) | exact Or.inr (Or.inr (Or.inr (Or.inl ⟨by omega, by omega⟩))) | exact Or.inr (Or.inr (Or.inr (Or.inr (Or.inl ⟨by omega, by omega⟩)))) | exact Or.inr (Or.inr (Or.inr (Or.inr (Or.inr (Or.inl ⟨by omega, by omega⟩))))) | exact Or.inr (Or.inr (Or.inr (Or.inr (Or.inr (Or.inr (Or.inl ⟨by omega, by omega⟩)))))) | exact Or.inr (Or.inr (Or.inr (Or.inr (Or.inr (Or.inr (Or.inr (Or.inl ⟨by omega, by omega⟩))))))) | exact Or.inr (Or.inr (Or.inr (Or.inr (Or.inr (Or.inr (Or.inr (Or.inr (Or.inl ⟨by omega, by omega⟩)))))))) | exact Or.inr (Or.inr (Or.inr (Or.inr (Or.inr (Or.inr (Or.inr (Or.inr (Or.inr (Or.inl ⟨by omega, by omega⟩))))))))) | exact Or.inr (Or.inr (Or.inr (Or.inr (Or.inr (Or.inr (Or.inr (Or.inr (Or.inr (Or.inr (Or.inl ⟨by omega, by omega⟩)))))))))) | exact Or.inr (Or.inr (Or.inr (Or.inr (Or.inr (Or.inr (Or.inr (Or.inr (Or.inr (Or.inr (Or.inr (Or.inl ⟨by omega, by omega, by omega⟩))))))))))) | exact Or.inr (Or.inr (Or.inr (Or.inr (Or.inr (Or.inr (Or.inr (Or.inr (Or.inr (Or.inr (Or.inr (Or.inr (⟨by omega, by omega⟩)))))))))))))), trivial⟩, hS.F ht⟩) hS.2.2 dX10_count_130
  have n_38 := c_ne (a := x1.toInt) (b := 7) rfl (by decide) q_33
  by_cases q_39 : x1 = 8
  · have kq_39 : x1.toInt = 8 := by rw [q_39]; decide
    refine lv_topi (fun y ey => ?_)
    obtain rfl : y = 8 := ey.trans q_39
    refine lv_tableIn (x := 8) (off := 130) (tgt := 131) hx hb dX10_count_1 (by decide) (by decide) (by decide) (by decide) ?_
    refine lv_aload_n hx hb dX10_count_131 rfl (lv_at hl 0 rfl) ?_
    obtain ⟨q_40, hq_40⟩ := og (cq := cq) to.1 (oE_10 to.2)
    obtain ⟨b_41, hb_41⟩ := oInv.nn (i := 9) gI to rfl
    refine va_get (D := (dC, dI)) (ci := 10) (v := .ref b_41) (C := RX10) (T := TX10) (N := 16) hx hb hts in_wsX10_count_X10 hown hK hP q_40 hq_40 rfl 9 (by decide) (hts (.fieldLink RX10 37 "ShipOffice" "tape" "LShipOffice$Tape;") iw_X10_count_8) (fun _ h9 => h9) (o_rd hb_41) dX10_count_132 ?_
    have tb_41 : oty Z b_41 8 := oInv.rd gI to.2 hb_41 rfl rfl
    obtain ⟨q_42, hq_42⟩ := og (cq := cq) tb_41.1 (oE_8 tb_41.2)
    refine va_get (D := (dC, dI)) (ci := 8) (v := .int (oI Z b_41 1)) (C := RX8) (T := TX8) (N := 6) hx hb hts in_wsX10_count_X8 hown hK hP q_42 hq_42 rfl 1 (by decide) (hts (.fieldLink RX10 169 "ShipOffice$Tape" "size" "I") iw_X10_count_9) (fun _ h9 => h9) rfl dX10_count_135 ?_
    refine lv_topi (fun x_43 ex_43 => ?_)
    have hx_43 : 0 ≤ x_43.toInt ∧ x_43.toInt ≤ 60 := iv_of ex_43 (oInv.iv gI tb_41.2 rfl rfl)
    have gx_43 : x_43.toInt = (oI Z b_41 1).toInt := iv_to ex_43
    clear ex_43
    have q9 := (RC.t hR).1
    rw [oQ_e hb_41] at q9
    exact W.iret (v := x_43) hx hb hr (fun t ht hW => ⟨⟨x_43, (), rfl, (by have hw9 := hRw.1; unfold coA; (first | exact Or.inl ⟨by omega, by omega⟩ | exact Or.inr (Or.inl ⟨by omega, by omega⟩) | exact Or.inr (Or.inr (Or.inl ⟨by omega, by omega⟩)) | exact Or.inr (Or.inr (Or.inr (Or.inl ⟨by omega, by omega⟩))) | exact Or.inr (Or.inr (Or.inr (Or.inr (Or.inl ⟨by omega, by omega⟩)))) | exact Or.inr (Or.inr (Or.inr (Or.inr (Or.inr (Or.inl ⟨by omega, by omega⟩))))) | exact Or.inr (Or.inr (Or.inr (Or.inr (Or.inr (Or.inr (Or.inl ⟨by omega, by omega⟩)))))) | exact Or.inr (Or.inr (Or.inr (Or.inr (Or.inr (Or.inr (Or.inr (Or.inl ⟨by omega, by omega⟩))))))) | exact Or.inr (Or.inr (Or.inr (Or.inr (Or.inr (Or.inr (Or.inr (Or.inr (Or.inl ⟨by omega, by omega⟩)))))))) | exact Or.inr (Or.inr (Or.inr (Or.inr (Or.inr (Or.inr (Or.inr (Or.inr (Or.inr (Or.inl ⟨by omega, by omega⟩))))))))) | exact Or.inr (Or.inr (Or.inr (Or.inr (Or.inr (Or.inr (Or.inr (Or.inr (Or.inr (Or.inr (Or.inl ⟨by omega, by omega⟩)))))))))) | exact Or.inr (Or.inr (Or.inr (Or.inr (Or.inr (Or.inr (Or.inr (Or.inr (Or.inr (Or.inr (Or.inr (Or.inl ⟨by omega, by omega, by omega⟩))))))))))) | exact Or.inr (Or.inr (Or.inr (Or.inr (Or.inr (Or.inr (Or.inr (Or.inr (Or.inr (Or.inr (Or.inr (Or.inr (⟨by omega, by omega⟩)))))))))))))), trivial⟩, hS.F ht⟩) hS.2.2 dX10_count_138
  have n_44 := c_ne (a := x1.toInt) (b := 8) rfl (by decide) q_39
  by_cases q_45 : x1 = 9
  · have kq_45 : x1.toInt = 9 := by rw [q_45]; decide
    refine lv_topi (fun y ey => ?_)
    obtain rfl : y = 9 := ey.trans q_45
    refine lv_tableIn (x := 9) (off := 138) (tgt := 139) hx hb dX10_count_1 (by decide) (by decide) (by decide) (by decide) ?_
    refine lv_aload_n hx hb dX10_count_139 rfl (lv_at hl 0 rfl) ?_
    obtain ⟨q_46, hq_46⟩ := og (cq := cq) to.1 (oE_10 to.2)
    refine va_get (D := (dC, dI)) (ci := 10) (v := .int (oI Z o 14)) (C := RX10) (T := TX10) (N := 16) hx hb hts in_wsX10_count_X10 hown hK hP q_46 hq_46 rfl 14 (by decide) (hts (.fieldLink RX10 353 "ShipOffice" "rowCount" "I") iw_X10_count_10) (fun _ h9 => h9) rfl dX10_count_140 ?_
    refine lv_topi (fun x_47 ex_47 => ?_)
    have hx_47 : 0 ≤ x_47.toInt ∧ x_47.toInt ≤ 12 := iv_of ex_47 (oInv.iv gI to.2 rfl rfl)
    have gx_47 : x_47.toInt = (oI Z o 14).toInt := iv_to ex_47
    clear ex_47
    exact W.iret (v := x_47) hx hb hr (fun t ht hW => ⟨⟨x_47, (), rfl, (by have hw9 := hRw.1; unfold coA; (first | exact Or.inl ⟨by omega, by omega⟩ | exact Or.inr (Or.inl ⟨by omega, by omega⟩) | exact Or.inr (Or.inr (Or.inl ⟨by omega, by omega⟩)) | exact Or.inr (Or.inr (Or.inr (Or.inl ⟨by omega, by omega⟩))) | exact Or.inr (Or.inr (Or.inr (Or.inr (Or.inl ⟨by omega, by omega⟩)))) | exact Or.inr (Or.inr (Or.inr (Or.inr (Or.inr (Or.inl ⟨by omega, by omega⟩))))) | exact Or.inr (Or.inr (Or.inr (Or.inr (Or.inr (Or.inr (Or.inl ⟨by omega, by omega⟩)))))) | exact Or.inr (Or.inr (Or.inr (Or.inr (Or.inr (Or.inr (Or.inr (Or.inl ⟨by omega, by omega⟩))))))) | exact Or.inr (Or.inr (Or.inr (Or.inr (Or.inr (Or.inr (Or.inr (Or.inr (Or.inl ⟨by omega, by omega⟩)))))))) | exact Or.inr (Or.inr (Or.inr (Or.inr (Or.inr (Or.inr (Or.inr (Or.inr (Or.inr (Or.inl ⟨by omega, by omega⟩))))))))) | exact Or.inr (Or.inr (Or.inr (Or.inr (Or.inr (Or.inr (Or.inr (Or.inr (Or.inr (Or.inr (Or.inl ⟨by omega, by omega⟩)))))))))) | exact Or.inr (Or.inr (Or.inr (Or.inr (Or.inr (Or.inr (Or.inr (Or.inr (Or.inr (Or.inr (Or.inr (Or.inl ⟨by omega, by omega, by omega⟩))))))))))) | exact Or.inr (Or.inr (Or.inr (Or.inr (Or.inr (Or.inr (Or.inr (Or.inr (Or.inr (Or.inr (Or.inr (Or.inr (⟨by omega, by omega⟩)))))))))))))), trivial⟩, hS.F ht⟩) hS.2.2 dX10_count_143
  have n_48 := c_ne (a := x1.toInt) (b := 9) rfl (by decide) q_45
  by_cases q_49 : x1 = 10
  · have kq_49 : x1.toInt = 10 := by rw [q_49]; decide
    refine lv_topi (fun y ey => ?_)
    obtain rfl : y = 10 := ey.trans q_49
    refine lv_tableIn (x := 10) (off := 148) (tgt := 149) hx hb dX10_count_1 (by decide) (by decide) (by decide) (by decide) ?_
    refine lv_iload_n hx hb dX10_count_149 rfl (lv_at hl 1 rfl) ?_
    refine lv_bipush (v := 11) hx hb dX10_count_150 (by decide) ?_
    refine lv_icmp_lt (tgt := 173) hx hb dX10_count_152 (by decide) (fun c_50 => ?_) (fun c_50 => ?_)
    · have dc_50 := c_lt (a := x1.toInt) (b := 11) rfl (by decide) c_50
      refine lv_bipush (v := (-9)) hx hb dX10_count_173 (by decide) ?_
      exact W.iret (v := (-9)) hx hb hr (fun t ht hW => ⟨⟨(-9), (), rfl, (by have rc : ((-9) : Int32).toInt = -9 := (by decide); have hw9 := hRw.1; unfold coA; (first | exact Or.inl ⟨by omega, by omega⟩ | exact Or.inr (Or.inl ⟨by omega, by omega⟩) | exact Or.inr (Or.inr (Or.inl ⟨by omega, by omega⟩)) | exact Or.inr (Or.inr (Or.inr (Or.inl ⟨by omega, by omega⟩))) | exact Or.inr (Or.inr (Or.inr (Or.inr (Or.inl ⟨by omega, by omega⟩)))) | exact Or.inr (Or.inr (Or.inr (Or.inr (Or.inr (Or.inl ⟨by omega, by omega⟩))))) | exact Or.inr (Or.inr (Or.inr (Or.inr (Or.inr (Or.inr (Or.inl ⟨by omega, by omega⟩)))))) | exact Or.inr (Or.inr (Or.inr (Or.inr (Or.inr (Or.inr (Or.inr (Or.inl ⟨by omega, by omega⟩))))))) | exact Or.inr (Or.inr (Or.inr (Or.inr (Or.inr (Or.inr (Or.inr (Or.inr (Or.inl ⟨by omega, by omega⟩)))))))) | exact Or.inr (Or.inr (Or.inr (Or.inr (Or.inr (Or.inr (Or.inr (Or.inr (Or.inr (Or.inl ⟨by omega, by omega⟩))))))))) | exact Or.inr (Or.inr (Or.inr (Or.inr (Or.inr (Or.inr (Or.inr (Or.inr (Or.inr (Or.inr (Or.inl ⟨by omega, by omega⟩)))))))))) | exact Or.inr (Or.inr (Or.inr (Or.inr (Or.inr (Or.inr (Or.inr (Or.inr (Or.inr (Or.inr (Or.inr (Or.inl ⟨by omega, by omega, by omega⟩))))))))))) | exact Or.inr (Or.inr (Or.inr (Or.inr (Or.inr (Or.inr (Or.inr (Or.inr (Or.inr (Or.inr (Or.inr (Or.inr (⟨by omega, by omega⟩)))))))))))))), trivial⟩, hS.F ht⟩) hS.2.2 dX10_count_175
    · have dc_50 := c_nlt (a := x1.toInt) (b := 11) rfl (by decide) c_50
      refine lv_iload_n hx hb dX10_count_155 rfl (lv_at hl 1 rfl) ?_
      refine lv_bipush (v := 16) hx hb dX10_count_156 (by decide) ?_
      refine lv_icmp_gt (tgt := 173) hx hb dX10_count_158 (by decide) (fun c_51 => ?_) (fun c_51 => ?_)
      · have dc_51 := c_lt (a := 16) (b := x1.toInt) (by decide) rfl c_51
        refine lv_bipush (v := (-9)) hx hb dX10_count_173 (by decide) ?_
        exact W.iret (v := (-9)) hx hb hr (fun t ht hW => ⟨⟨(-9), (), rfl, (by have rc : ((-9) : Int32).toInt = -9 := (by decide); have hw9 := hRw.1; unfold coA; (first | exact Or.inl ⟨by omega, by omega⟩ | exact Or.inr (Or.inl ⟨by omega, by omega⟩) | exact Or.inr (Or.inr (Or.inl ⟨by omega, by omega⟩)) | exact Or.inr (Or.inr (Or.inr (Or.inl ⟨by omega, by omega⟩))) | exact Or.inr (Or.inr (Or.inr (Or.inr (Or.inl ⟨by omega, by omega⟩)))) | exact Or.inr (Or.inr (Or.inr (Or.inr (Or.inr (Or.inl ⟨by omega, by omega⟩))))) | exact Or.inr (Or.inr (Or.inr (Or.inr (Or.inr (Or.inr (Or.inl ⟨by omega, by omega⟩)))))) | exact Or.inr (Or.inr (Or.inr (Or.inr (Or.inr (Or.inr (Or.inr (Or.inl ⟨by omega, by omega⟩))))))) | exact Or.inr (Or.inr (Or.inr (Or.inr (Or.inr (Or.inr (Or.inr (Or.inr (Or.inl ⟨by omega, by omega⟩)))))))) | exact Or.inr (Or.inr (Or.inr (Or.inr (Or.inr (Or.inr (Or.inr (Or.inr (Or.inr (Or.inl ⟨by omega, by omega⟩))))))))) | exact Or.inr (Or.inr (Or.inr (Or.inr (Or.inr (Or.inr (Or.inr (Or.inr (Or.inr (Or.inr (Or.inl ⟨by omega, by omega⟩)))))))))) | exact Or.inr (Or.inr (Or.inr (Or.inr (Or.inr (Or.inr (Or.inr (Or.inr (Or.inr (Or.inr (Or.inr (Or.inl ⟨by omega, by omega, by omega⟩))))))))))) | exact Or.inr (Or.inr (Or.inr (Or.inr (Or.inr (Or.inr (Or.inr (Or.inr (Or.inr (Or.inr (Or.inr (Or.inr (⟨by omega, by omega⟩)))))))))))))), trivial⟩, hS.F ht⟩) hS.2.2 dX10_count_175
      · have dc_51 := c_nlt (a := 16) (b := x1.toInt) (by decide) rfl c_51
        refine lv_aload_n hx hb dX10_count_161 rfl (lv_at hl 0 rfl) ?_
        obtain ⟨q_52, hq_52⟩ := og (cq := cq) to.1 (oE_10 to.2)
        obtain ⟨b_53, hb_53⟩ := oInv.nn (i := 15) gI to rfl
        refine va_get (D := (dC, dI)) (ci := 10) (v := .ref b_53) (C := RX10) (T := TX10) (N := 16) hx hb hts in_wsX10_count_X10 hown hK hP q_52 hq_52 rfl 15 (by decide) (hts (.fieldLink RX10 66 "ShipOffice" "refusals" "[I") iw_X10_count_11) (fun _ h9 => h9) (o_rd hb_53) dX10_count_162 ?_
        have tb_53 : oty Z b_53 107 := oInv.rd gI to.2 hb_53 rfl rfl
        refine lv_iload_n hx hb dX10_count_165 rfl (lv_at hl 1 rfl) ?_
        refine lv_bipush (v := 10) hx hb dX10_count_166 (by decide) ?_
        refine lv_isub hx hb dX10_count_168 ?_
        refine lv_topi (fun x_54 ex_54 => ?_)
        have hx_54 : x_54.toInt = x1.toInt - 10 := (iv_to ex_54).trans (sb_i rfl (by decide) (by omega) (by omega))
        clear ex_54
        obtain ⟨q_55, hq_55⟩ := og (cq := cq) tb_53.1 (oE_a1 (n := 7) tb_53.2 (by decide))
        refine va_iald hx hb hK hP q_55 0 hq_55 rfl (vp_in_iff.mpr (by omega)) dX10_count_169 ?_
        refine lv_topi (fun x_56 ex_56 => ?_)
        have gx_56 : x_56.toInt = (fa 0 (x1.toInt - 10).toNat).toInt := by rw [iv_to ex_56, ← oQ_e hb_53, hRr (x_54 : Int32).toNatClampNeg (show (x_54 : Int32).toInt.toNat < 7 by omega), show (x_54 : Int32).toNatClampNeg = (x1.toInt - 10).toNat from (show x_54.toInt.toNat = (x1.toInt - 10).toNat by omega)]
        refine lv_goto (tgt := 175) hx hb dX10_count_170 (by decide) ?_
        exact W.iret (v := x_56) hx hb hr (fun t ht hW => ⟨⟨x_56, (), rfl, (by have hw9 := hRw.1; unfold coA; (first | exact Or.inl ⟨by omega, by omega⟩ | exact Or.inr (Or.inl ⟨by omega, by omega⟩) | exact Or.inr (Or.inr (Or.inl ⟨by omega, by omega⟩)) | exact Or.inr (Or.inr (Or.inr (Or.inl ⟨by omega, by omega⟩))) | exact Or.inr (Or.inr (Or.inr (Or.inr (Or.inl ⟨by omega, by omega⟩)))) | exact Or.inr (Or.inr (Or.inr (Or.inr (Or.inr (Or.inl ⟨by omega, by omega⟩))))) | exact Or.inr (Or.inr (Or.inr (Or.inr (Or.inr (Or.inr (Or.inl ⟨by omega, by omega⟩)))))) | exact Or.inr (Or.inr (Or.inr (Or.inr (Or.inr (Or.inr (Or.inr (Or.inl ⟨by omega, by omega⟩))))))) | exact Or.inr (Or.inr (Or.inr (Or.inr (Or.inr (Or.inr (Or.inr (Or.inr (Or.inl ⟨by omega, by omega⟩)))))))) | exact Or.inr (Or.inr (Or.inr (Or.inr (Or.inr (Or.inr (Or.inr (Or.inr (Or.inr (Or.inl ⟨by omega, by omega⟩))))))))) | exact Or.inr (Or.inr (Or.inr (Or.inr (Or.inr (Or.inr (Or.inr (Or.inr (Or.inr (Or.inr (Or.inl ⟨by omega, by omega⟩)))))))))) | exact Or.inr (Or.inr (Or.inr (Or.inr (Or.inr (Or.inr (Or.inr (Or.inr (Or.inr (Or.inr (Or.inr (Or.inl ⟨by omega, by omega, by omega⟩))))))))))) | exact Or.inr (Or.inr (Or.inr (Or.inr (Or.inr (Or.inr (Or.inr (Or.inr (Or.inr (Or.inr (Or.inr (Or.inr (⟨by omega, by omega⟩)))))))))))))), trivial⟩, hS.F ht⟩) hS.2.2 dX10_count_175
  have n_57 := c_ne (a := x1.toInt) (b := 10) rfl (by decide) q_49
  by_cases q_58 : x1 = 11
  · have kq_58 : x1.toInt = 11 := by rw [q_58]; decide
    refine lv_topi (fun y ey => ?_)
    obtain rfl : y = 11 := ey.trans q_58
    refine lv_tableIn (x := 11) (off := 148) (tgt := 149) hx hb dX10_count_1 (by decide) (by decide) (by decide) (by decide) ?_
    refine lv_iload_n hx hb dX10_count_149 rfl (lv_at hl 1 rfl) ?_
    refine lv_bipush (v := 11) hx hb dX10_count_150 (by decide) ?_
    refine lv_icmp_lt (tgt := 173) hx hb dX10_count_152 (by decide) (fun c_59 => ?_) (fun c_59 => ?_)
    · have dc_59 := c_lt (a := x1.toInt) (b := 11) rfl (by decide) c_59
      refine lv_bipush (v := (-9)) hx hb dX10_count_173 (by decide) ?_
      exact W.iret (v := (-9)) hx hb hr (fun t ht hW => ⟨⟨(-9), (), rfl, (by have rc : ((-9) : Int32).toInt = -9 := (by decide); have hw9 := hRw.1; unfold coA; (first | exact Or.inl ⟨by omega, by omega⟩ | exact Or.inr (Or.inl ⟨by omega, by omega⟩) | exact Or.inr (Or.inr (Or.inl ⟨by omega, by omega⟩)) | exact Or.inr (Or.inr (Or.inr (Or.inl ⟨by omega, by omega⟩))) | exact Or.inr (Or.inr (Or.inr (Or.inr (Or.inl ⟨by omega, by omega⟩)))) | exact Or.inr (Or.inr (Or.inr (Or.inr (Or.inr (Or.inl ⟨by omega, by omega⟩))))) | exact Or.inr (Or.inr (Or.inr (Or.inr (Or.inr (Or.inr (Or.inl ⟨by omega, by omega⟩)))))) | exact Or.inr (Or.inr (Or.inr (Or.inr (Or.inr (Or.inr (Or.inr (Or.inl ⟨by omega, by omega⟩))))))) | exact Or.inr (Or.inr (Or.inr (Or.inr (Or.inr (Or.inr (Or.inr (Or.inr (Or.inl ⟨by omega, by omega⟩)))))))) | exact Or.inr (Or.inr (Or.inr (Or.inr (Or.inr (Or.inr (Or.inr (Or.inr (Or.inr (Or.inl ⟨by omega, by omega⟩))))))))) | exact Or.inr (Or.inr (Or.inr (Or.inr (Or.inr (Or.inr (Or.inr (Or.inr (Or.inr (Or.inr (Or.inl ⟨by omega, by omega⟩)))))))))) | exact Or.inr (Or.inr (Or.inr (Or.inr (Or.inr (Or.inr (Or.inr (Or.inr (Or.inr (Or.inr (Or.inr (Or.inl ⟨by omega, by omega, by omega⟩))))))))))) | exact Or.inr (Or.inr (Or.inr (Or.inr (Or.inr (Or.inr (Or.inr (Or.inr (Or.inr (Or.inr (Or.inr (Or.inr (⟨by omega, by omega⟩)))))))))))))), trivial⟩, hS.F ht⟩) hS.2.2 dX10_count_175
    · have dc_59 := c_nlt (a := x1.toInt) (b := 11) rfl (by decide) c_59
      refine lv_iload_n hx hb dX10_count_155 rfl (lv_at hl 1 rfl) ?_
      refine lv_bipush (v := 16) hx hb dX10_count_156 (by decide) ?_
      refine lv_icmp_gt (tgt := 173) hx hb dX10_count_158 (by decide) (fun c_60 => ?_) (fun c_60 => ?_)
      · have dc_60 := c_lt (a := 16) (b := x1.toInt) (by decide) rfl c_60
        refine lv_bipush (v := (-9)) hx hb dX10_count_173 (by decide) ?_
        exact W.iret (v := (-9)) hx hb hr (fun t ht hW => ⟨⟨(-9), (), rfl, (by have rc : ((-9) : Int32).toInt = -9 := (by decide); have hw9 := hRw.1; unfold coA; (first | exact Or.inl ⟨by omega, by omega⟩ | exact Or.inr (Or.inl ⟨by omega, by omega⟩) | exact Or.inr (Or.inr (Or.inl ⟨by omega, by omega⟩)) | exact Or.inr (Or.inr (Or.inr (Or.inl ⟨by omega, by omega⟩))) | exact Or.inr (Or.inr (Or.inr (Or.inr (Or.inl ⟨by omega, by omega⟩)))) | exact Or.inr (Or.inr (Or.inr (Or.inr (Or.inr (Or.inl ⟨by omega, by omega⟩))))) | exact Or.inr (Or.inr (Or.inr (Or.inr (Or.inr (Or.inr (Or.inl ⟨by omega, by omega⟩)))))) | exact Or.inr (Or.inr (Or.inr (Or.inr (Or.inr (Or.inr (Or.inr (Or.inl ⟨by omega, by omega⟩))))))) | exact Or.inr (Or.inr (Or.inr (Or.inr (Or.inr (Or.inr (Or.inr (Or.inr (Or.inl ⟨by omega, by omega⟩)))))))) | exact Or.inr (Or.inr (Or.inr (Or.inr (Or.inr (Or.inr (Or.inr (Or.inr (Or.inr (Or.inl ⟨by omega, by omega⟩))))))))) | exact Or.inr (Or.inr (Or.inr (Or.inr (Or.inr (Or.inr (Or.inr (Or.inr (Or.inr (Or.inr (Or.inl ⟨by omega, by omega⟩)))))))))) | exact Or.inr (Or.inr (Or.inr (Or.inr (Or.inr (Or.inr (Or.inr (Or.inr (Or.inr (Or.inr (Or.inr (Or.inl ⟨by omega, by omega, by omega⟩))))))))))) | exact Or.inr (Or.inr (Or.inr (Or.inr (Or.inr (Or.inr (Or.inr (Or.inr (Or.inr (Or.inr (Or.inr (Or.inr (⟨by omega, by omega⟩)))))))))))))), trivial⟩, hS.F ht⟩) hS.2.2 dX10_count_175
      · have dc_60 := c_nlt (a := 16) (b := x1.toInt) (by decide) rfl c_60
        refine lv_aload_n hx hb dX10_count_161 rfl (lv_at hl 0 rfl) ?_
        obtain ⟨q_61, hq_61⟩ := og (cq := cq) to.1 (oE_10 to.2)
        obtain ⟨b_62, hb_62⟩ := oInv.nn (i := 15) gI to rfl
        refine va_get (D := (dC, dI)) (ci := 10) (v := .ref b_62) (C := RX10) (T := TX10) (N := 16) hx hb hts in_wsX10_count_X10 hown hK hP q_61 hq_61 rfl 15 (by decide) (hts (.fieldLink RX10 66 "ShipOffice" "refusals" "[I") iw_X10_count_11) (fun _ h9 => h9) (o_rd hb_62) dX10_count_162 ?_
        have tb_62 : oty Z b_62 107 := oInv.rd gI to.2 hb_62 rfl rfl
        refine lv_iload_n hx hb dX10_count_165 rfl (lv_at hl 1 rfl) ?_
        refine lv_bipush (v := 10) hx hb dX10_count_166 (by decide) ?_
        refine lv_isub hx hb dX10_count_168 ?_
        refine lv_topi (fun x_63 ex_63 => ?_)
        have hx_63 : x_63.toInt = x1.toInt - 10 := (iv_to ex_63).trans (sb_i rfl (by decide) (by omega) (by omega))
        clear ex_63
        obtain ⟨q_64, hq_64⟩ := og (cq := cq) tb_62.1 (oE_a1 (n := 7) tb_62.2 (by decide))
        refine va_iald hx hb hK hP q_64 0 hq_64 rfl (vp_in_iff.mpr (by omega)) dX10_count_169 ?_
        refine lv_topi (fun x_65 ex_65 => ?_)
        have gx_65 : x_65.toInt = (fa 0 (x1.toInt - 10).toNat).toInt := by rw [iv_to ex_65, ← oQ_e hb_62, hRr (x_63 : Int32).toNatClampNeg (show (x_63 : Int32).toInt.toNat < 7 by omega), show (x_63 : Int32).toNatClampNeg = (x1.toInt - 10).toNat from (show x_63.toInt.toNat = (x1.toInt - 10).toNat by omega)]
        refine lv_goto (tgt := 175) hx hb dX10_count_170 (by decide) ?_
        exact W.iret (v := x_65) hx hb hr (fun t ht hW => ⟨⟨x_65, (), rfl, (by have hw9 := hRw.1; unfold coA; (first | exact Or.inl ⟨by omega, by omega⟩ | exact Or.inr (Or.inl ⟨by omega, by omega⟩) | exact Or.inr (Or.inr (Or.inl ⟨by omega, by omega⟩)) | exact Or.inr (Or.inr (Or.inr (Or.inl ⟨by omega, by omega⟩))) | exact Or.inr (Or.inr (Or.inr (Or.inr (Or.inl ⟨by omega, by omega⟩)))) | exact Or.inr (Or.inr (Or.inr (Or.inr (Or.inr (Or.inl ⟨by omega, by omega⟩))))) | exact Or.inr (Or.inr (Or.inr (Or.inr (Or.inr (Or.inr (Or.inl ⟨by omega, by omega⟩)))))) | exact Or.inr (Or.inr (Or.inr (Or.inr (Or.inr (Or.inr (Or.inr (Or.inl ⟨by omega, by omega⟩))))))) | exact Or.inr (Or.inr (Or.inr (Or.inr (Or.inr (Or.inr (Or.inr (Or.inr (Or.inl ⟨by omega, by omega⟩)))))))) | exact Or.inr (Or.inr (Or.inr (Or.inr (Or.inr (Or.inr (Or.inr (Or.inr (Or.inr (Or.inl ⟨by omega, by omega⟩))))))))) | exact Or.inr (Or.inr (Or.inr (Or.inr (Or.inr (Or.inr (Or.inr (Or.inr (Or.inr (Or.inr (Or.inl ⟨by omega, by omega⟩)))))))))) | exact Or.inr (Or.inr (Or.inr (Or.inr (Or.inr (Or.inr (Or.inr (Or.inr (Or.inr (Or.inr (Or.inr (Or.inl ⟨by omega, by omega, by omega⟩))))))))))) | exact Or.inr (Or.inr (Or.inr (Or.inr (Or.inr (Or.inr (Or.inr (Or.inr (Or.inr (Or.inr (Or.inr (Or.inr (⟨by omega, by omega⟩)))))))))))))), trivial⟩, hS.F ht⟩) hS.2.2 dX10_count_175
  have n_66 := c_ne (a := x1.toInt) (b := 11) rfl (by decide) q_58
  by_cases q_67 : x1 = 12
  · have kq_67 : x1.toInt = 12 := by rw [q_67]; decide
    refine lv_topi (fun y ey => ?_)
    obtain rfl : y = 12 := ey.trans q_67
    refine lv_tableIn (x := 12) (off := 148) (tgt := 149) hx hb dX10_count_1 (by decide) (by decide) (by decide) (by decide) ?_
    refine lv_iload_n hx hb dX10_count_149 rfl (lv_at hl 1 rfl) ?_
    refine lv_bipush (v := 11) hx hb dX10_count_150 (by decide) ?_
    refine lv_icmp_lt (tgt := 173) hx hb dX10_count_152 (by decide) (fun c_68 => ?_) (fun c_68 => ?_)
    · have dc_68 := c_lt (a := x1.toInt) (b := 11) rfl (by decide) c_68
      refine lv_bipush (v := (-9)) hx hb dX10_count_173 (by decide) ?_
      exact W.iret (v := (-9)) hx hb hr (fun t ht hW => ⟨⟨(-9), (), rfl, (by have rc : ((-9) : Int32).toInt = -9 := (by decide); have hw9 := hRw.1; unfold coA; (first | exact Or.inl ⟨by omega, by omega⟩ | exact Or.inr (Or.inl ⟨by omega, by omega⟩) | exact Or.inr (Or.inr (Or.inl ⟨by omega, by omega⟩)) | exact Or.inr (Or.inr (Or.inr (Or.inl ⟨by omega, by omega⟩))) | exact Or.inr (Or.inr (Or.inr (Or.inr (Or.inl ⟨by omega, by omega⟩)))) | exact Or.inr (Or.inr (Or.inr (Or.inr (Or.inr (Or.inl ⟨by omega, by omega⟩))))) | exact Or.inr (Or.inr (Or.inr (Or.inr (Or.inr (Or.inr (Or.inl ⟨by omega, by omega⟩)))))) | exact Or.inr (Or.inr (Or.inr (Or.inr (Or.inr (Or.inr (Or.inr (Or.inl ⟨by omega, by omega⟩))))))) | exact Or.inr (Or.inr (Or.inr (Or.inr (Or.inr (Or.inr (Or.inr (Or.inr (Or.inl ⟨by omega, by omega⟩)))))))) | exact Or.inr (Or.inr (Or.inr (Or.inr (Or.inr (Or.inr (Or.inr (Or.inr (Or.inr (Or.inl ⟨by omega, by omega⟩))))))))) | exact Or.inr (Or.inr (Or.inr (Or.inr (Or.inr (Or.inr (Or.inr (Or.inr (Or.inr (Or.inr (Or.inl ⟨by omega, by omega⟩)))))))))) | exact Or.inr (Or.inr (Or.inr (Or.inr (Or.inr (Or.inr (Or.inr (Or.inr (Or.inr (Or.inr (Or.inr (Or.inl ⟨by omega, by omega, by omega⟩))))))))))) | exact Or.inr (Or.inr (Or.inr (Or.inr (Or.inr (Or.inr (Or.inr (Or.inr (Or.inr (Or.inr (Or.inr (Or.inr (⟨by omega, by omega⟩)))))))))))))), trivial⟩, hS.F ht⟩) hS.2.2 dX10_count_175
    · have dc_68 := c_nlt (a := x1.toInt) (b := 11) rfl (by decide) c_68
      refine lv_iload_n hx hb dX10_count_155 rfl (lv_at hl 1 rfl) ?_
      refine lv_bipush (v := 16) hx hb dX10_count_156 (by decide) ?_
      refine lv_icmp_gt (tgt := 173) hx hb dX10_count_158 (by decide) (fun c_69 => ?_) (fun c_69 => ?_)
      · have dc_69 := c_lt (a := 16) (b := x1.toInt) (by decide) rfl c_69
        refine lv_bipush (v := (-9)) hx hb dX10_count_173 (by decide) ?_
        exact W.iret (v := (-9)) hx hb hr (fun t ht hW => ⟨⟨(-9), (), rfl, (by have rc : ((-9) : Int32).toInt = -9 := (by decide); have hw9 := hRw.1; unfold coA; (first | exact Or.inl ⟨by omega, by omega⟩ | exact Or.inr (Or.inl ⟨by omega, by omega⟩) | exact Or.inr (Or.inr (Or.inl ⟨by omega, by omega⟩)) | exact Or.inr (Or.inr (Or.inr (Or.inl ⟨by omega, by omega⟩))) | exact Or.inr (Or.inr (Or.inr (Or.inr (Or.inl ⟨by omega, by omega⟩)))) | exact Or.inr (Or.inr (Or.inr (Or.inr (Or.inr (Or.inl ⟨by omega, by omega⟩))))) | exact Or.inr (Or.inr (Or.inr (Or.inr (Or.inr (Or.inr (Or.inl ⟨by omega, by omega⟩)))))) | exact Or.inr (Or.inr (Or.inr (Or.inr (Or.inr (Or.inr (Or.inr (Or.inl ⟨by omega, by omega⟩))))))) | exact Or.inr (Or.inr (Or.inr (Or.inr (Or.inr (Or.inr (Or.inr (Or.inr (Or.inl ⟨by omega, by omega⟩)))))))) | exact Or.inr (Or.inr (Or.inr (Or.inr (Or.inr (Or.inr (Or.inr (Or.inr (Or.inr (Or.inl ⟨by omega, by omega⟩))))))))) | exact Or.inr (Or.inr (Or.inr (Or.inr (Or.inr (Or.inr (Or.inr (Or.inr (Or.inr (Or.inr (Or.inl ⟨by omega, by omega⟩)))))))))) | exact Or.inr (Or.inr (Or.inr (Or.inr (Or.inr (Or.inr (Or.inr (Or.inr (Or.inr (Or.inr (Or.inr (Or.inl ⟨by omega, by omega, by omega⟩))))))))))) | exact Or.inr (Or.inr (Or.inr (Or.inr (Or.inr (Or.inr (Or.inr (Or.inr (Or.inr (Or.inr (Or.inr (Or.inr (⟨by omega, by omega⟩)))))))))))))), trivial⟩, hS.F ht⟩) hS.2.2 dX10_count_175
      · have dc_69 := c_nlt (a := 16) (b := x1.toInt) (by decide) rfl c_69
        refine lv_aload_n hx hb dX10_count_161 rfl (lv_at hl 0 rfl) ?_
        obtain ⟨q_70, hq_70⟩ := og (cq := cq) to.1 (oE_10 to.2)
        obtain ⟨b_71, hb_71⟩ := oInv.nn (i := 15) gI to rfl
        refine va_get (D := (dC, dI)) (ci := 10) (v := .ref b_71) (C := RX10) (T := TX10) (N := 16) hx hb hts in_wsX10_count_X10 hown hK hP q_70 hq_70 rfl 15 (by decide) (hts (.fieldLink RX10 66 "ShipOffice" "refusals" "[I") iw_X10_count_11) (fun _ h9 => h9) (o_rd hb_71) dX10_count_162 ?_
        have tb_71 : oty Z b_71 107 := oInv.rd gI to.2 hb_71 rfl rfl
        refine lv_iload_n hx hb dX10_count_165 rfl (lv_at hl 1 rfl) ?_
        refine lv_bipush (v := 10) hx hb dX10_count_166 (by decide) ?_
        refine lv_isub hx hb dX10_count_168 ?_
        refine lv_topi (fun x_72 ex_72 => ?_)
        have hx_72 : x_72.toInt = x1.toInt - 10 := (iv_to ex_72).trans (sb_i rfl (by decide) (by omega) (by omega))
        clear ex_72
        obtain ⟨q_73, hq_73⟩ := og (cq := cq) tb_71.1 (oE_a1 (n := 7) tb_71.2 (by decide))
        refine va_iald hx hb hK hP q_73 0 hq_73 rfl (vp_in_iff.mpr (by omega)) dX10_count_169 ?_
        refine lv_topi (fun x_74 ex_74 => ?_)
        have gx_74 : x_74.toInt = (fa 0 (x1.toInt - 10).toNat).toInt := by rw [iv_to ex_74, ← oQ_e hb_71, hRr (x_72 : Int32).toNatClampNeg (show (x_72 : Int32).toInt.toNat < 7 by omega), show (x_72 : Int32).toNatClampNeg = (x1.toInt - 10).toNat from (show x_72.toInt.toNat = (x1.toInt - 10).toNat by omega)]
        refine lv_goto (tgt := 175) hx hb dX10_count_170 (by decide) ?_
        exact W.iret (v := x_74) hx hb hr (fun t ht hW => ⟨⟨x_74, (), rfl, (by have hw9 := hRw.1; unfold coA; (first | exact Or.inl ⟨by omega, by omega⟩ | exact Or.inr (Or.inl ⟨by omega, by omega⟩) | exact Or.inr (Or.inr (Or.inl ⟨by omega, by omega⟩)) | exact Or.inr (Or.inr (Or.inr (Or.inl ⟨by omega, by omega⟩))) | exact Or.inr (Or.inr (Or.inr (Or.inr (Or.inl ⟨by omega, by omega⟩)))) | exact Or.inr (Or.inr (Or.inr (Or.inr (Or.inr (Or.inl ⟨by omega, by omega⟩))))) | exact Or.inr (Or.inr (Or.inr (Or.inr (Or.inr (Or.inr (Or.inl ⟨by omega, by omega⟩)))))) | exact Or.inr (Or.inr (Or.inr (Or.inr (Or.inr (Or.inr (Or.inr (Or.inl ⟨by omega, by omega⟩))))))) | exact Or.inr (Or.inr (Or.inr (Or.inr (Or.inr (Or.inr (Or.inr (Or.inr (Or.inl ⟨by omega, by omega⟩)))))))) | exact Or.inr (Or.inr (Or.inr (Or.inr (Or.inr (Or.inr (Or.inr (Or.inr (Or.inr (Or.inl ⟨by omega, by omega⟩))))))))) | exact Or.inr (Or.inr (Or.inr (Or.inr (Or.inr (Or.inr (Or.inr (Or.inr (Or.inr (Or.inr (Or.inl ⟨by omega, by omega⟩)))))))))) | exact Or.inr (Or.inr (Or.inr (Or.inr (Or.inr (Or.inr (Or.inr (Or.inr (Or.inr (Or.inr (Or.inr (Or.inl ⟨by omega, by omega, by omega⟩))))))))))) | exact Or.inr (Or.inr (Or.inr (Or.inr (Or.inr (Or.inr (Or.inr (Or.inr (Or.inr (Or.inr (Or.inr (Or.inr (⟨by omega, by omega⟩)))))))))))))), trivial⟩, hS.F ht⟩) hS.2.2 dX10_count_175
  have n_75 := c_ne (a := x1.toInt) (b := 12) rfl (by decide) q_67
  by_cases q_76 : x1 = 13
  · have kq_76 : x1.toInt = 13 := by rw [q_76]; decide
    refine lv_topi (fun y ey => ?_)
    obtain rfl : y = 13 := ey.trans q_76
    refine lv_tableIn (x := 13) (off := 148) (tgt := 149) hx hb dX10_count_1 (by decide) (by decide) (by decide) (by decide) ?_
    refine lv_iload_n hx hb dX10_count_149 rfl (lv_at hl 1 rfl) ?_
    refine lv_bipush (v := 11) hx hb dX10_count_150 (by decide) ?_
    refine lv_icmp_lt (tgt := 173) hx hb dX10_count_152 (by decide) (fun c_77 => ?_) (fun c_77 => ?_)
    · have dc_77 := c_lt (a := x1.toInt) (b := 11) rfl (by decide) c_77
      refine lv_bipush (v := (-9)) hx hb dX10_count_173 (by decide) ?_
      exact W.iret (v := (-9)) hx hb hr (fun t ht hW => ⟨⟨(-9), (), rfl, (by have rc : ((-9) : Int32).toInt = -9 := (by decide); have hw9 := hRw.1; unfold coA; (first | exact Or.inl ⟨by omega, by omega⟩ | exact Or.inr (Or.inl ⟨by omega, by omega⟩) | exact Or.inr (Or.inr (Or.inl ⟨by omega, by omega⟩)) | exact Or.inr (Or.inr (Or.inr (Or.inl ⟨by omega, by omega⟩))) | exact Or.inr (Or.inr (Or.inr (Or.inr (Or.inl ⟨by omega, by omega⟩)))) | exact Or.inr (Or.inr (Or.inr (Or.inr (Or.inr (Or.inl ⟨by omega, by omega⟩))))) | exact Or.inr (Or.inr (Or.inr (Or.inr (Or.inr (Or.inr (Or.inl ⟨by omega, by omega⟩)))))) | exact Or.inr (Or.inr (Or.inr (Or.inr (Or.inr (Or.inr (Or.inr (Or.inl ⟨by omega, by omega⟩))))))) | exact Or.inr (Or.inr (Or.inr (Or.inr (Or.inr (Or.inr (Or.inr (Or.inr (Or.inl ⟨by omega, by omega⟩)))))))) | exact Or.inr (Or.inr (Or.inr (Or.inr (Or.inr (Or.inr (Or.inr (Or.inr (Or.inr (Or.inl ⟨by omega, by omega⟩))))))))) | exact Or.inr (Or.inr (Or.inr (Or.inr (Or.inr (Or.inr (Or.inr (Or.inr (Or.inr (Or.inr (Or.inl ⟨by omega, by omega⟩)))))))))) | exact Or.inr (Or.inr (Or.inr (Or.inr (Or.inr (Or.inr (Or.inr (Or.inr (Or.inr (Or.inr (Or.inr (Or.inl ⟨by omega, by omega, by omega⟩))))))))))) | exact Or.inr (Or.inr (Or.inr (Or.inr (Or.inr (Or.inr (Or.inr (Or.inr (Or.inr (Or.inr (Or.inr (Or.inr (⟨by omega, by omega⟩)))))))))))))), trivial⟩, hS.F ht⟩) hS.2.2 dX10_count_175
    · have dc_77 := c_nlt (a := x1.toInt) (b := 11) rfl (by decide) c_77
      refine lv_iload_n hx hb dX10_count_155 rfl (lv_at hl 1 rfl) ?_
      refine lv_bipush (v := 16) hx hb dX10_count_156 (by decide) ?_
      refine lv_icmp_gt (tgt := 173) hx hb dX10_count_158 (by decide) (fun c_78 => ?_) (fun c_78 => ?_)
      · have dc_78 := c_lt (a := 16) (b := x1.toInt) (by decide) rfl c_78
        refine lv_bipush (v := (-9)) hx hb dX10_count_173 (by decide) ?_
        exact W.iret (v := (-9)) hx hb hr (fun t ht hW => ⟨⟨(-9), (), rfl, (by have rc : ((-9) : Int32).toInt = -9 := (by decide); have hw9 := hRw.1; unfold coA; (first | exact Or.inl ⟨by omega, by omega⟩ | exact Or.inr (Or.inl ⟨by omega, by omega⟩) | exact Or.inr (Or.inr (Or.inl ⟨by omega, by omega⟩)) | exact Or.inr (Or.inr (Or.inr (Or.inl ⟨by omega, by omega⟩))) | exact Or.inr (Or.inr (Or.inr (Or.inr (Or.inl ⟨by omega, by omega⟩)))) | exact Or.inr (Or.inr (Or.inr (Or.inr (Or.inr (Or.inl ⟨by omega, by omega⟩))))) | exact Or.inr (Or.inr (Or.inr (Or.inr (Or.inr (Or.inr (Or.inl ⟨by omega, by omega⟩)))))) | exact Or.inr (Or.inr (Or.inr (Or.inr (Or.inr (Or.inr (Or.inr (Or.inl ⟨by omega, by omega⟩))))))) | exact Or.inr (Or.inr (Or.inr (Or.inr (Or.inr (Or.inr (Or.inr (Or.inr (Or.inl ⟨by omega, by omega⟩)))))))) | exact Or.inr (Or.inr (Or.inr (Or.inr (Or.inr (Or.inr (Or.inr (Or.inr (Or.inr (Or.inl ⟨by omega, by omega⟩))))))))) | exact Or.inr (Or.inr (Or.inr (Or.inr (Or.inr (Or.inr (Or.inr (Or.inr (Or.inr (Or.inr (Or.inl ⟨by omega, by omega⟩)))))))))) | exact Or.inr (Or.inr (Or.inr (Or.inr (Or.inr (Or.inr (Or.inr (Or.inr (Or.inr (Or.inr (Or.inr (Or.inl ⟨by omega, by omega, by omega⟩))))))))))) | exact Or.inr (Or.inr (Or.inr (Or.inr (Or.inr (Or.inr (Or.inr (Or.inr (Or.inr (Or.inr (Or.inr (Or.inr (⟨by omega, by omega⟩)))))))))))))), trivial⟩, hS.F ht⟩) hS.2.2 dX10_count_175
      · have dc_78 := c_nlt (a := 16) (b := x1.toInt) (by decide) rfl c_78
        refine lv_aload_n hx hb dX10_count_161 rfl (lv_at hl 0 rfl) ?_
        obtain ⟨q_79, hq_79⟩ := og (cq := cq) to.1 (oE_10 to.2)
        obtain ⟨b_80, hb_80⟩ := oInv.nn (i := 15) gI to rfl
        refine va_get (D := (dC, dI)) (ci := 10) (v := .ref b_80) (C := RX10) (T := TX10) (N := 16) hx hb hts in_wsX10_count_X10 hown hK hP q_79 hq_79 rfl 15 (by decide) (hts (.fieldLink RX10 66 "ShipOffice" "refusals" "[I") iw_X10_count_11) (fun _ h9 => h9) (o_rd hb_80) dX10_count_162 ?_
        have tb_80 : oty Z b_80 107 := oInv.rd gI to.2 hb_80 rfl rfl
        refine lv_iload_n hx hb dX10_count_165 rfl (lv_at hl 1 rfl) ?_
        refine lv_bipush (v := 10) hx hb dX10_count_166 (by decide) ?_
        refine lv_isub hx hb dX10_count_168 ?_
        refine lv_topi (fun x_81 ex_81 => ?_)
        have hx_81 : x_81.toInt = x1.toInt - 10 := (iv_to ex_81).trans (sb_i rfl (by decide) (by omega) (by omega))
        clear ex_81
        obtain ⟨q_82, hq_82⟩ := og (cq := cq) tb_80.1 (oE_a1 (n := 7) tb_80.2 (by decide))
        refine va_iald hx hb hK hP q_82 0 hq_82 rfl (vp_in_iff.mpr (by omega)) dX10_count_169 ?_
        refine lv_topi (fun x_83 ex_83 => ?_)
        have gx_83 : x_83.toInt = (fa 0 (x1.toInt - 10).toNat).toInt := by rw [iv_to ex_83, ← oQ_e hb_80, hRr (x_81 : Int32).toNatClampNeg (show (x_81 : Int32).toInt.toNat < 7 by omega), show (x_81 : Int32).toNatClampNeg = (x1.toInt - 10).toNat from (show x_81.toInt.toNat = (x1.toInt - 10).toNat by omega)]
        refine lv_goto (tgt := 175) hx hb dX10_count_170 (by decide) ?_
        exact W.iret (v := x_83) hx hb hr (fun t ht hW => ⟨⟨x_83, (), rfl, (by have hw9 := hRw.1; unfold coA; (first | exact Or.inl ⟨by omega, by omega⟩ | exact Or.inr (Or.inl ⟨by omega, by omega⟩) | exact Or.inr (Or.inr (Or.inl ⟨by omega, by omega⟩)) | exact Or.inr (Or.inr (Or.inr (Or.inl ⟨by omega, by omega⟩))) | exact Or.inr (Or.inr (Or.inr (Or.inr (Or.inl ⟨by omega, by omega⟩)))) | exact Or.inr (Or.inr (Or.inr (Or.inr (Or.inr (Or.inl ⟨by omega, by omega⟩))))) | exact Or.inr (Or.inr (Or.inr (Or.inr (Or.inr (Or.inr (Or.inl ⟨by omega, by omega⟩)))))) | exact Or.inr (Or.inr (Or.inr (Or.inr (Or.inr (Or.inr (Or.inr (Or.inl ⟨by omega, by omega⟩))))))) | exact Or.inr (Or.inr (Or.inr (Or.inr (Or.inr (Or.inr (Or.inr (Or.inr (Or.inl ⟨by omega, by omega⟩)))))))) | exact Or.inr (Or.inr (Or.inr (Or.inr (Or.inr (Or.inr (Or.inr (Or.inr (Or.inr (Or.inl ⟨by omega, by omega⟩))))))))) | exact Or.inr (Or.inr (Or.inr (Or.inr (Or.inr (Or.inr (Or.inr (Or.inr (Or.inr (Or.inr (Or.inl ⟨by omega, by omega⟩)))))))))) | exact Or.inr (Or.inr (Or.inr (Or.inr (Or.inr (Or.inr (Or.inr (Or.inr (Or.inr (Or.inr (Or.inr (Or.inl ⟨by omega, by omega, by omega⟩))))))))))) | exact Or.inr (Or.inr (Or.inr (Or.inr (Or.inr (Or.inr (Or.inr (Or.inr (Or.inr (Or.inr (Or.inr (Or.inr (⟨by omega, by omega⟩)))))))))))))), trivial⟩, hS.F ht⟩) hS.2.2 dX10_count_175
  have n_84 := c_ne (a := x1.toInt) (b := 13) rfl (by decide) q_76
  by_cases q_85 : x1 = 14
  · have kq_85 : x1.toInt = 14 := by rw [q_85]; decide
    refine lv_topi (fun y ey => ?_)
    obtain rfl : y = 14 := ey.trans q_85
    refine lv_tableIn (x := 14) (off := 148) (tgt := 149) hx hb dX10_count_1 (by decide) (by decide) (by decide) (by decide) ?_
    refine lv_iload_n hx hb dX10_count_149 rfl (lv_at hl 1 rfl) ?_
    refine lv_bipush (v := 11) hx hb dX10_count_150 (by decide) ?_
    refine lv_icmp_lt (tgt := 173) hx hb dX10_count_152 (by decide) (fun c_86 => ?_) (fun c_86 => ?_)
    · have dc_86 := c_lt (a := x1.toInt) (b := 11) rfl (by decide) c_86
      refine lv_bipush (v := (-9)) hx hb dX10_count_173 (by decide) ?_
      exact W.iret (v := (-9)) hx hb hr (fun t ht hW => ⟨⟨(-9), (), rfl, (by have rc : ((-9) : Int32).toInt = -9 := (by decide); have hw9 := hRw.1; unfold coA; (first | exact Or.inl ⟨by omega, by omega⟩ | exact Or.inr (Or.inl ⟨by omega, by omega⟩) | exact Or.inr (Or.inr (Or.inl ⟨by omega, by omega⟩)) | exact Or.inr (Or.inr (Or.inr (Or.inl ⟨by omega, by omega⟩))) | exact Or.inr (Or.inr (Or.inr (Or.inr (Or.inl ⟨by omega, by omega⟩)))) | exact Or.inr (Or.inr (Or.inr (Or.inr (Or.inr (Or.inl ⟨by omega, by omega⟩))))) | exact Or.inr (Or.inr (Or.inr (Or.inr (Or.inr (Or.inr (Or.inl ⟨by omega, by omega⟩)))))) | exact Or.inr (Or.inr (Or.inr (Or.inr (Or.inr (Or.inr (Or.inr (Or.inl ⟨by omega, by omega⟩))))))) | exact Or.inr (Or.inr (Or.inr (Or.inr (Or.inr (Or.inr (Or.inr (Or.inr (Or.inl ⟨by omega, by omega⟩)))))))) | exact Or.inr (Or.inr (Or.inr (Or.inr (Or.inr (Or.inr (Or.inr (Or.inr (Or.inr (Or.inl ⟨by omega, by omega⟩))))))))) | exact Or.inr (Or.inr (Or.inr (Or.inr (Or.inr (Or.inr (Or.inr (Or.inr (Or.inr (Or.inr (Or.inl ⟨by omega, by omega⟩)))))))))) | exact Or.inr (Or.inr (Or.inr (Or.inr (Or.inr (Or.inr (Or.inr (Or.inr (Or.inr (Or.inr (Or.inr (Or.inl ⟨by omega, by omega, by omega⟩))))))))))) | exact Or.inr (Or.inr (Or.inr (Or.inr (Or.inr (Or.inr (Or.inr (Or.inr (Or.inr (Or.inr (Or.inr (Or.inr (⟨by omega, by omega⟩)))))))))))))), trivial⟩, hS.F ht⟩) hS.2.2 dX10_count_175
    · have dc_86 := c_nlt (a := x1.toInt) (b := 11) rfl (by decide) c_86
      refine lv_iload_n hx hb dX10_count_155 rfl (lv_at hl 1 rfl) ?_
      refine lv_bipush (v := 16) hx hb dX10_count_156 (by decide) ?_
      refine lv_icmp_gt (tgt := 173) hx hb dX10_count_158 (by decide) (fun c_87 => ?_) (fun c_87 => ?_)
      · have dc_87 := c_lt (a := 16) (b := x1.toInt) (by decide) rfl c_87
        refine lv_bipush (v := (-9)) hx hb dX10_count_173 (by decide) ?_
        exact W.iret (v := (-9)) hx hb hr (fun t ht hW => ⟨⟨(-9), (), rfl, (by have rc : ((-9) : Int32).toInt = -9 := (by decide); have hw9 := hRw.1; unfold coA; (first | exact Or.inl ⟨by omega, by omega⟩ | exact Or.inr (Or.inl ⟨by omega, by omega⟩) | exact Or.inr (Or.inr (Or.inl ⟨by omega, by omega⟩)) | exact Or.inr (Or.inr (Or.inr (Or.inl ⟨by omega, by omega⟩))) | exact Or.inr (Or.inr (Or.inr (Or.inr (Or.inl ⟨by omega, by omega⟩)))) | exact Or.inr (Or.inr (Or.inr (Or.inr (Or.inr (Or.inl ⟨by omega, by omega⟩))))) | exact Or.inr (Or.inr (Or.inr (Or.inr (Or.inr (Or.inr (Or.inl ⟨by omega, by omega⟩)))))) | exact Or.inr (Or.inr (Or.inr (Or.inr (Or.inr (Or.inr (Or.inr (Or.inl ⟨by omega, by omega⟩))))))) | exact Or.inr (Or.inr (Or.inr (Or.inr (Or.inr (Or.inr (Or.inr (Or.inr (Or.inl ⟨by omega, by omega⟩)))))))) | exact Or.inr (Or.inr (Or.inr (Or.inr (Or.inr (Or.inr (Or.inr (Or.inr (Or.inr (Or.inl ⟨by omega, by omega⟩))))))))) | exact Or.inr (Or.inr (Or.inr (Or.inr (Or.inr (Or.inr (Or.inr (Or.inr (Or.inr (Or.inr (Or.inl ⟨by omega, by omega⟩)))))))))) | exact Or.inr (Or.inr (Or.inr (Or.inr (Or.inr (Or.inr (Or.inr (Or.inr (Or.inr (Or.inr (Or.inr (Or.inl ⟨by omega, by omega, by omega⟩))))))))))) | exact Or.inr (Or.inr (Or.inr (Or.inr (Or.inr (Or.inr (Or.inr (Or.inr (Or.inr (Or.inr (Or.inr (Or.inr (⟨by omega, by omega⟩)))))))))))))), trivial⟩, hS.F ht⟩) hS.2.2 dX10_count_175
      · have dc_87 := c_nlt (a := 16) (b := x1.toInt) (by decide) rfl c_87
        refine lv_aload_n hx hb dX10_count_161 rfl (lv_at hl 0 rfl) ?_
        obtain ⟨q_88, hq_88⟩ := og (cq := cq) to.1 (oE_10 to.2)
        obtain ⟨b_89, hb_89⟩ := oInv.nn (i := 15) gI to rfl
        refine va_get (D := (dC, dI)) (ci := 10) (v := .ref b_89) (C := RX10) (T := TX10) (N := 16) hx hb hts in_wsX10_count_X10 hown hK hP q_88 hq_88 rfl 15 (by decide) (hts (.fieldLink RX10 66 "ShipOffice" "refusals" "[I") iw_X10_count_11) (fun _ h9 => h9) (o_rd hb_89) dX10_count_162 ?_
        have tb_89 : oty Z b_89 107 := oInv.rd gI to.2 hb_89 rfl rfl
        refine lv_iload_n hx hb dX10_count_165 rfl (lv_at hl 1 rfl) ?_
        refine lv_bipush (v := 10) hx hb dX10_count_166 (by decide) ?_
        refine lv_isub hx hb dX10_count_168 ?_
        refine lv_topi (fun x_90 ex_90 => ?_)
        have hx_90 : x_90.toInt = x1.toInt - 10 := (iv_to ex_90).trans (sb_i rfl (by decide) (by omega) (by omega))
        clear ex_90
        obtain ⟨q_91, hq_91⟩ := og (cq := cq) tb_89.1 (oE_a1 (n := 7) tb_89.2 (by decide))
        refine va_iald hx hb hK hP q_91 0 hq_91 rfl (vp_in_iff.mpr (by omega)) dX10_count_169 ?_
        refine lv_topi (fun x_92 ex_92 => ?_)
        have gx_92 : x_92.toInt = (fa 0 (x1.toInt - 10).toNat).toInt := by rw [iv_to ex_92, ← oQ_e hb_89, hRr (x_90 : Int32).toNatClampNeg (show (x_90 : Int32).toInt.toNat < 7 by omega), show (x_90 : Int32).toNatClampNeg = (x1.toInt - 10).toNat from (show x_90.toInt.toNat = (x1.toInt - 10).toNat by omega)]
        refine lv_goto (tgt := 175) hx hb dX10_count_170 (by decide) ?_
        exact W.iret (v := x_92) hx hb hr (fun t ht hW => ⟨⟨x_92, (), rfl, (by have hw9 := hRw.1; unfold coA; (first | exact Or.inl ⟨by omega, by omega⟩ | exact Or.inr (Or.inl ⟨by omega, by omega⟩) | exact Or.inr (Or.inr (Or.inl ⟨by omega, by omega⟩)) | exact Or.inr (Or.inr (Or.inr (Or.inl ⟨by omega, by omega⟩))) | exact Or.inr (Or.inr (Or.inr (Or.inr (Or.inl ⟨by omega, by omega⟩)))) | exact Or.inr (Or.inr (Or.inr (Or.inr (Or.inr (Or.inl ⟨by omega, by omega⟩))))) | exact Or.inr (Or.inr (Or.inr (Or.inr (Or.inr (Or.inr (Or.inl ⟨by omega, by omega⟩)))))) | exact Or.inr (Or.inr (Or.inr (Or.inr (Or.inr (Or.inr (Or.inr (Or.inl ⟨by omega, by omega⟩))))))) | exact Or.inr (Or.inr (Or.inr (Or.inr (Or.inr (Or.inr (Or.inr (Or.inr (Or.inl ⟨by omega, by omega⟩)))))))) | exact Or.inr (Or.inr (Or.inr (Or.inr (Or.inr (Or.inr (Or.inr (Or.inr (Or.inr (Or.inl ⟨by omega, by omega⟩))))))))) | exact Or.inr (Or.inr (Or.inr (Or.inr (Or.inr (Or.inr (Or.inr (Or.inr (Or.inr (Or.inr (Or.inl ⟨by omega, by omega⟩)))))))))) | exact Or.inr (Or.inr (Or.inr (Or.inr (Or.inr (Or.inr (Or.inr (Or.inr (Or.inr (Or.inr (Or.inr (Or.inl ⟨by omega, by omega, by omega⟩))))))))))) | exact Or.inr (Or.inr (Or.inr (Or.inr (Or.inr (Or.inr (Or.inr (Or.inr (Or.inr (Or.inr (Or.inr (Or.inr (⟨by omega, by omega⟩)))))))))))))), trivial⟩, hS.F ht⟩) hS.2.2 dX10_count_175
  have n_93 := c_ne (a := x1.toInt) (b := 14) rfl (by decide) q_85
  by_cases q_94 : x1 = 15
  · have kq_94 : x1.toInt = 15 := by rw [q_94]; decide
    refine lv_topi (fun y ey => ?_)
    obtain rfl : y = 15 := ey.trans q_94
    refine lv_tableIn (x := 15) (off := 148) (tgt := 149) hx hb dX10_count_1 (by decide) (by decide) (by decide) (by decide) ?_
    refine lv_iload_n hx hb dX10_count_149 rfl (lv_at hl 1 rfl) ?_
    refine lv_bipush (v := 11) hx hb dX10_count_150 (by decide) ?_
    refine lv_icmp_lt (tgt := 173) hx hb dX10_count_152 (by decide) (fun c_95 => ?_) (fun c_95 => ?_)
    · have dc_95 := c_lt (a := x1.toInt) (b := 11) rfl (by decide) c_95
      refine lv_bipush (v := (-9)) hx hb dX10_count_173 (by decide) ?_
      exact W.iret (v := (-9)) hx hb hr (fun t ht hW => ⟨⟨(-9), (), rfl, (by have rc : ((-9) : Int32).toInt = -9 := (by decide); have hw9 := hRw.1; unfold coA; (first | exact Or.inl ⟨by omega, by omega⟩ | exact Or.inr (Or.inl ⟨by omega, by omega⟩) | exact Or.inr (Or.inr (Or.inl ⟨by omega, by omega⟩)) | exact Or.inr (Or.inr (Or.inr (Or.inl ⟨by omega, by omega⟩))) | exact Or.inr (Or.inr (Or.inr (Or.inr (Or.inl ⟨by omega, by omega⟩)))) | exact Or.inr (Or.inr (Or.inr (Or.inr (Or.inr (Or.inl ⟨by omega, by omega⟩))))) | exact Or.inr (Or.inr (Or.inr (Or.inr (Or.inr (Or.inr (Or.inl ⟨by omega, by omega⟩)))))) | exact Or.inr (Or.inr (Or.inr (Or.inr (Or.inr (Or.inr (Or.inr (Or.inl ⟨by omega, by omega⟩))))))) | exact Or.inr (Or.inr (Or.inr (Or.inr (Or.inr (Or.inr (Or.inr (Or.inr (Or.inl ⟨by omega, by omega⟩)))))))) | exact Or.inr (Or.inr (Or.inr (Or.inr (Or.inr (Or.inr (Or.inr (Or.inr (Or.inr (Or.inl ⟨by omega, by omega⟩))))))))) | exact Or.inr (Or.inr (Or.inr (Or.inr (Or.inr (Or.inr (Or.inr (Or.inr (Or.inr (Or.inr (Or.inl ⟨by omega, by omega⟩)))))))))) | exact Or.inr (Or.inr (Or.inr (Or.inr (Or.inr (Or.inr (Or.inr (Or.inr (Or.inr (Or.inr (Or.inr (Or.inl ⟨by omega, by omega, by omega⟩))))))))))) | exact Or.inr (Or.inr (Or.inr (Or.inr (Or.inr (Or.inr (Or.inr (Or.inr (Or.inr (Or.inr (Or.inr (Or.inr (⟨by omega, by omega⟩)))))))))))))), trivial⟩, hS.F ht⟩) hS.2.2 dX10_count_175
    · have dc_95 := c_nlt (a := x1.toInt) (b := 11) rfl (by decide) c_95
      refine lv_iload_n hx hb dX10_count_155 rfl (lv_at hl 1 rfl) ?_
      refine lv_bipush (v := 16) hx hb dX10_count_156 (by decide) ?_
      refine lv_icmp_gt (tgt := 173) hx hb dX10_count_158 (by decide) (fun c_96 => ?_) (fun c_96 => ?_)
      · have dc_96 := c_lt (a := 16) (b := x1.toInt) (by decide) rfl c_96
        refine lv_bipush (v := (-9)) hx hb dX10_count_173 (by decide) ?_
        exact W.iret (v := (-9)) hx hb hr (fun t ht hW => ⟨⟨(-9), (), rfl, (by have rc : ((-9) : Int32).toInt = -9 := (by decide); have hw9 := hRw.1; unfold coA; (first | exact Or.inl ⟨by omega, by omega⟩ | exact Or.inr (Or.inl ⟨by omega, by omega⟩) | exact Or.inr (Or.inr (Or.inl ⟨by omega, by omega⟩)) | exact Or.inr (Or.inr (Or.inr (Or.inl ⟨by omega, by omega⟩))) | exact Or.inr (Or.inr (Or.inr (Or.inr (Or.inl ⟨by omega, by omega⟩)))) | exact Or.inr (Or.inr (Or.inr (Or.inr (Or.inr (Or.inl ⟨by omega, by omega⟩))))) | exact Or.inr (Or.inr (Or.inr (Or.inr (Or.inr (Or.inr (Or.inl ⟨by omega, by omega⟩)))))) | exact Or.inr (Or.inr (Or.inr (Or.inr (Or.inr (Or.inr (Or.inr (Or.inl ⟨by omega, by omega⟩))))))) | exact Or.inr (Or.inr (Or.inr (Or.inr (Or.inr (Or.inr (Or.inr (Or.inr (Or.inl ⟨by omega, by omega⟩)))))))) | exact Or.inr (Or.inr (Or.inr (Or.inr (Or.inr (Or.inr (Or.inr (Or.inr (Or.inr (Or.inl ⟨by omega, by omega⟩))))))))) | exact Or.inr (Or.inr (Or.inr (Or.inr (Or.inr (Or.inr (Or.inr (Or.inr (Or.inr (Or.inr (Or.inl ⟨by omega, by omega⟩)))))))))) | exact Or.inr (Or.inr (Or.inr (Or.inr (Or.inr (Or.inr (Or.inr (Or.inr (Or.inr (Or.inr (Or.inr (Or.inl ⟨by omega, by omega, by omega⟩))))))))))) | exact Or.inr (Or.inr (Or.inr (Or.inr (Or.inr (Or.inr (Or.inr (Or.inr (Or.inr (Or.inr (Or.inr (Or.inr (⟨by omega, by omega⟩)))))))))))))), trivial⟩, hS.F ht⟩) hS.2.2 dX10_count_175
      · have dc_96 := c_nlt (a := 16) (b := x1.toInt) (by decide) rfl c_96
        refine lv_aload_n hx hb dX10_count_161 rfl (lv_at hl 0 rfl) ?_
        obtain ⟨q_97, hq_97⟩ := og (cq := cq) to.1 (oE_10 to.2)
        obtain ⟨b_98, hb_98⟩ := oInv.nn (i := 15) gI to rfl
        refine va_get (D := (dC, dI)) (ci := 10) (v := .ref b_98) (C := RX10) (T := TX10) (N := 16) hx hb hts in_wsX10_count_X10 hown hK hP q_97 hq_97 rfl 15 (by decide) (hts (.fieldLink RX10 66 "ShipOffice" "refusals" "[I") iw_X10_count_11) (fun _ h9 => h9) (o_rd hb_98) dX10_count_162 ?_
        have tb_98 : oty Z b_98 107 := oInv.rd gI to.2 hb_98 rfl rfl
        refine lv_iload_n hx hb dX10_count_165 rfl (lv_at hl 1 rfl) ?_
        refine lv_bipush (v := 10) hx hb dX10_count_166 (by decide) ?_
        refine lv_isub hx hb dX10_count_168 ?_
        refine lv_topi (fun x_99 ex_99 => ?_)
        have hx_99 : x_99.toInt = x1.toInt - 10 := (iv_to ex_99).trans (sb_i rfl (by decide) (by omega) (by omega))
        clear ex_99
        obtain ⟨q_100, hq_100⟩ := og (cq := cq) tb_98.1 (oE_a1 (n := 7) tb_98.2 (by decide))
        refine va_iald hx hb hK hP q_100 0 hq_100 rfl (vp_in_iff.mpr (by omega)) dX10_count_169 ?_
        refine lv_topi (fun x_101 ex_101 => ?_)
        have gx_101 : x_101.toInt = (fa 0 (x1.toInt - 10).toNat).toInt := by rw [iv_to ex_101, ← oQ_e hb_98, hRr (x_99 : Int32).toNatClampNeg (show (x_99 : Int32).toInt.toNat < 7 by omega), show (x_99 : Int32).toNatClampNeg = (x1.toInt - 10).toNat from (show x_99.toInt.toNat = (x1.toInt - 10).toNat by omega)]
        refine lv_goto (tgt := 175) hx hb dX10_count_170 (by decide) ?_
        exact W.iret (v := x_101) hx hb hr (fun t ht hW => ⟨⟨x_101, (), rfl, (by have hw9 := hRw.1; unfold coA; (first | exact Or.inl ⟨by omega, by omega⟩ | exact Or.inr (Or.inl ⟨by omega, by omega⟩) | exact Or.inr (Or.inr (Or.inl ⟨by omega, by omega⟩)) | exact Or.inr (Or.inr (Or.inr (Or.inl ⟨by omega, by omega⟩))) | exact Or.inr (Or.inr (Or.inr (Or.inr (Or.inl ⟨by omega, by omega⟩)))) | exact Or.inr (Or.inr (Or.inr (Or.inr (Or.inr (Or.inl ⟨by omega, by omega⟩))))) | exact Or.inr (Or.inr (Or.inr (Or.inr (Or.inr (Or.inr (Or.inl ⟨by omega, by omega⟩)))))) | exact Or.inr (Or.inr (Or.inr (Or.inr (Or.inr (Or.inr (Or.inr (Or.inl ⟨by omega, by omega⟩))))))) | exact Or.inr (Or.inr (Or.inr (Or.inr (Or.inr (Or.inr (Or.inr (Or.inr (Or.inl ⟨by omega, by omega⟩)))))))) | exact Or.inr (Or.inr (Or.inr (Or.inr (Or.inr (Or.inr (Or.inr (Or.inr (Or.inr (Or.inl ⟨by omega, by omega⟩))))))))) | exact Or.inr (Or.inr (Or.inr (Or.inr (Or.inr (Or.inr (Or.inr (Or.inr (Or.inr (Or.inr (Or.inl ⟨by omega, by omega⟩)))))))))) | exact Or.inr (Or.inr (Or.inr (Or.inr (Or.inr (Or.inr (Or.inr (Or.inr (Or.inr (Or.inr (Or.inr (Or.inl ⟨by omega, by omega, by omega⟩))))))))))) | exact Or.inr (Or.inr (Or.inr (Or.inr (Or.inr (Or.inr (Or.inr (Or.inr (Or.inr (Or.inr (Or.inr (Or.inr (⟨by omega, by omega⟩)))))))))))))), trivial⟩, hS.F ht⟩) hS.2.2 dX10_count_175
  have n_102 := c_ne (a := x1.toInt) (b := 15) rfl (by decide) q_94
  by_cases q_103 : x1 = 16
  · have kq_103 : x1.toInt = 16 := by rw [q_103]; decide
    refine lv_topi (fun y ey => ?_)
    obtain rfl : y = 16 := ey.trans q_103
    refine lv_tableIn (x := 16) (off := 148) (tgt := 149) hx hb dX10_count_1 (by decide) (by decide) (by decide) (by decide) ?_
    refine lv_iload_n hx hb dX10_count_149 rfl (lv_at hl 1 rfl) ?_
    refine lv_bipush (v := 11) hx hb dX10_count_150 (by decide) ?_
    refine lv_icmp_lt (tgt := 173) hx hb dX10_count_152 (by decide) (fun c_104 => ?_) (fun c_104 => ?_)
    · have dc_104 := c_lt (a := x1.toInt) (b := 11) rfl (by decide) c_104
      refine lv_bipush (v := (-9)) hx hb dX10_count_173 (by decide) ?_
      exact W.iret (v := (-9)) hx hb hr (fun t ht hW => ⟨⟨(-9), (), rfl, (by have rc : ((-9) : Int32).toInt = -9 := (by decide); have hw9 := hRw.1; unfold coA; (first | exact Or.inl ⟨by omega, by omega⟩ | exact Or.inr (Or.inl ⟨by omega, by omega⟩) | exact Or.inr (Or.inr (Or.inl ⟨by omega, by omega⟩)) | exact Or.inr (Or.inr (Or.inr (Or.inl ⟨by omega, by omega⟩))) | exact Or.inr (Or.inr (Or.inr (Or.inr (Or.inl ⟨by omega, by omega⟩)))) | exact Or.inr (Or.inr (Or.inr (Or.inr (Or.inr (Or.inl ⟨by omega, by omega⟩))))) | exact Or.inr (Or.inr (Or.inr (Or.inr (Or.inr (Or.inr (Or.inl ⟨by omega, by omega⟩)))))) | exact Or.inr (Or.inr (Or.inr (Or.inr (Or.inr (Or.inr (Or.inr (Or.inl ⟨by omega, by omega⟩))))))) | exact Or.inr (Or.inr (Or.inr (Or.inr (Or.inr (Or.inr (Or.inr (Or.inr (Or.inl ⟨by omega, by omega⟩)))))))) | exact Or.inr (Or.inr (Or.inr (Or.inr (Or.inr (Or.inr (Or.inr (Or.inr (Or.inr (Or.inl ⟨by omega, by omega⟩))))))))) | exact Or.inr (Or.inr (Or.inr (Or.inr (Or.inr (Or.inr (Or.inr (Or.inr (Or.inr (Or.inr (Or.inl ⟨by omega, by omega⟩)))))))))) | exact Or.inr (Or.inr (Or.inr (Or.inr (Or.inr (Or.inr (Or.inr (Or.inr (Or.inr (Or.inr (Or.inr (Or.inl ⟨by omega, by omega, by omega⟩))))))))))) | exact Or.inr (Or.inr (Or.inr (Or.inr (Or.inr (Or.inr (Or.inr (Or.inr (Or.inr (Or.inr (Or.inr (Or.inr (⟨by omega, by omega⟩)))))))))))))), trivial⟩, hS.F ht⟩) hS.2.2 dX10_count_175
    · have dc_104 := c_nlt (a := x1.toInt) (b := 11) rfl (by decide) c_104
      refine lv_iload_n hx hb dX10_count_155 rfl (lv_at hl 1 rfl) ?_
      refine lv_bipush (v := 16) hx hb dX10_count_156 (by decide) ?_
      refine lv_icmp_gt (tgt := 173) hx hb dX10_count_158 (by decide) (fun c_105 => ?_) (fun c_105 => ?_)
      · have dc_105 := c_lt (a := 16) (b := x1.toInt) (by decide) rfl c_105
        refine lv_bipush (v := (-9)) hx hb dX10_count_173 (by decide) ?_
        exact W.iret (v := (-9)) hx hb hr (fun t ht hW => ⟨⟨(-9), (), rfl, (by have rc : ((-9) : Int32).toInt = -9 := (by decide); have hw9 := hRw.1; unfold coA; (first | exact Or.inl ⟨by omega, by omega⟩ | exact Or.inr (Or.inl ⟨by omega, by omega⟩) | exact Or.inr (Or.inr (Or.inl ⟨by omega, by omega⟩)) | exact Or.inr (Or.inr (Or.inr (Or.inl ⟨by omega, by omega⟩))) | exact Or.inr (Or.inr (Or.inr (Or.inr (Or.inl ⟨by omega, by omega⟩)))) | exact Or.inr (Or.inr (Or.inr (Or.inr (Or.inr (Or.inl ⟨by omega, by omega⟩))))) | exact Or.inr (Or.inr (Or.inr (Or.inr (Or.inr (Or.inr (Or.inl ⟨by omega, by omega⟩)))))) | exact Or.inr (Or.inr (Or.inr (Or.inr (Or.inr (Or.inr (Or.inr (Or.inl ⟨by omega, by omega⟩))))))) | exact Or.inr (Or.inr (Or.inr (Or.inr (Or.inr (Or.inr (Or.inr (Or.inr (Or.inl ⟨by omega, by omega⟩)))))))) | exact Or.inr (Or.inr (Or.inr (Or.inr (Or.inr (Or.inr (Or.inr (Or.inr (Or.inr (Or.inl ⟨by omega, by omega⟩))))))))) | exact Or.inr (Or.inr (Or.inr (Or.inr (Or.inr (Or.inr (Or.inr (Or.inr (Or.inr (Or.inr (Or.inl ⟨by omega, by omega⟩)))))))))) | exact Or.inr (Or.inr (Or.inr (Or.inr (Or.inr (Or.inr (Or.inr (Or.inr (Or.inr (Or.inr (Or.inr (Or.inl ⟨by omega, by omega, by omega⟩))))))))))) | exact Or.inr (Or.inr (Or.inr (Or.inr (Or.inr (Or.inr (Or.inr (Or.inr (Or.inr (Or.inr (Or.inr (Or.inr (⟨by omega, by omega⟩)))))))))))))), trivial⟩, hS.F ht⟩) hS.2.2 dX10_count_175
      · have dc_105 := c_nlt (a := 16) (b := x1.toInt) (by decide) rfl c_105
        refine lv_aload_n hx hb dX10_count_161 rfl (lv_at hl 0 rfl) ?_
        obtain ⟨q_106, hq_106⟩ := og (cq := cq) to.1 (oE_10 to.2)
        obtain ⟨b_107, hb_107⟩ := oInv.nn (i := 15) gI to rfl
        refine va_get (D := (dC, dI)) (ci := 10) (v := .ref b_107) (C := RX10) (T := TX10) (N := 16) hx hb hts in_wsX10_count_X10 hown hK hP q_106 hq_106 rfl 15 (by decide) (hts (.fieldLink RX10 66 "ShipOffice" "refusals" "[I") iw_X10_count_11) (fun _ h9 => h9) (o_rd hb_107) dX10_count_162 ?_
        have tb_107 : oty Z b_107 107 := oInv.rd gI to.2 hb_107 rfl rfl
        refine lv_iload_n hx hb dX10_count_165 rfl (lv_at hl 1 rfl) ?_
        refine lv_bipush (v := 10) hx hb dX10_count_166 (by decide) ?_
        refine lv_isub hx hb dX10_count_168 ?_
        refine lv_topi (fun x_108 ex_108 => ?_)
        have hx_108 : x_108.toInt = x1.toInt - 10 := (iv_to ex_108).trans (sb_i rfl (by decide) (by omega) (by omega))
        clear ex_108
        obtain ⟨q_109, hq_109⟩ := og (cq := cq) tb_107.1 (oE_a1 (n := 7) tb_107.2 (by decide))
        refine va_iald hx hb hK hP q_109 0 hq_109 rfl (vp_in_iff.mpr (by omega)) dX10_count_169 ?_
        refine lv_topi (fun x_110 ex_110 => ?_)
        have gx_110 : x_110.toInt = (fa 0 (x1.toInt - 10).toNat).toInt := by rw [iv_to ex_110, ← oQ_e hb_107, hRr (x_108 : Int32).toNatClampNeg (show (x_108 : Int32).toInt.toNat < 7 by omega), show (x_108 : Int32).toNatClampNeg = (x1.toInt - 10).toNat from (show x_108.toInt.toNat = (x1.toInt - 10).toNat by omega)]
        refine lv_goto (tgt := 175) hx hb dX10_count_170 (by decide) ?_
        exact W.iret (v := x_110) hx hb hr (fun t ht hW => ⟨⟨x_110, (), rfl, (by have hw9 := hRw.1; unfold coA; (first | exact Or.inl ⟨by omega, by omega⟩ | exact Or.inr (Or.inl ⟨by omega, by omega⟩) | exact Or.inr (Or.inr (Or.inl ⟨by omega, by omega⟩)) | exact Or.inr (Or.inr (Or.inr (Or.inl ⟨by omega, by omega⟩))) | exact Or.inr (Or.inr (Or.inr (Or.inr (Or.inl ⟨by omega, by omega⟩)))) | exact Or.inr (Or.inr (Or.inr (Or.inr (Or.inr (Or.inl ⟨by omega, by omega⟩))))) | exact Or.inr (Or.inr (Or.inr (Or.inr (Or.inr (Or.inr (Or.inl ⟨by omega, by omega⟩)))))) | exact Or.inr (Or.inr (Or.inr (Or.inr (Or.inr (Or.inr (Or.inr (Or.inl ⟨by omega, by omega⟩))))))) | exact Or.inr (Or.inr (Or.inr (Or.inr (Or.inr (Or.inr (Or.inr (Or.inr (Or.inl ⟨by omega, by omega⟩)))))))) | exact Or.inr (Or.inr (Or.inr (Or.inr (Or.inr (Or.inr (Or.inr (Or.inr (Or.inr (Or.inl ⟨by omega, by omega⟩))))))))) | exact Or.inr (Or.inr (Or.inr (Or.inr (Or.inr (Or.inr (Or.inr (Or.inr (Or.inr (Or.inr (Or.inl ⟨by omega, by omega⟩)))))))))) | exact Or.inr (Or.inr (Or.inr (Or.inr (Or.inr (Or.inr (Or.inr (Or.inr (Or.inr (Or.inr (Or.inr (Or.inl ⟨by omega, by omega, by omega⟩))))))))))) | exact Or.inr (Or.inr (Or.inr (Or.inr (Or.inr (Or.inr (Or.inr (Or.inr (Or.inr (Or.inr (Or.inr (Or.inr (⟨by omega, by omega⟩)))))))))))))), trivial⟩, hS.F ht⟩) hS.2.2 dX10_count_175
  have n_111 := c_ne (a := x1.toInt) (b := 16) rfl (by decide) q_103
  by_cases q_112 : x1 = 17
  · have kq_112 : x1.toInt = 17 := by rw [q_112]; decide
    refine lv_topi (fun y ey => ?_)
    obtain rfl : y = 17 := ey.trans q_112
    refine lv_tableIn (x := 17) (off := 143) (tgt := 144) hx hb dX10_count_1 (by decide) (by decide) (by decide) (by decide) ?_
    refine lv_aload_n hx hb dX10_count_144 rfl (lv_at hl 0 rfl) ?_
    have hFc : ∀ q, va_A [] s.heap.size q → A q := pu_free hS hA
    obtain ⟨q_113, hq_113⟩ := og (cq := cq) to.1 (oE_10 to.2)
    refine va_calli (va_runV (As := []) (rest := []) ⟨hx, hb, hml, hown, hts⟩ (c_X10_menWhoAsk_c l dC dI s.heap.size cq Z gI o to v fa hR hRa) (cwV 0 hts gX10_count_X10_menWhoAsk rfl rfl rfl (by decide +kernel) ⟨(Nat.le_of_ble_eq_true rfl), (Nat.le_of_ble_eq_true rfl)⟩) (pr_V (r := (RX10, TX10, 16)) hP hK hD q_113 10 rfl hq_113) rfl rfl hl.1 rfl (lv_room (Nat.le_of_ble_eq_true rfl)) dX10_count_145 ⟨(Nat.le_of_ble_eq_true rfl), (Nat.le_of_ble_eq_true rfl)⟩) hS (fun q _ h => hFc q h) hFc (fun r_115 u t H locs ht hvm w_114 hB hz1 hk1 hS => ?_)
    have hP := pu_keep hP hk1
    clear hk1 hz1 hvm hB ht hFc
    have hx_116 := w_114
    exact W.iret (v := r_115) hx hb hr (fun t ht hW => ⟨⟨r_115, (), rfl, (by have hc9 := hx_116; unfold coA; (first | exact Or.inl ⟨by omega, by omega⟩ | exact Or.inr (Or.inl ⟨by omega, by omega⟩) | exact Or.inr (Or.inr (Or.inl ⟨by omega, by omega⟩)) | exact Or.inr (Or.inr (Or.inr (Or.inl ⟨by omega, by omega⟩))) | exact Or.inr (Or.inr (Or.inr (Or.inr (Or.inl ⟨by omega, by omega⟩)))) | exact Or.inr (Or.inr (Or.inr (Or.inr (Or.inr (Or.inl ⟨by omega, by omega⟩))))) | exact Or.inr (Or.inr (Or.inr (Or.inr (Or.inr (Or.inr (Or.inl ⟨by omega, by omega⟩)))))) | exact Or.inr (Or.inr (Or.inr (Or.inr (Or.inr (Or.inr (Or.inr (Or.inl ⟨by omega, by omega⟩))))))) | exact Or.inr (Or.inr (Or.inr (Or.inr (Or.inr (Or.inr (Or.inr (Or.inr (Or.inl ⟨by omega, by omega⟩)))))))) | exact Or.inr (Or.inr (Or.inr (Or.inr (Or.inr (Or.inr (Or.inr (Or.inr (Or.inr (Or.inl ⟨by omega, by omega⟩))))))))) | exact Or.inr (Or.inr (Or.inr (Or.inr (Or.inr (Or.inr (Or.inr (Or.inr (Or.inr (Or.inr (Or.inl ⟨by omega, by omega⟩)))))))))) | exact Or.inr (Or.inr (Or.inr (Or.inr (Or.inr (Or.inr (Or.inr (Or.inr (Or.inr (Or.inr (Or.inr (Or.inl ⟨by omega, by omega, by omega⟩))))))))))) | exact Or.inr (Or.inr (Or.inr (Or.inr (Or.inr (Or.inr (Or.inr (Or.inr (Or.inr (Or.inr (Or.inr (Or.inr (⟨by omega, by omega⟩)))))))))))))), trivial⟩, hS.F ht⟩) hS.2.2 dX10_count_148
  have n_117 := c_ne (a := x1.toInt) (b := 17) rfl (by decide) q_112
  refine lv_tableOut (tgt := 149) hx hb dX10_count_1 (by omega) (by decide) ?_
  refine lv_iload_n hx hb dX10_count_149 rfl (lv_at hl 1 rfl) ?_
  refine lv_bipush (v := 11) hx hb dX10_count_150 (by decide) ?_
  refine lv_icmp_lt (tgt := 173) hx hb dX10_count_152 (by decide) (fun c_118 => ?_) (fun c_118 => ?_)
  · have dc_118 := c_lt (a := x1.toInt) (b := 11) rfl (by decide) c_118
    refine lv_bipush (v := (-9)) hx hb dX10_count_173 (by decide) ?_
    exact W.iret (v := (-9)) hx hb hr (fun t ht hW => ⟨⟨(-9), (), rfl, (by have rc : ((-9) : Int32).toInt = -9 := (by decide); have hw9 := hRw.1; unfold coA; (first | exact Or.inl ⟨by omega, by omega⟩ | exact Or.inr (Or.inl ⟨by omega, by omega⟩) | exact Or.inr (Or.inr (Or.inl ⟨by omega, by omega⟩)) | exact Or.inr (Or.inr (Or.inr (Or.inl ⟨by omega, by omega⟩))) | exact Or.inr (Or.inr (Or.inr (Or.inr (Or.inl ⟨by omega, by omega⟩)))) | exact Or.inr (Or.inr (Or.inr (Or.inr (Or.inr (Or.inl ⟨by omega, by omega⟩))))) | exact Or.inr (Or.inr (Or.inr (Or.inr (Or.inr (Or.inr (Or.inl ⟨by omega, by omega⟩)))))) | exact Or.inr (Or.inr (Or.inr (Or.inr (Or.inr (Or.inr (Or.inr (Or.inl ⟨by omega, by omega⟩))))))) | exact Or.inr (Or.inr (Or.inr (Or.inr (Or.inr (Or.inr (Or.inr (Or.inr (Or.inl ⟨by omega, by omega⟩)))))))) | exact Or.inr (Or.inr (Or.inr (Or.inr (Or.inr (Or.inr (Or.inr (Or.inr (Or.inr (Or.inl ⟨by omega, by omega⟩))))))))) | exact Or.inr (Or.inr (Or.inr (Or.inr (Or.inr (Or.inr (Or.inr (Or.inr (Or.inr (Or.inr (Or.inl ⟨by omega, by omega⟩)))))))))) | exact Or.inr (Or.inr (Or.inr (Or.inr (Or.inr (Or.inr (Or.inr (Or.inr (Or.inr (Or.inr (Or.inr (Or.inl ⟨by omega, by omega, by omega⟩))))))))))) | exact Or.inr (Or.inr (Or.inr (Or.inr (Or.inr (Or.inr (Or.inr (Or.inr (Or.inr (Or.inr (Or.inr (Or.inr (⟨by omega, by omega⟩)))))))))))))), trivial⟩, hS.F ht⟩) hS.2.2 dX10_count_175
  · have dc_118 := c_nlt (a := x1.toInt) (b := 11) rfl (by decide) c_118
    refine lv_iload_n hx hb dX10_count_155 rfl (lv_at hl 1 rfl) ?_
    refine lv_bipush (v := 16) hx hb dX10_count_156 (by decide) ?_
    refine lv_icmp_gt (tgt := 173) hx hb dX10_count_158 (by decide) (fun c_119 => ?_) (fun c_119 => ?_)
    · have dc_119 := c_lt (a := 16) (b := x1.toInt) (by decide) rfl c_119
      refine lv_bipush (v := (-9)) hx hb dX10_count_173 (by decide) ?_
      exact W.iret (v := (-9)) hx hb hr (fun t ht hW => ⟨⟨(-9), (), rfl, (by have rc : ((-9) : Int32).toInt = -9 := (by decide); have hw9 := hRw.1; unfold coA; (first | exact Or.inl ⟨by omega, by omega⟩ | exact Or.inr (Or.inl ⟨by omega, by omega⟩) | exact Or.inr (Or.inr (Or.inl ⟨by omega, by omega⟩)) | exact Or.inr (Or.inr (Or.inr (Or.inl ⟨by omega, by omega⟩))) | exact Or.inr (Or.inr (Or.inr (Or.inr (Or.inl ⟨by omega, by omega⟩)))) | exact Or.inr (Or.inr (Or.inr (Or.inr (Or.inr (Or.inl ⟨by omega, by omega⟩))))) | exact Or.inr (Or.inr (Or.inr (Or.inr (Or.inr (Or.inr (Or.inl ⟨by omega, by omega⟩)))))) | exact Or.inr (Or.inr (Or.inr (Or.inr (Or.inr (Or.inr (Or.inr (Or.inl ⟨by omega, by omega⟩))))))) | exact Or.inr (Or.inr (Or.inr (Or.inr (Or.inr (Or.inr (Or.inr (Or.inr (Or.inl ⟨by omega, by omega⟩)))))))) | exact Or.inr (Or.inr (Or.inr (Or.inr (Or.inr (Or.inr (Or.inr (Or.inr (Or.inr (Or.inl ⟨by omega, by omega⟩))))))))) | exact Or.inr (Or.inr (Or.inr (Or.inr (Or.inr (Or.inr (Or.inr (Or.inr (Or.inr (Or.inr (Or.inl ⟨by omega, by omega⟩)))))))))) | exact Or.inr (Or.inr (Or.inr (Or.inr (Or.inr (Or.inr (Or.inr (Or.inr (Or.inr (Or.inr (Or.inr (Or.inl ⟨by omega, by omega, by omega⟩))))))))))) | exact Or.inr (Or.inr (Or.inr (Or.inr (Or.inr (Or.inr (Or.inr (Or.inr (Or.inr (Or.inr (Or.inr (Or.inr (⟨by omega, by omega⟩)))))))))))))), trivial⟩, hS.F ht⟩) hS.2.2 dX10_count_175
    · have dc_119 := c_nlt (a := 16) (b := x1.toInt) (by decide) rfl c_119
      refine lv_aload_n hx hb dX10_count_161 rfl (lv_at hl 0 rfl) ?_
      obtain ⟨q_120, hq_120⟩ := og (cq := cq) to.1 (oE_10 to.2)
      obtain ⟨b_121, hb_121⟩ := oInv.nn (i := 15) gI to rfl
      refine va_get (D := (dC, dI)) (ci := 10) (v := .ref b_121) (C := RX10) (T := TX10) (N := 16) hx hb hts in_wsX10_count_X10 hown hK hP q_120 hq_120 rfl 15 (by decide) (hts (.fieldLink RX10 66 "ShipOffice" "refusals" "[I") iw_X10_count_11) (fun _ h9 => h9) (o_rd hb_121) dX10_count_162 ?_
      have tb_121 : oty Z b_121 107 := oInv.rd gI to.2 hb_121 rfl rfl
      refine lv_iload_n hx hb dX10_count_165 rfl (lv_at hl 1 rfl) ?_
      refine lv_bipush (v := 10) hx hb dX10_count_166 (by decide) ?_
      refine lv_isub hx hb dX10_count_168 ?_
      refine lv_topi (fun x_122 ex_122 => ?_)
      have hx_122 : x_122.toInt = x1.toInt - 10 := (iv_to ex_122).trans (sb_i rfl (by decide) (by omega) (by omega))
      clear ex_122
      obtain ⟨q_123, hq_123⟩ := og (cq := cq) tb_121.1 (oE_a1 (n := 7) tb_121.2 (by decide))
      refine va_iald hx hb hK hP q_123 0 hq_123 rfl (vp_in_iff.mpr (by omega)) dX10_count_169 ?_
      refine lv_topi (fun x_124 ex_124 => ?_)
      have gx_124 : x_124.toInt = (fa 0 (x1.toInt - 10).toNat).toInt := by rw [iv_to ex_124, ← oQ_e hb_121, hRr (x_122 : Int32).toNatClampNeg (show (x_122 : Int32).toInt.toNat < 7 by omega), show (x_122 : Int32).toNatClampNeg = (x1.toInt - 10).toNat from (show x_122.toInt.toNat = (x1.toInt - 10).toNat by omega)]
      refine lv_goto (tgt := 175) hx hb dX10_count_170 (by decide) ?_
      exact W.iret (v := x_124) hx hb hr (fun t ht hW => ⟨⟨x_124, (), rfl, (by have hw9 := hRw.1; unfold coA; (first | exact Or.inl ⟨by omega, by omega⟩ | exact Or.inr (Or.inl ⟨by omega, by omega⟩) | exact Or.inr (Or.inr (Or.inl ⟨by omega, by omega⟩)) | exact Or.inr (Or.inr (Or.inr (Or.inl ⟨by omega, by omega⟩))) | exact Or.inr (Or.inr (Or.inr (Or.inr (Or.inl ⟨by omega, by omega⟩)))) | exact Or.inr (Or.inr (Or.inr (Or.inr (Or.inr (Or.inl ⟨by omega, by omega⟩))))) | exact Or.inr (Or.inr (Or.inr (Or.inr (Or.inr (Or.inr (Or.inl ⟨by omega, by omega⟩)))))) | exact Or.inr (Or.inr (Or.inr (Or.inr (Or.inr (Or.inr (Or.inr (Or.inl ⟨by omega, by omega⟩))))))) | exact Or.inr (Or.inr (Or.inr (Or.inr (Or.inr (Or.inr (Or.inr (Or.inr (Or.inl ⟨by omega, by omega⟩)))))))) | exact Or.inr (Or.inr (Or.inr (Or.inr (Or.inr (Or.inr (Or.inr (Or.inr (Or.inr (Or.inl ⟨by omega, by omega⟩))))))))) | exact Or.inr (Or.inr (Or.inr (Or.inr (Or.inr (Or.inr (Or.inr (Or.inr (Or.inr (Or.inr (Or.inl ⟨by omega, by omega⟩)))))))))) | exact Or.inr (Or.inr (Or.inr (Or.inr (Or.inr (Or.inr (Or.inr (Or.inr (Or.inr (Or.inr (Or.inr (Or.inl ⟨by omega, by omega, by omega⟩))))))))))) | exact Or.inr (Or.inr (Or.inr (Or.inr (Or.inr (Or.inr (Or.inr (Or.inr (Or.inr (Or.inr (Or.inr (Or.inr (⟨by omega, by omega⟩)))))))))))))), trivial⟩, hS.F ht⟩) hS.2.2 dX10_count_175
