


def lO (R : Nat → Int32) : Nat → Int32 := fun i => if i = 0 then R 119 else if i = 1 then R 114 else if i = 2 then R 97 else if i = 3 then R 100 else if i = 4 then R 110 else if i = 5 then R 115 else if i = 6 then R 108 else if i = 7 then R 120 else 0
theorem eqO_l {R : Nat → Int32} : eqO (lO R) R := ⟨rfl, rfl, rfl, rfl, rfl, rfl, rfl, rfl⟩
theorem exE_c {L L' : Nat → Int32} : ∀ (E : List Int32) (st : List Int32), (∀ c, c ∈ E → ¬ c ≤ -11 → 0 ≤ (-1 - c).toInt ∧ (-1 - c).toInt < 8 → L (-1 - c).toNatClampNeg = L' (-1 - c).toNatClampNeg) → exE L E st = exE L' E st := by
  intro E
  induction E with
  | nil => intro st _; show st = st; rfl
  | cons c E ih =>
    intro st h
    show exE L E (exS L st c) = exE L' E (exS L' st c)
    have e : exS L st c = exS L' st c := by
      unfold exS
      by_cases q : c ≤ -11
      · rw [if_pos q, if_pos q]
      · rw [if_neg q, if_neg q]
        unfold vlO
        by_cases q2 : 0 ≤ (-1 - c).toInt ∧ (-1 - c).toInt < 8
        · rw [if_pos q2, if_pos q2, h c List.mem_cons_self q q2]
        · rw [if_neg q2, if_neg q2]
    rw [e]
    exact ih _ (fun c2 h2 => h c2 (List.mem_cons_of_mem _ h2))
/-- a letter that a code doesn't use may be anything -/
theorem wf_L {f0 : Nat → Int32} {E : List Int32} {w r y d n s l x d1 n1 : Int32} (h3 : d1 = d ∨ ∀ c, c ∈ E → ¬ c.toInt = -1 - (3 : Int32).toInt) (h4 : n1 = n ∨ ∀ c, c ∈ E → ¬ c.toInt = -1 - (4 : Int32).toInt) : exE (upd (upd (upd (upd (upd (upd (upd (upd f0 0 w) 1 r) 2 y) 3 d1) 4 n1) 5 s) 6 l) 7 x) E [] = exE (lO (ltP w r y d n s l x)) E [] := by
  refine exE_c E [] (fun c hc hn hb => ?_)
  have k11 : (-11 : Int32).toInt = -11 := by decide
  have k3 : (3 : Int32).toInt = 3 := by decide
  have k4 : (4 : Int32).toInt = 4 := by decide
  have c1 : -11 < c.toInt := by
    have q : ¬ c.toInt ≤ (-11 : Int32).toInt := fun q => hn (Int32.le_iff_toInt_le.mpr q)
    omega
  have ci := (iv_all c).2
  have es : (-1 - c).toInt = -1 - c.toInt := sb_i (by decide) rfl (by omega) (by omega)
  have en : (-1 - c).toNatClampNeg = (-1 - c).toInt.toNat := rfl
  have h8 : (-1 - c).toNatClampNeg = 0 ∨ (-1 - c).toNatClampNeg = 1 ∨ (-1 - c).toNatClampNeg = 2 ∨ (-1 - c).toNatClampNeg = 3 ∨ (-1 - c).toNatClampNeg = 4 ∨ (-1 - c).toNatClampNeg = 5 ∨ (-1 - c).toNatClampNeg = 6 ∨ (-1 - c).toNatClampNeg = 7 := by omega
  rcases h8 with e | e | e | e | e | e | e | e <;> rw [e]
  · rfl
  · rfl
  · rfl
  · rcases h3 with h | h
    · subst h; rfl
    · exact absurd (by omega) (h c hc)
  · rcases h4 with h | h
    · subst h; rfl
    · exact absurd (by omega) (h c hc)
  · rfl
  · rfl
  · rfl
theorem isE_m {S : oS} {cd : Nat} {E : List Int32} (h : isE S cd E) {P : Int32 → Prop} (hp : ∀ j, j < E.length → P (oI S cd j)) : ∀ c, c ∈ E → P c := fun c hc => by
  obtain ⟨j, hj⟩ := List.getElem?_of_mem hc
  have hl := (List.getElem?_eq_some_iff.mp hj).1
  have e := h j hl
  rw [hj] at e
  rw [Option.some.inj e]
  exact hp j hl
theorem i32_i {n : Int} (h1 : -2147483648 ≤ n) (h2 : n ≤ 2147483647) : (Int32.ofInt n).toInt = n := by
  have hz : ((Int32.size : Nat) : Int) = 4294967296 := rfl
  rw [Int32.toInt_ofInt]
  exact Int.bmod_eq_of_le (by omega) (by omega)
theorem ok_P {w r y d n s l x : Int32} (h1 : -1000000000 ≤ w.toInt ∧ w.toInt ≤ 1000000000) (h2 : -1000000000 ≤ r.toInt ∧ r.toInt ≤ 1000000000) (h3 : -1000000000 ≤ y.toInt ∧ y.toInt ≤ 1000000000) (h4 : -1000000000 ≤ d.toInt ∧ d.toInt ≤ 1000000000) (h5 : -1000000000 ≤ n.toInt ∧ n.toInt ≤ 1000000000) (h6 : -1000000000 ≤ s.toInt ∧ s.toInt ≤ 1000000000) (h7 : -1000000000 ≤ l.toInt ∧ l.toInt ≤ 1000000000) (h8 : -1000000000 ≤ x.toInt ∧ x.toInt ≤ 1000000000) : okL (ltP w r y d n s l x) := fun c hc => by
  rcases hc with rfl | rfl | rfl | rfl | rfl | rfl | rfl | rfl
  · exact h1
  · exact h2
  · exact h3
  · exact h4
  · exact h5
  · exact h6
  · exact h7
  · exact h8
theorem dv_b {x b : Int32} (h1 : -33000 ≤ x.toInt ∧ x.toInt ≤ 33000) (e : b = x / 365) : -1000000000 ≤ b.toInt ∧ b.toInt ≤ 1000000000 := by
  have k : (365 : Int32).toInt = 365 := by decide
  have hb : (x / 365).toInt = x.toInt.tdiv 365 := by
    rw [Int32.toInt_div_of_ne_right _ _ (by decide), k]
  have q : -33000 ≤ x.toInt.tdiv 365 ∧ x.toInt.tdiv 365 ≤ 33000 := by
    rcases Int.le_total 0 x.toInt with p | p
    · have := Int.tdiv_eq_ediv_of_nonneg (a := x.toInt) (b := 365) p
      omega
    · have := Int.neg_tdiv (a := -x.toInt) (b := 365)
      have g := Int.tdiv_eq_ediv_of_nonneg (a := -x.toInt) (b := 365) (by omega)
      rw [Int.neg_neg] at this
      omega
  rw [e, hb]
  omega
theorem ok_lP {v : Nat → Int32} {fa : Nat → Nat → Int32} {S : oS} {o a : Nat} {d s x : Int32} {k : Int} (hR : RC S o v fa) (ha : a < (v 43).toNatClampNeg) (hd : 0 ≤ d.toInt ∧ d.toInt ≤ 3000) (hs : -1000000000 ≤ s.toInt ∧ s.toInt ≤ 1000000000) (hx : -1000000000 ≤ x.toInt ∧ x.toInt ≤ 1000000000) : okL (lP v fa a d k s x) := by
  obtain ⟨m1, m2, -⟩ := (RC.a hR ha).1
  have p := (RC.p hR).2.1 a ha
  have pm := (RC.p hR).1 (fa 20 a).toNatClampNeg (ni_lt m1 m2)
  have bn : 0 ≤ (v 38).toInt ∧ (v 38).toInt ≤ 3000 := (RC.V hR) 38
  have bs : 0 ≤ (fa 25 a).toInt ∧ (fa 25 a).toInt ≤ 3000 := (RC.A hR) 25 a
  have d1 := cD_b (g := abG v fa a k) (lo := (fa 25 a).toInt) (n := (d.toInt + 1 - (fa 25 a).toInt).toNat) (fun t => abG_b)
  have d2 := abF_b (v := v) (fa := fa) (x := (fa 21 a).toInt) (d := d.toInt) (k := k) (RC.V hR)
  have d3 := lhO_b (v := v) (fa := fa) (e := (fa 21 a).toInt) (d := d.toInt) (k := k) (RC.A hR)
  have e1 : (d - fa 4 (fa 20 a).toNatClampNeg).toInt = d.toInt - (fa 4 (fa 20 a).toNatClampNeg).toInt := sb_i rfl rfl (by omega) (by omega)
  have u1 : 0 ≤ dnF v fa a d.toInt k ∧ dnF v fa a d.toInt k ≤ 3001 := by
    unfold dnF
    omega
  have u2 : 0 ≤ ulF v fa (fa 21 a).toInt d.toInt k ∧ ulF v fa (fa 21 a).toInt d.toInt k ≤ 3000 := by
    unfold ulF
    split <;> omega
  have w1 := i32_i (n := dnF v fa a d.toInt k) (by omega) (by omega)
  have w2 := i32_i (n := abF v fa (fa 21 a).toInt d.toInt k) (by omega) (by omega)
  have w3 := i32_i (n := ulF v fa (fa 21 a).toInt d.toInt k) (by omega) (by omega)
  exact ok_P (by omega) (by omega) (dv_b (x := d - fa 4 (fa 20 a).toNatClampNeg) (by omega) rfl) (by omega) (by omega) hs (by omega) hx
set_option maxHeartbeats 4000000 in
set_option maxRecDepth 100000 in
theorem c_X0_uses_c (l : Launch) (dC : Nat → ClassId) (dI : Nat → Nat → Nat) (sz : Nat) (cq : Nat → ClassId) (Z : oS) (gI : oInv Z) (o : Nat) (to : oty Z o 0) (x1 : Int32) (hx1 : 0 ≤ x1.toInt ∧ x1.toInt ≤ 7) (cd nE : Nat) (hcd : oP Z o 3 = some cd) (hn : nE ≤ 60) (tcd : oty Z cd (300 + nE)) (E : List Int32) (hEn : E.length = nE) (hE : isE Z cd E) : Met l yX0_uses wsX0_uses ({ frames := 0, cells := 0, slots := 0, locals := 0 }) (va_Pc [.ref o, .int x1] (pcW (dC, dI) (oT cq) (oW cq Z) sz)) (va_Qi (fun (r : Int32) (u : Unit) => (0 ≤ r.toInt ∧ r.toInt ≤ 1) ∧ (r.toInt = 0 → ∀ c, c ∈ E → ¬ c.toInt = -1 - x1.toInt)) (fun _ _ => True) (va_A [] sz)) 0 0 (va_A [] sz) := by
  refine Met.ofW (cc := cX0_uses) (maxL := 6) (ret := (some .boolean)) (by decide) rfl ?_
  intro p e s m args below meth c s₁ B hml hv
  obtain ⟨rfl, hsz, hP, hK, hD0⟩ := hv
  have hx := B.exec
  have hb := B.bytes
  have hr := B.returns
  have hts := atoms_spec (ws := wsX0_uses) B.pre
  have hown : s.vm.findClass RX0 = some m.cls := findClass_of_methodNamed B.named
  have hlocks := B.notSynchronized
  subst hsz
  have hD := hD0
  generalize hAe : va_A [] s.heap.size = A at ⊢
  have hA : ∀ q : Nat, s.heap.size ≤ q → A q := fun q h => by rw [← hAe]; exact Or.inr h
  have hS : va_S A s.heap s.heap [] := va_S.rf
  have hP : va_P (dC, dI) vwCl (oW cq Z) s.heap := hP
  have hl := lv_entry ([.ref o, .int x1]) (n := 6) (Nat.le_of_ble_eq_true rfl)
  rw [lg_entry_eq]
  generalize (lg_sl ([.ref o, .int x1]) ++ List.replicate (6 - (lg_sl ([.ref o, .int x1])).length) Slot.unset).toArray = ls at hl ⊢
  have hl : lv_has ls 6 [(0, .ref o), (1, .int x1)] := hl
  refine lv_aload_n hx hb dX0_uses_0 rfl (lv_at hl 0 rfl) ?_
  obtain ⟨q_1, hq_1⟩ := og (cq := cq) to.1 (oE_0 to.2)
  refine va_get (D := (dC, dI)) (ci := 0) (v := .ref cd) (C := RX0) (T := TX0) (N := 5) hx hb hts in_wsX0_uses_X0 hown hK hP q_1 hq_1 rfl 3 (by decide) (hts (.fieldLink RX0 16 "ShipOffice$Act" "code" "[I") iw_X0_uses_1) (fun _ h9 => h9) (o_rd hcd) dX0_uses_1 ?_
  refine lv_astore_n (lv' := [(2, .ref cd), (0, .ref o), (1, .int x1)]) hx hb dX0_uses_4 rfl hl (by decide) rfl (fun ls hl => ?_)
  refine lv_aload_n hx hb dX0_uses_5 rfl (lv_at hl 0 rfl) ?_
  obtain ⟨q_2, hq_2⟩ := og (cq := cq) tcd.1 (oE_ar (n := nE) tcd.2 (by omega))
  refine va_alen (v := nI nE) hx hb hK hP q_2 0 hq_2 rfl rfl dX0_uses_6 ?_
  refine lv_topi (fun x_3 ex_3 => ?_)
  have hx_3 : x_3.toInt = (nE : Int) := (iv_to ex_3).trans (nI_toInt (by omega))
  clear ex_3
  refine lv_istore_n (lv' := [(3, .int x_3), (2, .ref cd), (0, .ref o), (1, .int x1)]) hx hb dX0_uses_7 rfl hl (by decide) rfl (fun ls hl => ?_)
  refine lv_iconst (v := 0) hx hb dX0_uses_8 (by decide) ?_
  refine lv_istore (lv' := [(4, .int 0), (3, .int x_3), (2, .ref cd), (0, .ref o), (1, .int x1)]) hx hb dX0_uses_9 hl (by decide) rfl (fun ls hl => ?_)
  have cut_4 : ∀ (n : Nat) (y_5 : Int32) (H : Heap) (locs : List Loc) (ls : Array Slot), 60 - y_5.toInt ≤ (n : Int) → (0 ≤ y_5.toInt ∧ y_5.toInt ≤ 60) → (∀ j, j < y_5.toNatClampNeg → ¬ (oI Z cd j).toInt = -1 - x1.toInt) → va_P (dC, dI) vwCl (oW cq Z) H → va_S A s.heap H locs → lv_has ls 6 [(4, .int y_5), (3, .int x_3), (2, .ref cd), (0, .ref o), (1, .int x1)] → W p l e (headSpec wsX0_uses { frames := 0, cells := 0, slots := 0, locals := 0 }).room s m #[Value.ref o, Value.int x1] below meth c H locs 0 0 (MQ below (va_Qi (fun (r : Int32) (u : Unit) => (0 ≤ r.toInt ∧ r.toInt ≤ 1) ∧ (r.toInt = 0 → ∀ c, c ∈ E → ¬ c.toInt = -1 - x1.toInt)) (fun _ _ => True) A) #[Value.ref o, Value.int x1] s 0 0 A) (F0 m 11 ls []) := by
    intro n
    induction n using Nat.strongRecOn with
    | ind n ih =>
      intro y_5 H locs ls hm hy_5 hq0_cut_4 hP hS hl
      refine lv_iload hx hb dX0_uses_11 (lv_at hl 0 rfl) ?_
      refine lv_iload_n hx hb dX0_uses_13 rfl (lv_at hl 1 rfl) ?_
      refine lv_icmp_ge (tgt := 39) hx hb dX0_uses_14 (by decide) (fun c_6 => ?_) (fun c_6 => ?_)
      · have dc_6 := c_le (a := x_3.toInt) (b := y_5.toInt) rfl rfl c_6
        refine lv_iconst (v := 0) hx hb dX0_uses_39 (by decide) ?_
        exact W.zret (v := 0) hx hb hr rfl (fun t ht hW => ⟨⟨0, (), rfl, ⟨(by decide), (fun _ => isE_m hE (fun j hj => hq0_cut_4 j (by have e9 : y_5.toNatClampNeg = y_5.toInt.toNat := rfl; omega)))⟩, trivial⟩, hS.F ht⟩) hS.2.2 dX0_uses_40
      · have dc_6 := c_nle (a := x_3.toInt) (b := y_5.toInt) rfl rfl c_6
        refine lv_aload_n hx hb dX0_uses_17 rfl (lv_at hl 2 rfl) ?_
        refine lv_iload hx hb dX0_uses_18 (lv_at hl 0 rfl) ?_
        obtain ⟨q_7, hq_7⟩ := og (cq := cq) tcd.1 (oE_ar (n := nE) tcd.2 (by omega))
        refine va_iald hx hb hK hP q_7 0 hq_7 rfl (vp_in_iff.mpr (by omega)) dX0_uses_20 ?_
        refine lv_topi (fun x_8 ex_8 => ?_)
        have gx_8 : x_8.toInt = (oI Z cd y_5.toNatClampNeg).toInt := iv_to ex_8
        refine lv_istore (lv' := [(5, .int x_8), (4, .int y_5), (3, .int x_3), (2, .ref cd), (0, .ref o), (1, .int x1)]) hx hb dX0_uses_21 hl (by decide) rfl (fun ls hl => ?_)
        refine lv_iload hx hb dX0_uses_23 (lv_at hl 0 rfl) ?_
        refine lv_iconst (v := (-1)) hx hb dX0_uses_25 (by decide) ?_
        refine lv_iload_n hx hb dX0_uses_26 rfl (lv_at hl 5 rfl) ?_
        refine lv_isub hx hb dX0_uses_27 ?_
        refine lv_topi (fun x_9 ex_9 => ?_)
        have hx_9 : x_9.toInt = (-1) - x1.toInt := (iv_to ex_9).trans (sb_i (by decide) rfl (by omega) (by omega))
        clear ex_9
        refine lv_icmp_ne (tgt := 33) hx hb dX0_uses_28 (by decide) (fun c_10 => ?_) (fun c_10 => ?_)
        · have dc_10 := c_ne (a := x_8.toInt) (b := x_9.toInt) rfl rfl c_10
          obtain ⟨x_11, ex_11⟩ : ∃ zq : Int32, y_5 + 1 = zq := ⟨_, rfl⟩
          have hx_11 : x_11.toInt = y_5.toInt + 1 := (iv_to ex_11).symm.trans (ad_i rfl (by decide) (by omega) (by omega))
          refine lv_iinc (v := x_11) (lv' := [(4, .int x_11), (5, .int x_8), (3, .int x_3), (2, .ref cd), (0, .ref o), (1, .int x1)]) hx hb dX0_uses_33 hl (k := 1) rfl ex_11 (by decide) rfl (fun ls hl => ?_)
          clear ex_11
          refine lv_goto (tgt := 11) hx hb dX0_uses_36 (by decide) ?_
          exact ih (n - 1) (by omega) x_11 _ _ ls (by omega) (by omega) (al_s hq0_cut_4 (fun q => by omega) (by omega) (by omega)) hP hS (lv_sub hl [0, 2, 3, 4, 5] rfl)
        · have dc_10 := c_eq (a := x_8.toInt) (b := x_9.toInt) rfl rfl c_10
          refine lv_iconst (v := 1) hx hb dX0_uses_31 (by decide) ?_
          exact W.zret (v := 1) hx hb hr rfl (fun t ht hW => ⟨⟨1, (), rfl, ⟨(by decide), (fun h => absurd h (by decide))⟩, trivial⟩, hS.F ht⟩) hS.2.2 dX0_uses_32
  have kc_12 : (0 : Int32).toInt = 0 := by decide
  exact cut_4 61 0 _ _ ls (by omega) (by decide) (al_0 (by decide)) hP hS (lv_sub hl [0, 1, 2, 3, 4] rfl)
