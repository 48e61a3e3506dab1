

/-- the offers of the office -/
def hoS (S : oS) (of9 : Nat) : Nat → Nat := fun j => (oI S of9 j).toNatClampNeg
def up1 (s : Nat → Nat) (k m : Nat) : Nat → Nat := fun j => if j = k then m else s j
section
variable {v : Nat → Int32} {fa : Nat → Nat → Int32} {S u : oS} {hi of9 br b n k i i1 : Nat} {w r r1 : Int}
theorem rAs_f {W : List Nat} {Z : oS} {o : Nat} (hX : oX W Z S) (hI : oInv Z) (to : oty Z o 10) (hk : ∀ x ∈ [1001, 2014, 604, 2104], x ∉ W) (h : rAs Z o v fa) : rAs S o v fa := ⟨lwA_o hI to hX (hk 1001 (by decide)) (hk 2014 (by decide)) (hk 604 (by decide)) (hk 2104 (by decide)) h.1, h.2⟩
theorem crW_b (h : asB fa) (s : Nat → Nat) : ∀ k r, 0 ≤ crW fa s k r ∧ crW fa s k r ≤ 9999 := fun k r => h _
/-- one offer more -/
theorem cw_of (hS : SPi v fa (hoS S of9) (oI S hi 2).toInt i) (hN : ∀ j : Nat, (j : Int) < (oI S hi 2).toInt → 0 ≤ (oI S of9 j).toInt) (hM : ∀ c, c < 81 → Mn (Way n (crW fa (hoS S of9)) (oI S hi 2).toNatClampNeg c) (oJ S br c).toInt) (hc : cnd v fa i) (hk : ((k : Nat) : Int) = (oI S hi 2).toInt) (hb0 : (oI S b 0).toInt = (i : Int)) (hp : (k = 12 ∧ u = S) ∨ (k < 12 ∧ (oI u hi 2).toInt = (k : Int) + 1 ∧ (∀ c, c < 81 → Mn (Way n (crW fa (up1 (hoS S of9) k i)) (k + 1) c) (oJ u br c).toInt) ∧ oI u of9 = upd (oI S of9) k (oI S b 0))) (ei : i1 = i + 1) : SPi v fa (hoS u of9) (oI u hi 2).toInt i1 ∧ (∀ j : Nat, (j : Int) < (oI u hi 2).toInt → 0 ≤ (oI u of9 j).toInt) ∧ ∀ c, c < 81 → Mn (Way n (crW fa (hoS u of9)) (oI u hi 2).toNatClampNeg c) (oJ u br c).toInt := by
  rcases hp with ⟨h1, h2⟩ | ⟨h1, h2, h3, h4⟩
  · rw [h2]
    exact ⟨SPi_12 hS (by omega) ei, hN, hM⟩
  · have es : ∀ j : Nat, hoS u of9 j = if j = k then i else hoS S of9 j := fun j => by
      unfold hoS
      rw [h4]
      by_cases c : j = k
      · rw [if_pos c, c, upd_eq]
        show (oI S b 0).toInt.toNat = i
        omega
      · rw [if_neg c, upd_ne c]
    refine ⟨SPi_y hS hc (by omega) (by omega) (fun j => ?_) ei, fun j hj => ?_, fun c hc2 => ?_⟩
    · rw [es j]
      by_cases c : j = k
      · rw [if_pos c, if_pos (by omega)]
      · rw [if_neg c, if_neg (by omega)]
    · rw [h4]
      by_cases c : j = k
      · rw [c, upd_eq]
        omega
      · rw [upd_ne c]
        exact hN j (by omega)
    · have ek : (oI u hi 2).toNatClampNeg = k + 1 := (show (oI u hi 2).toInt.toNat = k + 1 by omega)
      rw [ek]
      refine Mn_c (fun j hj => ?_) (h3 c hc2)
      unfold crW
      rw [es j]
      rfl
/-- CREW, where it isn't refused, of the office -/
def crG (v : Nat → Int32) (fa : Nat → Nat → Int32) (n : Nat) (w r : Int) : Prop := ∃ s M B, SP v fa s M ∧ Mn (Way n (crW fa s) M n) B ∧ ((w = 0 ∧ ((B = 1152921504606846976 ∧ r = -9) ∨ (B ≠ 1152921504606846976 ∧ r = B / 4294967296))) ∨ (1 ≤ w ∧ (((B = 1152921504606846976 ∨ (hnd n : Int) ≤ w - 1) ∧ r = -9) ∨ (B ≠ 1152921504606846976 ∧ w - 1 < (hnd n : Int) ∧ ((B / 16 ^ (7 - (w - 1).toNat) % 16 < 12 ∧ ((B / 16 ^ (7 - (w - 1).toNat) % 16).toNat < M → r = (s (B / 16 ^ (7 - (w - 1).toNat) % 16).toNat : Int))) ∨ (12 ≤ B / 16 ^ (7 - (w - 1).toNat) % 16 ∧ r = -9))))))
theorem cw_eq (hA : asB fa) (hn : n < 81) (h : crF v fa n w r) (g : crG v fa n w r1) : r = r1 := by
  obtain ⟨s, M, L, b, sp, rs, h⟩ := h
  obtain ⟨s2, M2, B, sp2, mn, g⟩ := g
  obtain ⟨eM, es⟩ := SP_u sp sp2
  subst eM
  have mn2 : Mn (Way n (crW fa s) M n) B := Mn_c (fun j hj => by unfold crW; rw [es j hj]) mn
  rcases cw_one hn sp.2.1 rs mn2 with ⟨l1, l2⟩ | ⟨l1, l2, l3, l4⟩
  · rcases h with ⟨h1, h2⟩ | ⟨h1, h2, h3⟩ | ⟨h1, h2, h3, h4⟩
    · rcases g with ⟨-, g | g⟩ | ⟨g, -⟩
      · omega
      · exact absurd l2 g.1
      · omega
    · rcases g with ⟨g, -⟩ | ⟨-, g | g⟩
      · omega
      · omega
      · exact absurd l2 g.1
    · omega
  · have h16 := PR_16 sp.2.1 l2
    have h8 := hnd_8 (n := n)
    have hs := hi_s h8 h16 l4
    have hb := sw_b (n := n) (W := crW fa s) (t := b) (h := hnd n) (fun p hp => ⟨(l2.1 p hp).2, (crW_b hA s _ _).2⟩)
    have nB : B ≠ 1152921504606846976 := fun q => by
      rw [q] at hs
      have e : (1152921504606846976 : Int) / 4294967296 = 268435456 := by decide
      omega
    rcases h with ⟨h1, h2⟩ | ⟨h1, h2, h3⟩ | ⟨h1, h2, h3, h4⟩
    · rcases g with ⟨-, g | g⟩ | ⟨g, -⟩
      · exact absurd g.1 nB
      · rw [h2, g.2, hs]
      · omega
    · rcases g with ⟨g, -⟩ | ⟨-, g | g⟩
      · omega
      · omega
      · omega
    · rcases g with ⟨g, -⟩ | ⟨-, g | g⟩
      · omega
      · rcases g with ⟨g | g, -⟩
        · exact absurd g nB
        · omega
      · obtain ⟨g1, g2, g3⟩ := g
        have nb := nib (p := (w - 1).toNat) (show (w - 1).toNat < hnd n by omega) h8 h16 l4
        have bM := (l2.1 (w - 1).toNat (by omega)).1
        have sM := sp.2.1
        rw [nb] at g3
        rcases g3 with ⟨g3, g4⟩ | ⟨g3, -⟩
        · rw [h4, g4 (by omega), show ((b (w - 1).toNat : Int)).toNat = b (w - 1).toNat by omega, es _ bM]
        · omega
theorem cw_er {x y r r1 : Int32} (hA : asB fa) (hp : crA x.toInt y.toInt r.toInt ∧ (¬ crB x.toInt y.toInt → crG v fa x.toNatClampNeg y.toInt r.toInt)) (hq : crA x.toInt y.toInt r1.toInt ∧ (¬ crB x.toInt y.toInt → crF v fa x.toNatClampNeg y.toInt r1.toInt)) : r.toInt = r1.toInt := by
  by_cases c : crB x.toInt y.toInt
  · obtain ⟨p1, -⟩ := hp
    obtain ⟨q1, -⟩ := hq
    unfold crB at c
    unfold crA at p1 q1
    omega
  · have a := hp.2 c
    have b := hq.2 c
    unfold crB at c
    exact (cw_eq hA (show x.toInt.toNat < 81 by omega) b a).symm
end
set_option maxHeartbeats 4000000 in
set_option maxRecDepth 100000 in
theorem c_X10_crew_w (l : Launch) (dC : Nat → ClassId) (dI : Nat → Nat → Nat) (sz : Nat) (tL tS tG : Nat) (cq : Nat → ClassId) (Z : oS) (gI : oInv Z) (o : Nat) (to : oty Z o 10) (x1 : Int32) (x2 : Int32) (v : Nat → Int32) (fa : Nat → Nat → Int32) (hR : RC Z o v fa) (hRa : rAs Z o v fa) : Met l yX10_crew wsX10_crew ({ frames := 3, cells := 0, slots := 0, locals := 72 }) (va_Pc [.ref o, .int x1, .int x2] (pcO (dC, dI) (oT cq) (oW cq Z) sz tL tS tG (oW cq Z))) (va_Qi (fun (r : Int32) (u : oS) => oInv u ∧ oX [402, 404, 405, 2018, 2061, 2062, 2107] Z u ∧ ((crA x1.toInt x2.toInt r.toInt ∧ (¬ crB x1.toInt x2.toInt → crG v fa x1.toNatClampNeg x2.toInt r.toInt)) ∧ rZo Z o u r (crB x1.toInt x2.toInt))) (fun u t => va_P (dC, dI) vwCl (oW cq u) t.heap ∧ va_K (dC, dI) vwCl (oT cq) t ∧ va_D (va_A (oW cq Z) sz) (oW cq u)) (va_A (oW cq Z) sz)) 0 0 (va_A (oW cq Z) sz) := by
  refine Met.ofW (cc := cX10_crew) (maxL := 4) (ret := (some .int)) (by decide) rfl ?_
  intro p e s m args below meth c s₁ B hml hv
  obtain ⟨rfl, ⟨hsz, hP, hK, hD0⟩, hZ⟩ := hv
  have hx := B.exec
  have hb := B.bytes
  have hr := B.returns
  have hts := atoms_spec (ws := wsX10_crew) B.pre
  have hown : s.vm.findClass RX10 = some m.cls := findClass_of_methodNamed B.named
  have hlocks := B.notSynchronized
  subst hsz
  have hD := hD0.self (sz := s.heap.size)
  generalize hAe : va_A (oW cq Z) s.heap.size = A at hD hZ ⊢
  have hA : ∀ q : Nat, s.heap.size ≤ q → A q := fun q h => by rw [← hAe]; exact Or.inr h
  have hS : va_S A s.heap s.heap [] := va_S.rf
  have hP : va_P (dC, dI) vwCl (oW cq Z) s.heap := hP
  have hl := lv_entry ([.ref o, .int x1, .int x2]) (n := 4) (Nat.le_of_ble_eq_true rfl)
  rw [lg_entry_eq]
  generalize (lg_sl ([.ref o, .int x1, .int x2]) ++ List.replicate (4 - (lg_sl ([.ref o, .int x1, .int x2])).length) Slot.unset).toArray = ls at hl ⊢
  have hl : lv_has ls 4 [(0, .ref o), (1, .int x1), (2, .int x2)] := hl
  obtain ⟨fn0, fn1, fn2, fn3, fn4⟩ := RC.n hR
  have fb38 : 0 ≤ (v 38).toInt ∧ (v 38).toInt ≤ 3000 := RC.V hR 38
  have fb39 : 0 ≤ (v 39).toInt ∧ (v 39).toInt ≤ 40 := RC.V hR 39
  have fb40 : 0 ≤ (v 40).toInt ∧ (v 40).toInt ≤ 20 := RC.V hR 40
  have fb43 : 0 ≤ (v 43).toInt ∧ (v 43).toInt ≤ 60 := RC.V hR 43
  have fb41 : 0 ≤ (v 41).toInt ∧ (v 41).toInt ≤ 200 := RC.V hR 41
  obtain ⟨lw, hlw0⟩ := oInv.nn (i := 8) gI to rfl
  have tlw : oty Z lw 5 := oInv.rd gI to.2 hlw0 rfl rfl
  have hLr : rLw Z lw v fa := by have q := RC.l hR; rw [oQ_e hlw0] at q; exact q
  obtain ⟨hi9, hhi⟩ := oInv.nn (i := 11) gI to rfl
  have thi : oty Z hi9 4 := oInv.rd gI to.2 hhi rfl rfl
  obtain ⟨br9, hbr9⟩ := oInv.nn (i := 0) gI thi rfl
  have tbr9 : oty Z br9 18 := oInv.rd gI thi.2 hbr9 rfl rfl
  obtain ⟨of9, hof9⟩ := oInv.nn (i := 1) gI thi rfl
  have tof9 : oty Z of9 62 := oInv.rd gI thi.2 hof9 rfl rfl
  obtain ⟨fr9, hfr9⟩ := oInv.nn (i := 3) gI thi rfl
  have tfr9 : oty Z fr9 61 := oInv.rd gI thi.2 hfr9 rfl rfl
  refine lv_iload_n hx hb dX10_crew_0 rfl (lv_at hl 1 rfl) ?_
  refine lv_if_ge (tgt := 11) hx hb dX10_crew_1 (by decide) (fun c_1 => ?_) (fun c_1 => ?_)
  · have dc_1 := c_le (a := 0) (b := x1.toInt) (by decide) rfl c_1
    refine lv_iload_n hx hb dX10_crew_11 rfl (lv_at hl 1 rfl) ?_
    refine lv_bipush (v := 80) hx hb dX10_crew_12 (by decide) ?_
    refine lv_icmp_le (tgt := 24) hx hb dX10_crew_14 (by decide) (fun c_2 => ?_) (fun c_2 => ?_)
    · have dc_2 := c_le (a := x1.toInt) (b := 80) rfl (by decide) c_2
      refine lv_iload_n hx hb dX10_crew_24 rfl (lv_at hl 2 rfl) ?_
      refine lv_if_lt (tgt := 34) hx hb dX10_crew_25 (by decide) (fun c_3 => ?_) (fun c_3 => ?_)
      · have dc_3 := c_lt (a := x2.toInt) (b := 0) rfl (by decide) c_3
        refine lv_aload_n hx hb dX10_crew_34 rfl (lv_at hl 0 rfl) ?_
        refine lv_bipush (v := (-2)) hx hb dX10_crew_35 (by decide) ?_
        have hFc := o_free hD hS hA
        obtain ⟨q_4, hq_4⟩ := og (cq := cq) to.1 (oE_10 to.2)
        refine va_calli (va_runV (As := [.int (-2)]) (rest := []) ⟨hx, hb, hml, hown, hts⟩ (c_X10_refuse_c l dC dI s.heap.size cq Z gI o to (-2) (by decide)) (cwV 1 hts gX10_crew_X10_refuse rfl rfl rfl (by decide +kernel) ⟨(Nat.le_of_ble_eq_true rfl), (Nat.le_of_ble_eq_true rfl)⟩) (pr_V (r := (RX10, TX10, 16)) hP hK hD q_4 10 rfl hq_4) rfl rfl hl.1 rfl (lv_room (Nat.le_of_ble_eq_true rfl)) dX10_crew_37 ⟨(Nat.le_of_ble_eq_true rfl), (Nat.le_of_ble_eq_true rfl)⟩) hS (fun q _ h => hFc q h) hFc (fun r_6 u t H locs ht hvm w_5 hB hz1 hk1 hS => ?_)
        obtain ⟨S_7, rfl⟩ : ∃ z, z = u := ⟨_, rfl⟩
        obtain ⟨hP1, hK1, hD1⟩ := hB
        rw [ht] at hP1
        have hP : va_P (dC, dI) vwCl (oW cq S_7) H := hP1
        have hD : va_D A (oW cq S_7) := hD1.weaken (fun _ _ _ h => hFc _ h)
        clear hP1 hK1 hD1 hk1 hz1 hvm ht hFc
        obtain ⟨hIS_7, XS_7, hb_8, hx_9⟩ := w_5
        have X_10 : oX [402, 404, 405, 2018, 2061, 2062, 2107] Z S_7 := oX.st oX.rf XS_7 (by decide)
        have g_11 : (oI S_7 o 2).toInt = (oI Z o 2).toInt := by rw [oX.i XS_7 to (by decide)]
        have pk_12 : oP S_7 o 8 = some lw := by rw [oX.p XS_7 to (by decide)]; exact hlw0
        have pk_13 : oP S_7 o 11 = some hi9 := by rw [oX.p XS_7 to (by decide)]; exact hhi
        have pk_14 : oP S_7 hi9 0 = some br9 := by rw [oX.p XS_7 thi (by decide)]; exact hbr9
        have pk_15 : oP S_7 hi9 1 = some of9 := by rw [oX.p XS_7 thi (by decide)]; exact hof9
        have pk_16 : oP S_7 hi9 3 = some fr9 := by rw [oX.p XS_7 thi (by decide)]; exact hfr9
        have rf_17 : r_6.toInt = -2 := by rw [hx_9.1]; decide
        exact W.iret (v := r_6) hx hb hr (fun t ht hW => ⟨⟨r_6, S_7, rfl, ⟨hIS_7, X_10, ⟨⟨by have kc0 : (0 : Int32).toInt = 0 := (by decide); have kc1 : (1 : Int32).toInt = 1 := (by decide); have kc2 : (2 : Int32).toInt = 2 := (by decide); unfold crA; omega, fun q => absurd (by have kc0 : (0 : Int32).toInt = 0 := (by decide); have kc1 : (1 : Int32).toInt = 1 := (by decide); have kc2 : (2 : Int32).toInt = 2 := (by decide); unfold crB; omega) q⟩, (Or.inl ⟨by have kc0 : (0 : Int32).toInt = 0 := (by decide); have kc1 : (1 : Int32).toInt = 1 := (by decide); have kc2 : (2 : Int32).toInt = 2 := (by decide); unfold crB; omega, by rw [hx_9.1]; exact hx_9.2⟩)⟩⟩, ⟨by rw [ht]; exact hP, va_K.moved hW.alike hK, hD⟩⟩, hS.F ht⟩) hS.2.2 dX10_crew_40
      · have dc_3 := c_nlt (a := x2.toInt) (b := 0) rfl (by decide) c_3
        refine lv_iload_n hx hb dX10_crew_28 rfl (lv_at hl 2 rfl) ?_
        refine lv_bipush (v := 8) hx hb dX10_crew_29 (by decide) ?_
        refine lv_icmp_le (tgt := 41) hx hb dX10_crew_31 (by decide) (fun c_18 => ?_) (fun c_18 => ?_)
        · have dc_18 := c_le (a := x2.toInt) (b := 8) rfl (by decide) c_18
          refine lv_aload_n hx hb dX10_crew_41 rfl (lv_at hl 0 rfl) ?_
          obtain ⟨q_19, hq_19⟩ := og (cq := cq) to.1 (oE_10 to.2)
          refine va_get (D := (dC, dI)) (ci := 10) (v := .ref hi9) (C := RX10) (T := TX10) (N := 16) hx hb hts in_wsX10_crew_X10 hown hK hP q_19 hq_19 rfl 11 (by decide) (hts (.fieldLink RX10 51 "ShipOffice" "hiring" "LShipOffice$Hiring;") iw_X10_crew_1) (fun _ h9 => h9) (o_rd hhi) dX10_crew_42 ?_
          refine lv_iload_n hx hb dX10_crew_45 rfl (lv_at hl 1 rfl) ?_
          have hFc := o_free hD hS hA
          obtain ⟨q_20, hq_20⟩ := og (cq := cq) thi.1 (oE_4 thi.2)
          refine va_callv (va_runV (As := [.int x1]) (rest := []) ⟨hx, hb, hml, hown, hts⟩ (c_X4_begin_c l dC dI s.heap.size tL tS tG cq Z gI hi9 thi x1 (by omega) br9 of9 fr9 hbr9 hof9 hfr9) (cwV 1 hts gX10_crew_X4_begin rfl rfl rfl (by decide +kernel) ⟨(Nat.le_of_ble_eq_true rfl), (Nat.le_of_ble_eq_true rfl)⟩) (pr_VO (r := (RX4, TX4, 6)) hP hK hD q_20 4 rfl hq_20 (hZ.go hS hFc)) rfl rfl hl.1 rfl (lv_room (Nat.le_of_ble_eq_true rfl)) dX10_crew_46 ⟨(Nat.le_of_ble_eq_true rfl), (Nat.le_of_ble_eq_true rfl)⟩) hS (fun q _ h => hFc q h) hFc (fun u t H locs ht hvm w_21 hB hz1 hk1 hS => ?_)
          obtain ⟨S_23, rfl⟩ : ∃ z, z = u := ⟨_, rfl⟩
          obtain ⟨hP1, hK1, hD1⟩ := hB
          rw [ht] at hP1
          have hP : va_P (dC, dI) vwCl (oW cq S_23) H := hP1
          have hD : va_D A (oW cq S_23) := hD1.weaken (fun _ _ _ h => hFc _ h)
          clear hP1 hK1 hD1 hk1 hz1 hvm ht hFc
          obtain ⟨hIS_23, XS_23, hx_24⟩ := w_21
          have X_25 : oX [402, 404, 405, 2018, 2061, 2062, 2107] Z S_23 := oX.st oX.rf XS_23 (by decide)
          have g_26 : (oI S_23 o 2).toInt = (oI Z o 2).toInt := by rw [oX.i XS_23 to (by decide)]
          have pk_27 : oP S_23 o 8 = some lw := by rw [oX.p XS_23 to (by decide)]; exact hlw0
          have pk_28 : oP S_23 o 11 = some hi9 := by rw [oX.p XS_23 to (by decide)]; exact hhi
          have pk_29 : oP S_23 hi9 0 = some br9 := by rw [oX.p XS_23 thi (by decide)]; exact hbr9
          have pk_30 : oP S_23 hi9 1 = some of9 := by rw [oX.p XS_23 thi (by decide)]; exact hof9
          have pk_31 : oP S_23 hi9 3 = some fr9 := by rw [oX.p XS_23 thi (by decide)]; exact hfr9
          refine lv_iconst (v := 0) hx hb dX10_crew_49 (by decide) ?_
          refine lv_istore_n (lv' := [(3, .int 0), (0, .ref o), (1, .int x1), (2, .int x2)]) hx hb dX10_crew_50 rfl hl (by decide) rfl (fun ls hl => ?_)
          have cut_32 : ∀ (n : Nat) (y_33 : Int32) (S_34 : oS) (H : Heap) (locs : List Loc) (ls : Array Slot), 40 - y_33.toInt ≤ (n : Int) → (0 ≤ y_33.toInt ∧ y_33.toInt ≤ 40) → oX [402, 404, 405, 2018, 2061, 2062] Z S_34 → ((oI S_34 hi9 4).toInt = x1.toInt ∧ (oI S_34 hi9 5).toInt = (hnd x1.toNatClampNeg : Int) ∧ ∀ r, r < 4 → (oI S_34 fr9 r).toInt = (fpl x1.toNatClampNeg r : Int)) → SPi v fa (hoS S_34 of9) (oI S_34 hi9 2).toInt y_33.toNatClampNeg → (∀ j : Nat, (j : Int) < (oI S_34 hi9 2).toInt → 0 ≤ (oI S_34 of9 j).toInt) → (∀ c, c < 81 → Mn (Way x1.toNatClampNeg (crW fa (hoS S_34 of9)) (oI S_34 hi9 2).toNatClampNeg c) (oJ S_34 br9 c).toInt) → y_33.toInt ≤ (v 39).toInt → oInv S_34 → oX [402, 404, 405, 2018, 2061, 2062, 2107] S_23 S_34 → va_P (dC, dI) vwCl (oW cq S_34) H → va_D A (oW cq S_34) → va_S A s.heap H locs → oP S_34 hi9 0 = some br9 → oP S_34 hi9 1 = some of9 → oP S_34 hi9 3 = some fr9 → oP S_34 o 8 = some lw → oP S_34 o 11 = some hi9 → lv_has ls 4 [(3, .int y_33), (0, .ref o), (1, .int x1), (2, .int x2)] → W p l e (headSpec wsX10_crew { frames := 3, cells := 0, slots := 0, locals := 72 }).room s m #[Value.ref o, Value.int x1, Value.int x2] below meth c H locs 0 0 (MQ below (va_Qi (fun (r : Int32) (u : oS) => oInv u ∧ oX [402, 404, 405, 2018, 2061, 2062, 2107] Z u ∧ ((crA x1.toInt x2.toInt r.toInt ∧ (¬ crB x1.toInt x2.toInt → crG v fa x1.toNatClampNeg x2.toInt r.toInt)) ∧ rZo Z o u r (crB x1.toInt x2.toInt))) (fun u t => va_P (dC, dI) vwCl (oW cq u) t.heap ∧ va_K (dC, dI) vwCl (oT cq) t ∧ va_D A (oW cq u)) A) #[Value.ref o, Value.int x1, Value.int x2] s 0 0 A) (F0 m 51 ls []) := by
            intro n
            induction n using Nat.strongRecOn with
            | ind n ih =>
              intro y_33 S_34 H locs ls hm hy_33 hq0_cut_32 hq1_cut_32 hq2_cut_32 hq3_cut_32 hq4_cut_32 hq5_cut_32 hIS_34 XS_34 hP hD hS pk_35 pk_36 pk_37 pk_38 pk_39 hl
              have YS_34 : oX [402, 404, 405, 2018, 2061, 2062, 2107] Z S_34 := oX.st X_25 XS_34 (fun _ q => q)
              have ntA : ((y_33.toNatClampNeg : Nat) : Int) = y_33.toInt := tn_i (by omega)
              have g_40 : (oI S_34 o 2).toInt = (v 39).toInt := by rw [oX.i (W := [402, 404, 405, 2018, 2061, 2062]) hq0_cut_32 to (by decide)]; exact (RC.n hR).2.1
              have lm9 : y_33.toInt < (v 39).toInt → y_33.toNatClampNeg < (v 39).toNatClampNeg := fun q => ni_lt (by omega) q
              refine lv_iload_n hx hb dX10_crew_51 rfl (lv_at hl 0 rfl) ?_
              refine lv_aload_n hx hb dX10_crew_52 rfl (lv_at hl 1 rfl) ?_
              have t_41 : oty S_34 o 10 := (oX.ty XS_34 (oX.ty XS_23 to))
              obtain ⟨q_42, hq_42⟩ := og (cq := cq) t_41.1 (oE_10 t_41.2)
              refine va_get (D := (dC, dI)) (ci := 10) (v := .int (oI S_34 o 2)) (C := RX10) (T := TX10) (N := 16) hx hb hts in_wsX10_crew_X10 hown hK hP q_42 hq_42 rfl 2 (by decide) (hts (.fieldLink RX10 86 "ShipOffice" "manCount" "I") iw_X10_crew_2) (fun _ h9 => h9) rfl dX10_crew_53 ?_
              refine lv_topi (fun x_43 ex_43 => ?_)
              have hx_43 : 0 ≤ x_43.toInt ∧ x_43.toInt ≤ 40 := iv_of ex_43 (oInv.iv hIS_34 t_41.2 rfl rfl)
              have gx_43 : x_43.toInt = (oI S_34 o 2).toInt := iv_to ex_43
              clear ex_43
              refine lv_icmp_ge (tgt := 103) hx hb dX10_crew_56 (by decide) (fun c_44 => ?_) (fun c_44 => ?_)
              · have dc_44 := c_le (a := x_43.toInt) (b := y_33.toInt) rfl rfl c_44
                refine lv_iload_n hx hb dX10_crew_103 rfl (lv_at hl 3 rfl) ?_
                refine lv_if_ne (tgt := 117) hx hb dX10_crew_104 (by decide) (fun c_45 => ?_) (fun c_45 => ?_)
                · have dc_45 := c_ne (a := x2.toInt) (b := 0) rfl (by decide) c_45
                  refine lv_aload_n hx hb dX10_crew_117 rfl (lv_at hl 1 rfl) ?_
                  refine va_get (D := (dC, dI)) (ci := 10) (v := .ref hi9) (C := RX10) (T := TX10) (N := 16) hx hb hts in_wsX10_crew_X10 hown hK hP q_42 hq_42 rfl 11 (by decide) (hts (.fieldLink RX10 51 "ShipOffice" "hiring" "LShipOffice$Hiring;") iw_X10_crew_1) (fun _ h9 => h9) (o_rd pk_39) dX10_crew_118 ?_
                  refine lv_iload_n hx hb dX10_crew_121 rfl (lv_at hl 3 rfl) ?_
                  refine lv_iconst (v := 1) hx hb dX10_crew_122 (by decide) ?_
                  refine lv_isub hx hb dX10_crew_123 ?_
                  refine lv_topi (fun x_46 ex_46 => ?_)
                  have hx_46 : x_46.toInt = x2.toInt - 1 := (iv_to ex_46).trans (sb_i rfl (by decide) (by omega) (by omega))
                  clear ex_46
                  have hmn9 := hq4_cut_32 x1.toNatClampNeg (show x1.toInt.toNat < 81 by omega)
                  have hbb9 : (oJ S_34 br9 x1.toNatClampNeg).toInt = 1152921504606846976 ∨ (0 ≤ (oJ S_34 br9 x1.toNatClampNeg).toInt ∧ (oJ S_34 br9 x1.toNatClampNeg).toInt ≤ 844424930131968) := by rcases Mn_no (fun k r => (crW_b hRa.2 _ k r).2) (by have q := hq2_cut_32.2.2.1; have q2 : (oI S_34 hi9 2).toNatClampNeg = (oI S_34 hi9 2).toInt.toNat := rfl; omega) hmn9 with q | q; (exact Or.inl q.1); (exact Or.inr ⟨q.1, q.2.1⟩)
                  have t_47 : oty S_34 hi9 4 := (oX.ty XS_34 (oX.ty XS_23 thi))
                  have hFc : ∀ q, va_A [] H.size q → A q := pu_free hS hA
                  obtain ⟨q_48, hq_48⟩ := og (cq := cq) t_47.1 (oE_4 t_47.2)
                  refine va_calli (va_runV (As := [.int x_46]) (rest := []) ⟨hx, hb, hml, hown, hts⟩ (c_X4_hand_c l dC dI H.size cq S_34 hIS_34 hi9 t_47 x_46 (by omega) br9 of9 fr9 pk_35 pk_36 pk_37 x1.toNatClampNeg (oJ S_34 br9 x1.toNatClampNeg).toInt (by have q := tn_i (x := x1) (by omega); have q2 := hq1_cut_32.1; omega) (show x1.toInt.toNat < 81 by omega) rfl hbb9 (hnd x1.toNatClampNeg) hq1_cut_32.2.1 hnd_8) (cwV 1 hts gX10_crew_X4_hand rfl rfl rfl (by decide +kernel) ⟨(Nat.le_of_ble_eq_true rfl), (Nat.le_of_ble_eq_true rfl)⟩) (pr_V (r := (RX4, TX4, 6)) hP hK hD q_48 4 rfl hq_48) rfl rfl hl.1 rfl (lv_room (Nat.le_of_ble_eq_true rfl)) dX10_crew_124 ⟨(Nat.le_of_ble_eq_true rfl), (Nat.le_of_ble_eq_true rfl)⟩) hS (fun q _ h => hFc q h) hFc (fun r_50 u t H locs ht hvm w_49 hB hz1 hk1 hS => ?_)
                  have hP := pu_keep hP hk1
                  clear hk1 hz1 hvm hB ht hFc
                  have hx_51 := w_49
                  exact W.iret (v := r_50) hx hb hr (fun t ht hW => ⟨⟨r_50, S_34, rfl, ⟨hIS_34, YS_34, ⟨⟨by unfold crA; omega, fun _ => (by have hkk8 : (((oI S_34 hi9 2).toNatClampNeg : Nat) : Int) = (oI S_34 hi9 2).toInt := tn_i hq2_cut_32.2.1; exact ⟨hoS S_34 of9, (oI S_34 hi9 2).toNatClampNeg, (oJ S_34 br9 x1.toNatClampNeg).toInt, (SPi_e hq2_cut_32 (show y_33.toInt.toNat ≤ (v 39).toInt.toNat by omega) (Or.inl (show y_33.toInt.toNat = (v 39).toInt.toNat by omega)) (tn_i hq2_cut_32.2.1)), hmn9, Or.inr ⟨by omega, (by have hx9 := hx_51; rw [show (x_46 : Int32).toNatClampNeg = (x2.toInt - 1).toNat from (show x_46.toInt.toNat = (x2.toInt - 1).toNat by omega), show (x_46 : Int32).toInt = x2.toInt - 1 by omega] at hx9; rcases hx9 with q | ⟨q1, q2, q | q⟩; (exact Or.inl q); (exact Or.inr ⟨q1, q2, Or.inl ⟨q.1, fun q3 => by rw [q.2]; exact (tn_i (hq3_cut_32 _ (by have q4 := hkk8; omega))).symm⟩⟩); (exact Or.inr ⟨q1, q2, Or.inr q⟩))⟩⟩)⟩, Or.inr ⟨by unfold crB; omega, sR_x (W := [402, 404, 405, 2018, 2061, 2062]) hq0_cut_32 (rw15 gI to) to (by decide)⟩⟩⟩, ⟨by rw [ht]; exact hP, va_K.moved hW.alike hK, hD⟩⟩, hS.F ht⟩) hS.2.2 dX10_crew_127
                · have dc_45 := c_eq (a := x2.toInt) (b := 0) rfl (by decide) c_45
                  refine lv_aload_n hx hb dX10_crew_107 rfl (lv_at hl 1 rfl) ?_
                  refine va_get (D := (dC, dI)) (ci := 10) (v := .ref hi9) (C := RX10) (T := TX10) (N := 16) hx hb hts in_wsX10_crew_X10 hown hK hP q_42 hq_42 rfl 11 (by decide) (hts (.fieldLink RX10 51 "ShipOffice" "hiring" "LShipOffice$Hiring;") iw_X10_crew_1) (fun _ h9 => h9) (o_rd pk_39) dX10_crew_108 ?_
                  have hmn9 := hq4_cut_32 x1.toNatClampNeg (show x1.toInt.toNat < 81 by omega)
                  have hbb9 : (oJ S_34 br9 x1.toNatClampNeg).toInt = 1152921504606846976 ∨ (0 ≤ (oJ S_34 br9 x1.toNatClampNeg).toInt ∧ (oJ S_34 br9 x1.toNatClampNeg).toInt ≤ 844424930131968) := by rcases Mn_no (fun k r => (crW_b hRa.2 _ k r).2) (by have q := hq2_cut_32.2.2.1; have q2 : (oI S_34 hi9 2).toNatClampNeg = (oI S_34 hi9 2).toInt.toNat := rfl; omega) hmn9 with q | q; (exact Or.inl q.1); (exact Or.inr ⟨q.1, q.2.1⟩)
                  have t_52 : oty S_34 hi9 4 := (oX.ty XS_34 (oX.ty XS_23 thi))
                  have hFc : ∀ q, va_A [] H.size q → A q := pu_free hS hA
                  obtain ⟨q_53, hq_53⟩ := og (cq := cq) t_52.1 (oE_4 t_52.2)
                  refine va_calli (va_runV (As := []) (rest := []) ⟨hx, hb, hml, hown, hts⟩ (c_X4_leastSum_c l dC dI H.size cq S_34 hIS_34 hi9 t_52 br9 of9 fr9 pk_35 pk_36 pk_37 x1.toNatClampNeg (oJ S_34 br9 x1.toNatClampNeg).toInt (by have q := tn_i (x := x1) (by omega); have q2 := hq1_cut_32.1; omega) (show x1.toInt.toNat < 81 by omega) rfl hbb9) (cwV 0 hts gX10_crew_X4_leastSum rfl rfl rfl (by decide +kernel) ⟨(Nat.le_of_ble_eq_true rfl), (Nat.le_of_ble_eq_true rfl)⟩) (pr_V (r := (RX4, TX4, 6)) hP hK hD q_53 4 rfl hq_53) rfl rfl hl.1 rfl (lv_room (Nat.le_of_ble_eq_true rfl)) dX10_crew_111 ⟨(Nat.le_of_ble_eq_true rfl), (Nat.le_of_ble_eq_true rfl)⟩) hS (fun q _ h => hFc q h) hFc (fun r_55 u t H locs ht hvm w_54 hB hz1 hk1 hS => ?_)
                  have hP := pu_keep hP hk1
                  clear hk1 hz1 hvm hB ht hFc
                  have hx_56 := w_54
                  refine lv_goto (tgt := 127) hx hb dX10_crew_114 (by decide) ?_
                  exact W.iret (v := r_55) hx hb hr (fun t ht hW => ⟨⟨r_55, S_34, rfl, ⟨hIS_34, YS_34, ⟨⟨by unfold crA; omega, fun _ => (by have hkk8 : (((oI S_34 hi9 2).toNatClampNeg : Nat) : Int) = (oI S_34 hi9 2).toInt := tn_i hq2_cut_32.2.1; exact ⟨hoS S_34 of9, (oI S_34 hi9 2).toNatClampNeg, (oJ S_34 br9 x1.toNatClampNeg).toInt, (SPi_e hq2_cut_32 (show y_33.toInt.toNat ≤ (v 39).toInt.toNat by omega) (Or.inl (show y_33.toInt.toNat = (v 39).toInt.toNat by omega)) (tn_i hq2_cut_32.2.1)), hmn9, Or.inl ⟨by omega, hx_56⟩⟩)⟩, Or.inr ⟨by unfold crB; omega, sR_x (W := [402, 404, 405, 2018, 2061, 2062]) hq0_cut_32 (rw15 gI to) to (by decide)⟩⟩⟩, ⟨by rw [ht]; exact hP, va_K.moved hW.alike hK, hD⟩⟩, hS.F ht⟩) hS.2.2 dX10_crew_127
              · have dc_44 := c_nle (a := x_43.toInt) (b := y_33.toInt) rfl rfl c_44
                refine lv_aload_n hx hb dX10_crew_59 rfl (lv_at hl 1 rfl) ?_
                obtain ⟨b_57, hb_57⟩ := oInv.nn (i := 1) hIS_34 t_41 rfl
                refine va_get (D := (dC, dI)) (ci := 10) (v := .ref b_57) (C := RX10) (T := TX10) (N := 16) hx hb hts in_wsX10_crew_X10 hown hK hP q_42 hq_42 rfl 1 (by decide) (hts (.fieldLink RX10 11 "ShipOffice" "men" "[LShipOffice$Man;") iw_X10_crew_3) (fun _ h9 => h9) (o_rd hb_57) dX10_crew_60 ?_
                have tb_57 : oty S_34 b_57 14 := oInv.rd hIS_34 t_41.2 hb_57 rfl rfl
                refine lv_iload_n hx hb dX10_crew_63 rfl (lv_at hl 0 rfl) ?_
                obtain ⟨q_58, hq_58⟩ := og (cq := cq) tb_57.1 (oE_14 tb_57.2)
                refine va_aldq hx hb hK hP q_58 3 hq_58 rfl (vp_in_iff.mpr (by omega)) dX10_crew_64 ?_
                obtain ⟨b_59, hb_59⟩ := oInv.el (i := 2) (x := y_33) hIS_34 t_41 rfl hb_57 (by omega) (by omega)
                refine W.eq (g2 := F0 m 65 ls [.ref b_59]) (congrArg (fun z => F0 m 65 ls [va_rf z]) hb_59) ?_
                have tb_59 : oty S_34 b_59 6 := oInv.rd hIS_34 tb_57.2 hb_59 rfl rfl
                have ejb_59 : b_59 = mnA S_34 o y_33.toNatClampNeg := by unfold mnA; rw [oQ_e hb_57, oQ_e hb_59]
                have hFc : ∀ q, va_A [] H.size q → A q := pu_free hS hA
                obtain ⟨q_60, hq_60⟩ := og (cq := cq) tb_59.1 (oE_6 tb_59.2)
                refine va_calli (va_runV (As := []) (rest := []) ⟨hx, hb, hml, hown, hts⟩ (c_X6_asks_c l dC dI H.size cq S_34 hIS_34 b_59 tb_59) (cwV 0 hts gX10_crew_X6_asks rfl rfl rfl (by decide +kernel) ⟨(Nat.le_of_ble_eq_true rfl), (Nat.le_of_ble_eq_true rfl)⟩) (pr_V (r := (RX6, TX6, 6)) hP hK hD q_60 6 rfl hq_60) rfl rfl hl.1 rfl (lv_room (Nat.le_of_ble_eq_true rfl)) dX10_crew_65 ⟨(Nat.le_of_ble_eq_true rfl), (Nat.le_of_ble_eq_true rfl)⟩) hS (fun q _ h => hFc q h) hFc (fun r_62 u t H locs ht hvm w_61 hB hz1 hk1 hS => ?_)
                have hP := pu_keep hP hk1
                clear hk1 hz1 hvm hB ht hFc
                obtain ⟨hb_63, hx_64⟩ := w_61
                have hR_65 := RC_o (W := [402, 404, 405, 2018, 2061, 2062]) hq0_cut_32 gI to (by decide) hR
                rw [b01_c (ak_e hIS_34 t_41 hR_65 (rAs_f (W := [402, 404, 405, 2018, 2061, 2062]) hq0_cut_32 gI to (by decide) hRa) (lm9 (by omega)) ejb_59)] at hx_64
                refine lv_if_eq (tgt := 97) hx hb dX10_crew_68 (by decide) (fun c_66 => ?_) (fun c_66 => ?_)
                · have dc_66 := c_eq (a := r_62.toInt) (b := 0) rfl (by decide) c_66
                  obtain ⟨x_67, ex_67⟩ : ∃ zq : Int32, y_33 + 1 = zq := ⟨_, rfl⟩
                  have hx_67 : x_67.toInt = y_33.toInt + 1 := (iv_to ex_67).symm.trans (ad_i rfl (by decide) (by omega) (by omega))
                  refine lv_iinc (v := x_67) (lv' := [(3, .int x_67), (0, .ref o), (1, .int x1), (2, .int x2)]) hx hb dX10_crew_97 hl (k := 0) rfl ex_67 (by decide) rfl (fun ls hl => ?_)
                  clear ex_67
                  refine lv_goto (tgt := 51) hx hb dX10_crew_100 (by decide) ?_
                  exact ih (n - 1) (by omega) x_67 S_34 _ _ ls (by omega) (by omega) hq0_cut_32 hq1_cut_32 (SPi_n hq2_cut_32 (fun q => by have q1 := b01_t q.1; have q2 := q.2; omega) (show x_67.toInt.toNat = y_33.toInt.toNat + 1 by omega)) hq3_cut_32 hq4_cut_32 (by omega) hIS_34 (oX.st oX.rf XS_34 (by decide)) hP hD hS pk_35 pk_36 pk_37 pk_38 pk_39 (lv_sub hl [0, 1, 2, 3] rfl)
                · have dc_66 := c_ne (a := r_62.toInt) (b := 0) rfl (by decide) c_66
                  refine lv_aload_n hx hb dX10_crew_71 rfl (lv_at hl 1 rfl) ?_
                  refine lv_aload_n hx hb dX10_crew_72 rfl (lv_at hl 1 rfl) ?_
                  refine va_get (D := (dC, dI)) (ci := 10) (v := .ref b_57) (C := RX10) (T := TX10) (N := 16) hx hb hts in_wsX10_crew_X10 hown hK hP q_42 hq_42 rfl 1 (by decide) (hts (.fieldLink RX10 11 "ShipOffice" "men" "[LShipOffice$Man;") iw_X10_crew_3) (fun _ h9 => h9) (o_rd hb_57) dX10_crew_73 ?_
                  refine lv_iload_n hx hb dX10_crew_76 rfl (lv_at hl 0 rfl) ?_
                  refine va_aldq hx hb hK hP q_58 3 hq_58 rfl (vp_in_iff.mpr (by omega)) dX10_crew_77 ?_
                  obtain ⟨b_68, hb_68⟩ := oInv.el (i := 2) (x := y_33) hIS_34 t_41 rfl hb_57 (by omega) (by omega)
                  refine W.eq (g2 := F0 m 78 ls [.ref b_68, .ref o]) (congrArg (fun z => F0 m 78 ls [va_rf z, .ref o]) hb_68) ?_
                  have tb_68 : oty S_34 b_68 6 := oInv.rd hIS_34 tb_57.2 hb_68 rfl rfl
                  have ejb_68 : b_68 = mnA S_34 o y_33.toNatClampNeg := by unfold mnA; rw [oQ_e hb_57, oQ_e hb_68]
                  have hFc : ∀ q, va_A [] H.size q → A q := pu_free hS hA
                  refine va_calli (va_runV (As := [.ref b_68]) (rest := []) ⟨hx, hb, hml, hown, hts⟩ (c_X10_isFree_c l dC dI H.size cq S_34 hIS_34 o t_41 b_68 tb_68 v fa hR_65 y_33.toNatClampNeg (lm9 (by omega)) ejb_68) (cwV 1 hts gX10_crew_X10_isFree rfl rfl rfl (by decide +kernel) ⟨(Nat.le_of_ble_eq_true rfl), (Nat.le_of_ble_eq_true rfl)⟩) (pr_V (r := (RX10, TX10, 16)) hP hK hD q_42 10 rfl hq_42) rfl rfl hl.1 rfl (lv_room (Nat.le_of_ble_eq_true rfl)) dX10_crew_78 ⟨(Nat.le_of_ble_eq_true rfl), (Nat.le_of_ble_eq_true rfl)⟩) hS (fun q _ h => hFc q h) hFc (fun r_70 u t H locs ht hvm w_69 hB hz1 hk1 hS => ?_)
                  have hP := pu_keep hP hk1
                  clear hk1 hz1 hvm hB ht hFc
                  obtain ⟨hb_71, hx_72⟩ := w_69
                  refine lv_if_eq (tgt := 97) hx hb dX10_crew_81 (by decide) (fun c_73 => ?_) (fun c_73 => ?_)
                  · have dc_73 := c_eq (a := r_70.toInt) (b := 0) rfl (by decide) c_73
                    obtain ⟨x_74, ex_74⟩ : ∃ zq : Int32, y_33 + 1 = zq := ⟨_, rfl⟩
                    have hx_74 : x_74.toInt = y_33.toInt + 1 := (iv_to ex_74).symm.trans (ad_i rfl (by decide) (by omega) (by omega))
                    refine lv_iinc (v := x_74) (lv' := [(3, .int x_74), (0, .ref o), (1, .int x1), (2, .int x2)]) hx hb dX10_crew_97 hl (k := 0) rfl ex_74 (by decide) rfl (fun ls hl => ?_)
                    clear ex_74
                    refine lv_goto (tgt := 51) hx hb dX10_crew_100 (by decide) ?_
                    exact ih (n - 1) (by omega) x_74 S_34 _ _ ls (by omega) (by omega) hq0_cut_32 hq1_cut_32 (SPi_n hq2_cut_32 (fun q => by have q1 := b01_t q.1; have q2 := q.2; omega) (show x_74.toInt.toNat = y_33.toInt.toNat + 1 by omega)) hq3_cut_32 hq4_cut_32 (by omega) hIS_34 (oX.st oX.rf XS_34 (by decide)) hP hD hS pk_35 pk_36 pk_37 pk_38 pk_39 (lv_sub hl [0, 1, 2, 3] rfl)
                  · have dc_73 := c_ne (a := r_70.toInt) (b := 0) rfl (by decide) c_73
                    refine lv_aload_n hx hb dX10_crew_84 rfl (lv_at hl 1 rfl) ?_
                    refine va_get (D := (dC, dI)) (ci := 10) (v := .ref hi9) (C := RX10) (T := TX10) (N := 16) hx hb hts in_wsX10_crew_X10 hown hK hP q_42 hq_42 rfl 11 (by decide) (hts (.fieldLink RX10 51 "ShipOffice" "hiring" "LShipOffice$Hiring;") iw_X10_crew_1) (fun _ h9 => h9) (o_rd pk_39) dX10_crew_85 ?_
                    refine lv_aload_n hx hb dX10_crew_88 rfl (lv_at hl 1 rfl) ?_
                    refine va_get (D := (dC, dI)) (ci := 10) (v := .ref b_57) (C := RX10) (T := TX10) (N := 16) hx hb hts in_wsX10_crew_X10 hown hK hP q_42 hq_42 rfl 1 (by decide) (hts (.fieldLink RX10 11 "ShipOffice" "men" "[LShipOffice$Man;") iw_X10_crew_3) (fun _ h9 => h9) (o_rd hb_57) dX10_crew_89 ?_
                    refine lv_iload_n hx hb dX10_crew_92 rfl (lv_at hl 0 rfl) ?_
                    refine va_aldq hx hb hK hP q_58 3 hq_58 rfl (vp_in_iff.mpr (by omega)) dX10_crew_93 ?_
                    obtain ⟨b_75, hb_75⟩ := oInv.el (i := 2) (x := y_33) hIS_34 t_41 rfl hb_57 (by omega) (by omega)
                    refine W.eq (g2 := F0 m 94 ls [.ref b_75, .ref hi9]) (congrArg (fun z => F0 m 94 ls [va_rf z, .ref hi9]) hb_75) ?_
                    have tb_75 : oty S_34 b_75 6 := oInv.rd hIS_34 tb_57.2 hb_75 rfl rfl
                    have ejb_75 : b_75 = mnA S_34 o y_33.toNatClampNeg := by unfold mnA; rw [oQ_e hb_57, oQ_e hb_75]
                    have hRa9 := rAs_f (W := [402, 404, 405, 2018, 2061, 2062]) hq0_cut_32 gI to (by decide) hRa
                    obtain ⟨wr9, hwr9⟩ := oInv.nn (i := 4) hIS_34 tb_75 rfl
                    have hkk9 : (((oI S_34 hi9 2).toNatClampNeg : Nat) : Int) = (oI S_34 hi9 2).toInt := tn_i hq2_cut_32.2.1
                    have hwg9 : ∀ r, r < 4 → (oI S_34 wr9 r).toInt = crW fa (up1 (hoS S_34 of9) (oI S_34 hi9 2).toNatClampNeg y_33.toNatClampNeg) (oI S_34 hi9 2).toNatClampNeg r := fun r hr => by rw [(hRa9.1 _ hb_57).1 _ (lm9 (by omega)) _ _ hb_75 hwr9 r hr]; unfold crW up1; rw [if_pos rfl]
                    have hB9 : ∀ c, c < 81 → Mn (Way x1.toNatClampNeg (crW fa (up1 (hoS S_34 of9) (oI S_34 hi9 2).toNatClampNeg y_33.toNatClampNeg)) (oI S_34 hi9 2).toNatClampNeg c) (oJ S_34 br9 c).toInt := fun c hc => Mn_c (fun j hj => by unfold crW up1; rw [if_neg (by omega)]) (hq4_cut_32 c hc)
                    have hb09 : (oI S_34 b_75 0).toInt = ((y_33.toNatClampNeg : Nat) : Int) := by rw [ejb_75]; exact (RC.m hR_65 (lm9 (by omega))).1
                    have t_76 : oty S_34 hi9 4 := (oX.ty XS_34 (oX.ty XS_23 thi))
                    have hFc := o_free hD hS hA
                    obtain ⟨q_77, hq_77⟩ := og (cq := cq) t_76.1 (oE_4 t_76.2)
                    refine va_callv (va_runV (As := [.ref b_75]) (rest := []) ⟨hx, hb, hml, hown, hts⟩ (c_X4_offer_c l dC dI H.size tL tS tG cq S_34 hIS_34 hi9 t_76 b_75 tb_75 br9 of9 fr9 pk_35 pk_36 pk_37 wr9 hwr9 x1.toNatClampNeg (oI S_34 hi9 2).toNatClampNeg (crW fa (up1 (hoS S_34 of9) (oI S_34 hi9 2).toNatClampNeg y_33.toNatClampNeg)) (crW_b hRa.2 _) (by have q := tn_i (x := x1) (by omega); have q2 := hq1_cut_32.1; omega) (show x1.toInt.toNat < 81 by omega) hkk9.symm (by have q := hq2_cut_32.2.2.1; omega) hq1_cut_32.2.2 hwg9 hB9) (cwV 1 hts gX10_crew_X4_offer rfl rfl rfl (by decide +kernel) ⟨(Nat.le_of_ble_eq_true rfl), (Nat.le_of_ble_eq_true rfl)⟩) (pr_VO (r := (RX4, TX4, 6)) hP hK hD q_77 4 rfl hq_77 (hZ.go hS hFc)) rfl rfl hl.1 rfl (lv_room (Nat.le_of_ble_eq_true rfl)) dX10_crew_94 ⟨(Nat.le_of_ble_eq_true rfl), (Nat.le_of_ble_eq_true rfl)⟩) hS (fun q _ h => hFc q h) hFc (fun u t H locs ht hvm w_78 hB hz1 hk1 hS => ?_)
                    obtain ⟨S_80, rfl⟩ : ∃ z, z = u := ⟨_, rfl⟩
                    obtain ⟨hP1, hK1, hD1⟩ := hB
                    rw [ht] at hP1
                    have hP : va_P (dC, dI) vwCl (oW cq S_80) H := hP1
                    have hD : va_D A (oW cq S_80) := hD1.weaken (fun _ _ _ h => hFc _ h)
                    clear hP1 hK1 hD1 hk1 hz1 hvm ht hFc
                    obtain ⟨hIS_80, XS_80, hx_81⟩ := w_78
                    have X_82 : oX [402, 404, 405, 2018, 2061, 2062, 2107] Z S_80 := oX.st YS_34 XS_80 (by decide)
                    have g_83 : (oI S_80 o 2).toInt = (oI S_34 o 2).toInt := by rw [oX.i XS_80 t_41 (by decide)]
                    have pk_84 : oP S_80 hi9 0 = some br9 := by rw [oX.p XS_80 t_76 (by decide)]; exact pk_35
                    have pk_85 : oP S_80 hi9 1 = some of9 := by rw [oX.p XS_80 t_76 (by decide)]; exact pk_36
                    have pk_86 : oP S_80 hi9 3 = some fr9 := by rw [oX.p XS_80 t_76 (by decide)]; exact pk_37
                    have pk_87 : oP S_80 o 8 = some lw := by rw [oX.p XS_80 t_41 (by decide)]; exact pk_38
                    have pk_88 : oP S_80 o 11 = some hi9 := by rw [oX.p XS_80 t_41 (by decide)]; exact pk_39
                    obtain ⟨x_89, ex_89⟩ : ∃ zq : Int32, y_33 + 1 = zq := ⟨_, rfl⟩
                    have hx_89 : x_89.toInt = y_33.toInt + 1 := (iv_to ex_89).symm.trans (ad_i rfl (by decide) (by omega) (by omega))
                    refine lv_iinc (v := x_89) (lv' := [(3, .int x_89), (0, .ref o), (1, .int x1), (2, .int x2)]) hx hb dX10_crew_97 hl (k := 0) rfl ex_89 (by decide) rfl (fun ls hl => ?_)
                    clear ex_89
                    refine lv_goto (tgt := 51) hx hb dX10_crew_100 (by decide) ?_
                    exact ih (n - 1) (by omega) x_89 S_80 _ _ ls (by omega) (by omega) (oX.st hq0_cut_32 (show oX [402, 2018, 2062] S_34 S_80 from (oX.st oX.rf XS_80 (by decide))) (by decide)) ⟨by rw [oX.i (W := [402, 2018, 2062]) (i := 4) (oX.st oX.rf XS_80 (by decide)) t_76 (by decide)]; exact hq1_cut_32.1, by rw [oX.i (W := [402, 2018, 2062]) (i := 5) (oX.st oX.rf XS_80 (by decide)) t_76 (by decide)]; exact hq1_cut_32.2.1, by rw [oX.f (W := [402, 2018, 2062]) (oX.st oX.rf XS_80 (by decide)) (oX.ty XS_34 (oX.ty XS_23 tfr9)) (fun _ => nkw (by decide) (by decide) (by decide))]; exact hq1_cut_32.2.2⟩ (cw_of (k := (oI S_34 hi9 2).toNatClampNeg) (i := y_33.toNatClampNeg) hq2_cut_32 hq3_cut_32 hq4_cut_32 ⟨b01_1 (by omega), by omega⟩ hkk9 hb09 hx_81 (show x_89.toInt.toNat = y_33.toInt.toNat + 1 by omega)).1 (cw_of (k := (oI S_34 hi9 2).toNatClampNeg) (i := y_33.toNatClampNeg) hq2_cut_32 hq3_cut_32 hq4_cut_32 ⟨b01_1 (by omega), by omega⟩ hkk9 hb09 hx_81 (show x_89.toInt.toNat = y_33.toInt.toNat + 1 by omega)).2.1 (cw_of (k := (oI S_34 hi9 2).toNatClampNeg) (i := y_33.toNatClampNeg) hq2_cut_32 hq3_cut_32 hq4_cut_32 ⟨b01_1 (by omega), by omega⟩ hkk9 hb09 hx_81 (show x_89.toInt.toNat = y_33.toInt.toNat + 1 by omega)).2.2 (by omega) hIS_80 (oX.st (oX.st oX.rf XS_34 (by decide)) XS_80 (by decide)) hP hD hS pk_84 pk_85 pk_86 pk_87 pk_88 (lv_sub hl [0, 1, 2, 3] rfl)
          have kc_90 : (0 : Int32).toInt = 0 := by decide
          exact cut_32 41 0 S_23 _ _ ls (by omega) (by decide) (oX.st oX.rf XS_23 (by decide)) ⟨by omega, hx_24.1.2.2, hx_24.2.1⟩ (SPi_0 (by have q := hx_24.1.1; omega) (by decide)) (fun j hj => by have q := hx_24.1.1; omega) (fun c hc => by rw [show (oI S_23 hi9 2).toNatClampNeg = 0 from (show (oI S_23 hi9 2).toInt.toNat = 0 by have q := hx_24.1.1; omega)]; exact Mn_0 (hx_24.2.2 c hc)) (by have rc : (0 : Int32).toInt = 0 := (by decide); omega) hIS_23 oX.rf hP hD hS pk_29 pk_30 pk_31 pk_27 pk_28 (lv_sub hl [0, 1, 2, 3] rfl)
        · have dc_18 := c_nle (a := x2.toInt) (b := 8) rfl (by decide) c_18
          refine lv_aload_n hx hb dX10_crew_34 rfl (lv_at hl 0 rfl) ?_
          refine lv_bipush (v := (-2)) hx hb dX10_crew_35 (by decide) ?_
          have hFc := o_free hD hS hA
          obtain ⟨q_91, hq_91⟩ := og (cq := cq) to.1 (oE_10 to.2)
          refine va_calli (va_runV (As := [.int (-2)]) (rest := []) ⟨hx, hb, hml, hown, hts⟩ (c_X10_refuse_c l dC dI s.heap.size cq Z gI o to (-2) (by decide)) (cwV 1 hts gX10_crew_X10_refuse rfl rfl rfl (by decide +kernel) ⟨(Nat.le_of_ble_eq_true rfl), (Nat.le_of_ble_eq_true rfl)⟩) (pr_V (r := (RX10, TX10, 16)) hP hK hD q_91 10 rfl hq_91) rfl rfl hl.1 rfl (lv_room (Nat.le_of_ble_eq_true rfl)) dX10_crew_37 ⟨(Nat.le_of_ble_eq_true rfl), (Nat.le_of_ble_eq_true rfl)⟩) hS (fun q _ h => hFc q h) hFc (fun r_93 u t H locs ht hvm w_92 hB hz1 hk1 hS => ?_)
          obtain ⟨S_94, rfl⟩ : ∃ z, z = u := ⟨_, rfl⟩
          obtain ⟨hP1, hK1, hD1⟩ := hB
          rw [ht] at hP1
          have hP : va_P (dC, dI) vwCl (oW cq S_94) H := hP1
          have hD : va_D A (oW cq S_94) := hD1.weaken (fun _ _ _ h => hFc _ h)
          clear hP1 hK1 hD1 hk1 hz1 hvm ht hFc
          obtain ⟨hIS_94, XS_94, hb_95, hx_96⟩ := w_92
          have X_97 : oX [402, 404, 405, 2018, 2061, 2062, 2107] Z S_94 := oX.st oX.rf XS_94 (by decide)
          have g_98 : (oI S_94 o 2).toInt = (oI Z o 2).toInt := by rw [oX.i XS_94 to (by decide)]
          have pk_99 : oP S_94 o 8 = some lw := by rw [oX.p XS_94 to (by decide)]; exact hlw0
          have pk_100 : oP S_94 o 11 = some hi9 := by rw [oX.p XS_94 to (by decide)]; exact hhi
          have pk_101 : oP S_94 hi9 0 = some br9 := by rw [oX.p XS_94 thi (by decide)]; exact hbr9
          have pk_102 : oP S_94 hi9 1 = some of9 := by rw [oX.p XS_94 thi (by decide)]; exact hof9
          have pk_103 : oP S_94 hi9 3 = some fr9 := by rw [oX.p XS_94 thi (by decide)]; exact hfr9
          have rf_104 : r_93.toInt = -2 := by rw [hx_96.1]; decide
          exact W.iret (v := r_93) hx hb hr (fun t ht hW => ⟨⟨r_93, S_94, rfl, ⟨hIS_94, X_97, ⟨⟨by have kc0 : (0 : Int32).toInt = 0 := (by decide); have kc1 : (1 : Int32).toInt = 1 := (by decide); have kc2 : (2 : Int32).toInt = 2 := (by decide); unfold crA; omega, fun q => absurd (by have kc0 : (0 : Int32).toInt = 0 := (by decide); have kc1 : (1 : Int32).toInt = 1 := (by decide); have kc2 : (2 : Int32).toInt = 2 := (by decide); unfold crB; omega) q⟩, (Or.inl ⟨by have kc0 : (0 : Int32).toInt = 0 := (by decide); have kc1 : (1 : Int32).toInt = 1 := (by decide); have kc2 : (2 : Int32).toInt = 2 := (by decide); unfold crB; omega, by rw [hx_96.1]; exact hx_96.2⟩)⟩⟩, ⟨by rw [ht]; exact hP, va_K.moved hW.alike hK, hD⟩⟩, hS.F ht⟩) hS.2.2 dX10_crew_40
    · have dc_2 := c_nle (a := x1.toInt) (b := 80) rfl (by decide) c_2
      refine lv_aload_n hx hb dX10_crew_17 rfl (lv_at hl 0 rfl) ?_
      refine lv_bipush (v := (-6)) hx hb dX10_crew_18 (by decide) ?_
      have hFc := o_free hD hS hA
      obtain ⟨q_105, hq_105⟩ := og (cq := cq) to.1 (oE_10 to.2)
      refine va_calli (va_runV (As := [.int (-6)]) (rest := []) ⟨hx, hb, hml, hown, hts⟩ (c_X10_refuse_c l dC dI s.heap.size cq Z gI o to (-6) (by decide)) (cwV 1 hts gX10_crew_X10_refuse rfl rfl rfl (by decide +kernel) ⟨(Nat.le_of_ble_eq_true rfl), (Nat.le_of_ble_eq_true rfl)⟩) (pr_V (r := (RX10, TX10, 16)) hP hK hD q_105 10 rfl hq_105) rfl rfl hl.1 rfl (lv_room (Nat.le_of_ble_eq_true rfl)) dX10_crew_20 ⟨(Nat.le_of_ble_eq_true rfl), (Nat.le_of_ble_eq_true rfl)⟩) hS (fun q _ h => hFc q h) hFc (fun r_107 u t H locs ht hvm w_106 hB hz1 hk1 hS => ?_)
      obtain ⟨S_108, rfl⟩ : ∃ z, z = u := ⟨_, rfl⟩
      obtain ⟨hP1, hK1, hD1⟩ := hB
      rw [ht] at hP1
      have hP : va_P (dC, dI) vwCl (oW cq S_108) H := hP1
      have hD : va_D A (oW cq S_108) := hD1.weaken (fun _ _ _ h => hFc _ h)
      clear hP1 hK1 hD1 hk1 hz1 hvm ht hFc
      obtain ⟨hIS_108, XS_108, hb_109, hx_110⟩ := w_106
      have X_111 : oX [402, 404, 405, 2018, 2061, 2062, 2107] Z S_108 := oX.st oX.rf XS_108 (by decide)
      have g_112 : (oI S_108 o 2).toInt = (oI Z o 2).toInt := by rw [oX.i XS_108 to (by decide)]
      have pk_113 : oP S_108 o 8 = some lw := by rw [oX.p XS_108 to (by decide)]; exact hlw0
      have pk_114 : oP S_108 o 11 = some hi9 := by rw [oX.p XS_108 to (by decide)]; exact hhi
      have pk_115 : oP S_108 hi9 0 = some br9 := by rw [oX.p XS_108 thi (by decide)]; exact hbr9
      have pk_116 : oP S_108 hi9 1 = some of9 := by rw [oX.p XS_108 thi (by decide)]; exact hof9
      have pk_117 : oP S_108 hi9 3 = some fr9 := by rw [oX.p XS_108 thi (by decide)]; exact hfr9
      have rf_118 : r_107.toInt = -6 := by rw [hx_110.1]; decide
      exact W.iret (v := r_107) hx hb hr (fun t ht hW => ⟨⟨r_107, S_108, rfl, ⟨hIS_108, X_111, ⟨⟨by have kc0 : (0 : Int32).toInt = 0 := (by decide); have kc1 : (1 : Int32).toInt = 1 := (by decide); have kc2 : (2 : Int32).toInt = 2 := (by decide); unfold crA; omega, fun q => absurd (by have kc0 : (0 : Int32).toInt = 0 := (by decide); have kc1 : (1 : Int32).toInt = 1 := (by decide); have kc2 : (2 : Int32).toInt = 2 := (by decide); unfold crB; omega) q⟩, (Or.inl ⟨by have kc0 : (0 : Int32).toInt = 0 := (by decide); have kc1 : (1 : Int32).toInt = 1 := (by decide); have kc2 : (2 : Int32).toInt = 2 := (by decide); unfold crB; omega, by rw [hx_110.1]; exact hx_110.2⟩)⟩⟩, ⟨by rw [ht]; exact hP, va_K.moved hW.alike hK, hD⟩⟩, hS.F ht⟩) hS.2.2 dX10_crew_23
  · have dc_1 := c_nle (a := 0) (b := x1.toInt) (by decide) rfl c_1
    refine lv_aload_n hx hb dX10_crew_4 rfl (lv_at hl 0 rfl) ?_
    refine lv_bipush (v := (-4)) hx hb dX10_crew_5 (by decide) ?_
    have hFc := o_free hD hS hA
    obtain ⟨q_119, hq_119⟩ := og (cq := cq) to.1 (oE_10 to.2)
    refine va_calli (va_runV (As := [.int (-4)]) (rest := []) ⟨hx, hb, hml, hown, hts⟩ (c_X10_refuse_c l dC dI s.heap.size cq Z gI o to (-4) (by decide)) (cwV 1 hts gX10_crew_X10_refuse rfl rfl rfl (by decide +kernel) ⟨(Nat.le_of_ble_eq_true rfl), (Nat.le_of_ble_eq_true rfl)⟩) (pr_V (r := (RX10, TX10, 16)) hP hK hD q_119 10 rfl hq_119) rfl rfl hl.1 rfl (lv_room (Nat.le_of_ble_eq_true rfl)) dX10_crew_7 ⟨(Nat.le_of_ble_eq_true rfl), (Nat.le_of_ble_eq_true rfl)⟩) hS (fun q _ h => hFc q h) hFc (fun r_121 u t H locs ht hvm w_120 hB hz1 hk1 hS => ?_)
    obtain ⟨S_122, rfl⟩ : ∃ z, z = u := ⟨_, rfl⟩
    obtain ⟨hP1, hK1, hD1⟩ := hB
    rw [ht] at hP1
    have hP : va_P (dC, dI) vwCl (oW cq S_122) H := hP1
    have hD : va_D A (oW cq S_122) := hD1.weaken (fun _ _ _ h => hFc _ h)
    clear hP1 hK1 hD1 hk1 hz1 hvm ht hFc
    obtain ⟨hIS_122, XS_122, hb_123, hx_124⟩ := w_120
    have X_125 : oX [402, 404, 405, 2018, 2061, 2062, 2107] Z S_122 := oX.st oX.rf XS_122 (by decide)
    have g_126 : (oI S_122 o 2).toInt = (oI Z o 2).toInt := by rw [oX.i XS_122 to (by decide)]
    have pk_127 : oP S_122 o 8 = some lw := by rw [oX.p XS_122 to (by decide)]; exact hlw0
    have pk_128 : oP S_122 o 11 = some hi9 := by rw [oX.p XS_122 to (by decide)]; exact hhi
    have pk_129 : oP S_122 hi9 0 = some br9 := by rw [oX.p XS_122 thi (by decide)]; exact hbr9
    have pk_130 : oP S_122 hi9 1 = some of9 := by rw [oX.p XS_122 thi (by decide)]; exact hof9
    have pk_131 : oP S_122 hi9 3 = some fr9 := by rw [oX.p XS_122 thi (by decide)]; exact hfr9
    have rf_132 : r_121.toInt = -4 := by rw [hx_124.1]; decide
    exact W.iret (v := r_121) hx hb hr (fun t ht hW => ⟨⟨r_121, S_122, rfl, ⟨hIS_122, X_125, ⟨⟨by have kc0 : (0 : Int32).toInt = 0 := (by decide); have kc1 : (1 : Int32).toInt = 1 := (by decide); have kc2 : (2 : Int32).toInt = 2 := (by decide); unfold crA; omega, fun q => absurd (by have kc0 : (0 : Int32).toInt = 0 := (by decide); have kc1 : (1 : Int32).toInt = 1 := (by decide); have kc2 : (2 : Int32).toInt = 2 := (by decide); unfold crB; omega) q⟩, (Or.inl ⟨by have kc0 : (0 : Int32).toInt = 0 := (by decide); have kc1 : (1 : Int32).toInt = 1 := (by decide); have kc2 : (2 : Int32).toInt = 2 := (by decide); unfold crB; omega, by rw [hx_124.1]; exact hx_124.2⟩)⟩⟩, ⟨by rw [ht]; exact hP, va_K.moved hW.alike hK, hD⟩⟩, hS.F ht⟩) hS.2.2 dX10_crew_10
