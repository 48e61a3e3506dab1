


theorem dG_er {v : Nat → Int32} {fa : Nat → Nat → Int32} {a : Nat} {k : Int} : dG (7 : Int32).toInt v fa a k = erG v fa a k := funext fun t => if_pos (by decide)
theorem dG_ab {v : Nat → Int32} {fa : Nat → Nat → Int32} {a : Nat} {k : Int} : dG (2 : Int32).toInt v fa a k = abG v fa a k := funext fun t => if_neg (by decide)
set_option maxHeartbeats 4000000 in
set_option maxRecDepth 100000 in
theorem c_X1_earningDays_c (l : Launch) (dC : Nat → ClassId) (dI : Nat → Nat → Nat) (sz : Nat) (cq : Nat → ClassId) (Z : oS) (gI : oInv Z) (o : Nat) (to : oty Z o 1) (x1 : Int32) (hx1 : 0 ≤ x1.toInt ∧ x1.toInt ≤ 3000) (x2 : Int32) (hx2 : 0 ≤ x2.toInt ∧ x2.toInt ≤ 3000) (a3 : Nat) (ta3 : oty Z a3 5) (h0 : Nat) (th : oty Z h0 10) (v : Nat → Int32) (fa : Nat → Nat → Int32) (hR : RC Z h0 v fa) (a : Nat) (ha : a < (v 43).toNatClampNeg) (ea : o = agA Z h0 a) (hLr : rLw Z a3 v fa) (hjk : x1.toInt ≤ x2.toInt ∧ x2.toInt ≤ 3000) : Met l yX1_earningDays wsX1_earningDays ({ frames := 3, cells := 0, slots := 0, locals := 79 }) (va_Pc [.ref o, .int x1, .int x2, .ref a3] (pcW (dC, dI) (oT cq) (oW cq Z) sz)) (va_Qi (fun (r : Int32) (u : Unit) => (0 ≤ r.toInt ∧ r.toInt ≤ 3001) ∧ (r.toInt = erF v fa a x1.toInt x2.toInt)) (fun _ _ => True) (va_A [] sz)) 0 0 (va_A [] sz) := by
  refine Met.ofW (cc := cX1_earningDays) (maxL := 5) (ret := (some .int)) (by decide) rfl ?_
  intro p e s m args below meth c s₁ B hml hv
  obtain ⟨rfl, hsz, hP, hK, hD0⟩ := hv
  have hx := B.exec
  have hb := B.bytes
  have hr := B.returns
  have hts := atoms_spec (ws := wsX1_earningDays) B.pre
  have hown : s.vm.findClass RX1 = some m.cls := findClass_of_methodNamed B.named
  have hlocks := B.notSynchronized
  subst hsz
  have hD := hD0
  generalize hAe : va_A [] s.heap.size = A at ⊢
  have hA : ∀ q : Nat, s.heap.size ≤ q → A q := fun q h => by rw [← hAe]; exact Or.inr h
  have hS : va_S A s.heap s.heap [] := va_S.rf
  have hP : va_P (dC, dI) vwCl (oW cq Z) s.heap := hP
  have hl := lv_entry ([.ref o, .int x1, .int x2, .ref a3]) (n := 5) (Nat.le_of_ble_eq_true rfl)
  rw [lg_entry_eq]
  generalize (lg_sl ([.ref o, .int x1, .int x2, .ref a3]) ++ List.replicate (5 - (lg_sl ([.ref o, .int x1, .int x2, .ref a3])).length) Slot.unset).toArray = ls at hl ⊢
  have hl : lv_has ls 5 [(0, .ref o), (1, .int x1), (2, .int x2), (3, .ref a3)] := hl
  obtain ⟨fn0, fn1, fn2, fn3, fn4⟩ := RC.n hR
  have fb38 : 0 ≤ (v 38).toInt ∧ (v 38).toInt ≤ 3000 := RC.V hR 38
  have fb39 : 0 ≤ (v 39).toInt ∧ (v 39).toInt ≤ 40 := RC.V hR 39
  have fb40 : 0 ≤ (v 40).toInt ∧ (v 40).toInt ≤ 20 := RC.V hR 40
  have fb43 : 0 ≤ (v 43).toInt ∧ (v 43).toInt ≤ 60 := RC.V hR 43
  have fb41 : 0 ≤ (v 41).toInt ∧ (v 41).toInt ≤ 200 := RC.V hR 41
  have fAo := RC.a hR ha
  rw [← ea] at fAo
  obtain ⟨⟨fm1o, fm2o, fm3o⟩, ⟨fv1o, fv2o, fv3o⟩, fsio, fppo, fwgo, frko, fofo, fdeo, fcho⟩ := fAo
  have fBo : 0 ≤ (fa 25 a).toInt ∧ (fa 25 a).toInt ≤ 3000 := RC.A hR 25 _
  have lamo : (fa 20 a).toNatClampNeg < (v 39).toNatClampNeg := ni_lt fm1o fm2o
  have namo : (((fa 20 a).toNatClampNeg : Nat) : Int) = (fa 20 a).toInt := tn_i fm1o
  obtain ⟨amo, eamo⟩ : ∃ z, z = mnA Z h0 (fa 20 a).toNatClampNeg := ⟨_, rfl⟩
  rw [← eamo] at fm3o
  have tamo : oty Z amo 6 := by rw [eamo]; exact (RC.tm hR gI th lamo).2
  have fMamo := RC.m hR lamo
  rw [← eamo] at fMamo
  obtain ⟨fz0amo, fz1amo, fz2amo, fz3amo⟩ := fMamo
  rw [namo] at fz0amo
  have lavo : (fa 21 a).toNatClampNeg < (v 40).toNatClampNeg := ni_lt fv1o fv2o
  have navo : (((fa 21 a).toNatClampNeg : Nat) : Int) = (fa 21 a).toInt := tn_i fv1o
  obtain ⟨avo, eavo⟩ : ∃ z, z = voA Z h0 (fa 21 a).toNatClampNeg := ⟨_, rfl⟩
  rw [← eavo] at fv3o
  have tavo : oty Z avo 9 := by rw [eavo]; exact (RC.tv hR gI th lavo).2
  have fVavo := RC.vo hR lavo
  rw [← eavo] at fVavo
  obtain ⟨fy0avo, fy1avo, fy2avo, fy3avo, fy4avo, fySavo, fyLavo, fyhavo⟩ := fVavo
  have fBavo : 0 ≤ (fa 7 ((fa 21 a).toNatClampNeg)).toInt ∧ (fa 7 ((fa 21 a).toNatClampNeg)).toInt ≤ 3000 := RC.A hR 7 _
  have fSavo := onc_i fySavo
  have fLavo := onc_i fyLavo
  rw [navo] at fy0avo fSavo fLavo
  have hlb := lhO_b (v := v) (e := (fa 21 a).toInt) (d := x1.toInt) (k := x2.toInt) (RC.A hR)
  refine lv_iload_n hx hb dX1_earningDays_0 rfl (lv_at hl 1 rfl) ?_
  refine lv_istore (lv' := [(4, .int x1), (0, .ref o), (1, .int x1), (2, .int x2), (3, .ref a3)]) hx hb dX1_earningDays_1 hl (by decide) rfl (fun ls hl => ?_)
  refine lv_aload_n hx hb dX1_earningDays_3 rfl (lv_at hl 1 rfl) ?_
  refine lv_iload_n hx hb dX1_earningDays_4 rfl (lv_at hl 2 rfl) ?_
  refine lv_iload_n hx hb dX1_earningDays_5 rfl (lv_at hl 3 rfl) ?_
  refine lv_aload_n hx hb dX1_earningDays_6 rfl (lv_at hl 4 rfl) ?_
  have hFc : ∀ q, va_A [] s.heap.size q → A q := pu_free hS hA
  obtain ⟨q_1, hq_1⟩ := og (cq := cq) to.1 (oE_1 to.2)
  refine va_calli (va_runV (As := [.int x1, .int x2, .ref a3]) (rest := []) ⟨hx, hb, hml, hown, hts⟩ (c_X1_stateOn_c l dC dI s.heap.size cq Z gI o to x1 (by omega) x2 (by omega) a3 ta3 h0 th v fa hR a ha ea hLr (by omega)) (cwV 3 hts gX1_earningDays_X1_stateOn rfl rfl rfl (by decide +kernel) ⟨(Nat.le_of_ble_eq_true rfl), (Nat.le_of_ble_eq_true rfl)⟩) (pr_V (r := (RX1, TX1, 18)) hP hK hD q_1 1 rfl hq_1) rfl rfl hl.1 rfl (lv_room (Nat.le_of_ble_eq_true rfl)) dX1_earningDays_7 ⟨(Nat.le_of_ble_eq_true rfl), (Nat.le_of_ble_eq_true rfl)⟩) hS (fun q _ h => hFc q h) hFc (fun r_3 u t H locs ht hvm w_2 hB hz1 hk1 hS => ?_)
  have hP := pu_keep hP hk1
  clear hk1 hz1 hvm hB ht hFc
  obtain ⟨hb_4, hx_5⟩ := w_2
  refine lv_iconst (v := 2) hx hb dX1_earningDays_10 (by decide) ?_
  refine lv_icmp_ne (tgt := 25) hx hb dX1_earningDays_11 (by decide) (fun c_6 => ?_) (fun c_6 => ?_)
  · have dc_6 := c_ne (a := r_3.toInt) (b := 2) rfl (by decide) c_6
    refine lv_aload_n hx hb dX1_earningDays_25 rfl (lv_at hl 1 rfl) ?_
    refine lv_bipush (v := 7) hx hb dX1_earningDays_26 (by decide) ?_
    refine lv_iload hx hb dX1_earningDays_28 (lv_at hl 0 rfl) ?_
    refine lv_iload_n hx hb dX1_earningDays_30 rfl (lv_at hl 3 rfl) ?_
    refine lv_aload_n hx hb dX1_earningDays_31 rfl (lv_at hl 4 rfl) ?_
    have hFc : ∀ q, va_A [] H.size q → A q := pu_free hS hA
    refine va_calli (va_runV (As := [.int 7, .int x1, .int x2, .ref a3]) (rest := []) ⟨hx, hb, hml, hown, hts⟩ (c_X1_daysIn_c l dC dI H.size cq Z gI o to 7 x1 x2 a3 ta3 h0 th v fa hR a ha ea hLr (by first | exact Or.inl (by decide) | exact Or.inr (by decide) | omega) (by omega)) (cwV 4 hts gX1_earningDays_X1_daysIn rfl rfl rfl (by decide +kernel) ⟨(Nat.le_of_ble_eq_true rfl), (Nat.le_of_ble_eq_true rfl)⟩) (pr_V (r := (RX1, TX1, 18)) hP hK hD q_1 1 rfl hq_1) rfl rfl hl.1 rfl (lv_room (Nat.le_of_ble_eq_true rfl)) dX1_earningDays_32 ⟨(Nat.le_of_ble_eq_true rfl), (Nat.le_of_ble_eq_true rfl)⟩) hS (fun q _ h => hFc q h) hFc (fun r_8 u t H locs ht hvm w_7 hB hz1 hk1 hS => ?_)
    have hP := pu_keep hP hk1
    clear hk1 hz1 hvm hB ht hFc
    obtain ⟨hb_9, hx_10⟩ := w_7
    exact W.iret (v := r_8) hx hb hr (fun t ht hW => ⟨⟨r_8, (), rfl, ⟨(by omega), (by have e9 := hx_10; rw [dG_er] at e9; rw [e9]; unfold erF; (repeat (first | rw [if_pos (by omega)] | rw [if_neg (by omega)])); (try (congr 1; omega)))⟩, trivial⟩, hS.F ht⟩) hS.2.2 dX1_earningDays_35
  · have dc_6 := c_eq (a := r_3.toInt) (b := 2) rfl (by decide) c_6
    refine lv_aload_n hx hb dX1_earningDays_14 rfl (lv_at hl 1 rfl) ?_
    refine va_get (D := (dC, dI)) (ci := 1) (v := .ref avo) (C := RX1) (T := TX1) (N := 18) hx hb hts in_wsX1_earningDays_X1 hown hK hP q_1 hq_1 rfl 1 (by decide) (hts (.fieldLink RX1 33 "ShipOffice$Agreement" "voyage" "LShipOffice$Voyage;") iw_X1_earningDays_1) (fun _ h9 => h9) (o_rd fv3o) dX1_earningDays_15 ?_
    refine lv_iload_n hx hb dX1_earningDays_18 rfl (lv_at hl 2 rfl) ?_
    refine lv_iload_n hx hb dX1_earningDays_19 rfl (lv_at hl 3 rfl) ?_
    have hFc : ∀ q, va_A [] H.size q → A q := pu_free hS hA
    obtain ⟨q_11, hq_11⟩ := og (cq := cq) tavo.1 (oE_9 tavo.2)
    refine va_calli (va_runV (As := [.int x1, .int x2]) (rest := []) ⟨hx, hb, hml, hown, hts⟩ (c_X9_lastHeard_c l dC dI H.size cq Z gI avo tavo x1 x2 h0 th v fa hR ((fa 21 a).toNatClampNeg) lavo eavo (by omega)) (cwV 2 hts gX1_earningDays_X9_lastHeard rfl rfl rfl (by decide +kernel) ⟨(Nat.le_of_ble_eq_true rfl), (Nat.le_of_ble_eq_true rfl)⟩) (pr_V (r := (RX9, TX9, 10)) hP hK hD q_11 9 rfl hq_11) rfl rfl hl.1 rfl (lv_room (Nat.le_of_ble_eq_true rfl)) dX1_earningDays_20 ⟨(Nat.le_of_ble_eq_true rfl), (Nat.le_of_ble_eq_true rfl)⟩) hS (fun q _ h => hFc q h) hFc (fun r_13 u t H locs ht hvm w_12 hB hz1 hk1 hS => ?_)
    have hP := pu_keep hP hk1
    clear hk1 hz1 hvm hB ht hFc
    obtain ⟨hb_14, hx_15⟩ := w_12
    have hlh9 := hx_15
    rw [navo] at hlh9
    refine lv_istore (lv' := [(4, .int r_13), (0, .ref o), (1, .int x1), (2, .int x2), (3, .ref a3)]) hx hb dX1_earningDays_23 hl (by decide) rfl (fun ls hl => ?_)
    refine lv_aload_n hx hb dX1_earningDays_25 rfl (lv_at hl 1 rfl) ?_
    refine lv_bipush (v := 7) hx hb dX1_earningDays_26 (by decide) ?_
    refine lv_iload hx hb dX1_earningDays_28 (lv_at hl 0 rfl) ?_
    refine lv_iload_n hx hb dX1_earningDays_30 rfl (lv_at hl 3 rfl) ?_
    refine lv_aload_n hx hb dX1_earningDays_31 rfl (lv_at hl 4 rfl) ?_
    have hFc : ∀ q, va_A [] H.size q → A q := pu_free hS hA
    refine va_calli (va_runV (As := [.int 7, .int r_13, .int x2, .ref a3]) (rest := []) ⟨hx, hb, hml, hown, hts⟩ (c_X1_daysIn_c l dC dI H.size cq Z gI o to 7 r_13 x2 a3 ta3 h0 th v fa hR a ha ea hLr (by first | exact Or.inl (by decide) | exact Or.inr (by decide) | omega) (by omega)) (cwV 4 hts gX1_earningDays_X1_daysIn rfl rfl rfl (by decide +kernel) ⟨(Nat.le_of_ble_eq_true rfl), (Nat.le_of_ble_eq_true rfl)⟩) (pr_V (r := (RX1, TX1, 18)) hP hK hD q_1 1 rfl hq_1) rfl rfl hl.1 rfl (lv_room (Nat.le_of_ble_eq_true rfl)) dX1_earningDays_32 ⟨(Nat.le_of_ble_eq_true rfl), (Nat.le_of_ble_eq_true rfl)⟩) hS (fun q _ h => hFc q h) hFc (fun r_17 u t H locs ht hvm w_16 hB hz1 hk1 hS => ?_)
    have hP := pu_keep hP hk1
    clear hk1 hz1 hvm hB ht hFc
    obtain ⟨hb_18, hx_19⟩ := w_16
    exact W.iret (v := r_17) hx hb hr (fun t ht hW => ⟨⟨r_17, (), rfl, ⟨(by omega), (by have e9 := hx_19; rw [dG_er] at e9; rw [e9]; unfold erF; (repeat (first | rw [if_pos (by omega)] | rw [if_neg (by omega)])); (try (congr 1; omega)))⟩, trivial⟩, hS.F ht⟩) hS.2.2 dX1_earningDays_35
set_option maxHeartbeats 4000000 in
set_option maxRecDepth 100000 in
theorem c_X10_earns_c (l : Launch) (dC : Nat → ClassId) (dI : Nat → Nat → Nat) (sz : Nat) (cq : Nat → ClassId) (Z : oS) (gI : oInv Z) (o : Nat) (to : oty Z o 10) (x1 : Int32) (x2 : Int32) (x3 : Int32) (v : Nat → Int32) (fa : Nat → Nat → Int32) (hR : RC Z o v fa) : Met l yX10_earns wsX10_earns ({ frames := 4, cells := 0, slots := 0, locals := 103 }) (va_Pc [.ref o, .int x1, .int x2, .int x3] (pcW (dC, dI) (oT cq) (oW cq Z) sz)) (va_Qi (fun (r : Int32) (u : oS) => oInv u ∧ oX [2107] Z u ∧ (aSt (v 43).toInt (v 38).toInt x1.toInt x2.toInt x3.toInt (erF v fa x1.toNatClampNeg x2.toInt x3.toInt) r.toInt ∧ rQo Z o u r (bSt (v 43).toInt (v 38).toInt x1.toInt x2.toInt x3.toInt))) (fun u t => va_P (dC, dI) vwCl (oW cq u) t.heap ∧ va_K (dC, dI) vwCl (oT cq) t ∧ va_D (va_A (oW cq Z) sz) (oW cq u)) (va_A (oW cq Z) sz)) 0 0 (va_A (oW cq Z) sz) := by
  refine Met.ofW (cc := cX10_earns) (maxL := 6) (ret := (some .int)) (by decide) rfl ?_
  intro p e s m args below meth c s₁ B hml hv
  obtain ⟨rfl, hsz, hP, hK, hD0⟩ := hv
  have hx := B.exec
  have hb := B.bytes
  have hr := B.returns
  have hts := atoms_spec (ws := wsX10_earns) B.pre
  have hown : s.vm.findClass RX10 = some m.cls := findClass_of_methodNamed B.named
  have hlocks := B.notSynchronized
  subst hsz
  have hD := hD0.self (sz := s.heap.size)
  generalize hAe : va_A (oW cq Z) s.heap.size = A at hD ⊢
  have hA : ∀ q : Nat, s.heap.size ≤ q → A q := fun q h => by rw [← hAe]; exact Or.inr h
  have hS : va_S A s.heap s.heap [] := va_S.rf
  have hP : va_P (dC, dI) vwCl (oW cq Z) s.heap := hP
  have hl := lv_entry ([.ref o, .int x1, .int x2, .int x3]) (n := 6) (Nat.le_of_ble_eq_true rfl)
  rw [lg_entry_eq]
  generalize (lg_sl ([.ref o, .int x1, .int x2, .int x3]) ++ List.replicate (6 - (lg_sl ([.ref o, .int x1, .int x2, .int x3])).length) Slot.unset).toArray = ls at hl ⊢
  have hl : lv_has ls 6 [(0, .ref o), (1, .int x1), (2, .int x2), (3, .int x3)] := hl
  obtain ⟨fn0, fn1, fn2, fn3, fn4⟩ := RC.n hR
  have fb38 : 0 ≤ (v 38).toInt ∧ (v 38).toInt ≤ 3000 := RC.V hR 38
  have fb39 : 0 ≤ (v 39).toInt ∧ (v 39).toInt ≤ 40 := RC.V hR 39
  have fb40 : 0 ≤ (v 40).toInt ∧ (v 40).toInt ≤ 20 := RC.V hR 40
  have fb43 : 0 ≤ (v 43).toInt ∧ (v 43).toInt ≤ 60 := RC.V hR 43
  have fb41 : 0 ≤ (v 41).toInt ∧ (v 41).toInt ≤ 200 := RC.V hR 41
  obtain ⟨lw, hlw0⟩ := oInv.nn (i := 8) gI to rfl
  have tlw : oty Z lw 5 := oInv.rd gI to.2 hlw0 rfl rfl
  have hLr : rLw Z lw v fa := by have q := RC.l hR; rw [oQ_e hlw0] at q; exact q
  refine lv_aload_n hx hb dX10_earns_0 rfl (lv_at hl 0 rfl) ?_
  refine lv_iload_n hx hb dX10_earns_1 rfl (lv_at hl 1 rfl) ?_
  have hFc : ∀ q, va_A [] s.heap.size q → A q := pu_free hS hA
  obtain ⟨q_1, hq_1⟩ := og (cq := cq) to.1 (oE_10 to.2)
  refine va_callq (va_runV (As := [.int x1]) (rest := []) ⟨hx, hb, hml, hown, hts⟩ (c_X10_agreementAt_c l dC dI s.heap.size cq Z gI o to x1 v fa hR) (cwV 1 hts gX10_earns_X10_agreementAt rfl rfl rfl (by decide +kernel) ⟨(Nat.le_of_ble_eq_true rfl), (Nat.le_of_ble_eq_true rfl)⟩) (pr_V (r := (RX10, TX10, 16)) hP hK hD q_1 10 rfl hq_1) rfl rfl hl.1 rfl (lv_room (Nat.le_of_ble_eq_true rfl)) dX10_earns_2 ⟨(Nat.le_of_ble_eq_true rfl), (Nat.le_of_ble_eq_true rfl)⟩) hS (fun q _ h => hFc q h) hFc (fun r_3 u t H locs ht hvm w_2 hB hz1 hk1 hS => ?_)
  have hP := pu_keep hP hk1
  clear hk1 hz1 hvm hB ht hFc
  obtain ⟨hk_4, hx_5⟩ := w_2
  rcases r_3 with _ | b_6
  · refine W.eq (g2 := F0 m 5 ls [.null]) rfl ?_
    have hnr_3 := atF_n hx_5
    refine lv_astoreN (lv' := [(4, .null), (0, .ref o), (1, .int x1), (2, .int x2), (3, .int x3)]) hx hb dX10_earns_5 hl (by decide) rfl (fun ls hl => ?_)
    refine lv_aloadN hx hb dX10_earns_7 (lv_at hl 0 rfl) ?_
    refine lv_ifnonnullN hx hb dX10_earns_9 ?_
    refine lv_aload_n hx hb dX10_earns_12 rfl (lv_at hl 1 rfl) ?_
    refine lv_iconst (v := (-1)) hx hb dX10_earns_13 (by decide) ?_
    have hFc := o_free hD hS hA
    refine va_calli (va_runV (As := [.int (-1)]) (rest := []) ⟨hx, hb, hml, hown, hts⟩ (c_X10_refuse_c l dC dI H.size cq Z gI o to (-1) (by decide)) (cwV 1 hts gX10_earns_X10_refuse rfl rfl rfl (by decide +kernel) ⟨(Nat.le_of_ble_eq_true rfl), (Nat.le_of_ble_eq_true rfl)⟩) (pr_V (r := (RX10, TX10, 16)) hP hK hD q_1 10 rfl hq_1) rfl rfl hl.1 rfl (lv_room (Nat.le_of_ble_eq_true rfl)) dX10_earns_14 ⟨(Nat.le_of_ble_eq_true rfl), (Nat.le_of_ble_eq_true rfl)⟩) hS (fun q _ h => hFc q h) hFc (fun r_8 u t H locs ht hvm w_7 hB hz1 hk1 hS => ?_)
    obtain ⟨S_9, rfl⟩ : ∃ z, z = u := ⟨_, rfl⟩
    obtain ⟨hP1, hK1, hD1⟩ := hB
    rw [ht] at hP1
    have hP : va_P (dC, dI) vwCl (oW cq S_9) H := hP1
    have hD : va_D A (oW cq S_9) := hD1.weaken (fun _ _ _ h => hFc _ h)
    clear hP1 hK1 hD1 hk1 hz1 hvm ht hFc
    obtain ⟨hIS_9, XS_9, hb_10, hx_11⟩ := w_7
    have X_12 : oX [2107] Z S_9 := oX.st oX.rf XS_9 (by decide)
    have g_13 : (oI S_9 o 0).toInt = (oI Z o 0).toInt := by rw [oX.i XS_9 to (by decide)]
    have pk_14 : oP S_9 o 8 = some lw := by rw [oX.p XS_9 to (by decide)]; exact hlw0
    have rf_15 : r_8.toInt = -1 := by rw [hx_11.1]; decide
    exact W.iret (v := r_8) hx hb hr (fun t ht hW => ⟨⟨r_8, S_9, rfl, ⟨hIS_9, X_12, ⟨by have kc0 : (0 : Int32).toInt = 0 := (by decide); have kc1 : (1 : Int32).toInt = 1 := (by decide); have kc2 : (2 : Int32).toInt = 2 := (by decide); unfold aSt; omega, Or.inl ⟨by unfold bSt; omega, by rw [hx_11.1]; exact hx_11.2⟩⟩⟩, ⟨by rw [ht]; exact hP, va_K.moved hW.alike hK, hD⟩⟩, hS.F ht⟩) hS.2.2 dX10_earns_17
  · refine W.eq (g2 := F0 m 5 ls [.ref b_6]) rfl ?_
    have tb_6 : oty Z b_6 1 := hk_4 b_6 rfl
    obtain ⟨hjb_6, ejb_6⟩ := atF_s hx_5
    have ljb_6 := ni_lt hjb_6.1 hjb_6.2
    have njb_6 := tn_i hjb_6.1
    have fAb_6 := RC.a hR ljb_6
    rw [← ejb_6] at fAb_6
    obtain ⟨⟨fm1b_6, fm2b_6, fm3b_6⟩, ⟨fv1b_6, fv2b_6, fv3b_6⟩, fsib_6, fppb_6, fwgb_6, frkb_6, fofb_6, fdeb_6, fchb_6⟩ := fAb_6
    have fBb_6 : 0 ≤ (fa 25 x1.toNatClampNeg).toInt ∧ (fa 25 x1.toNatClampNeg).toInt ≤ 3000 := RC.A hR 25 _
    have lamb_6 : (fa 20 x1.toNatClampNeg).toNatClampNeg < (v 39).toNatClampNeg := ni_lt fm1b_6 fm2b_6
    have namb_6 : (((fa 20 x1.toNatClampNeg).toNatClampNeg : Nat) : Int) = (fa 20 x1.toNatClampNeg).toInt := tn_i fm1b_6
    obtain ⟨amb_6, eamb_6⟩ : ∃ z, z = mnA Z o (fa 20 x1.toNatClampNeg).toNatClampNeg := ⟨_, rfl⟩
    rw [← eamb_6] at fm3b_6
    have tamb_6 : oty Z amb_6 6 := by rw [eamb_6]; exact (RC.tm hR gI to lamb_6).2
    have fMamb_6 := RC.m hR lamb_6
    rw [← eamb_6] at fMamb_6
    obtain ⟨fz0amb_6, fz1amb_6, fz2amb_6, fz3amb_6⟩ := fMamb_6
    rw [namb_6] at fz0amb_6
    have lavb_6 : (fa 21 x1.toNatClampNeg).toNatClampNeg < (v 40).toNatClampNeg := ni_lt fv1b_6 fv2b_6
    have navb_6 : (((fa 21 x1.toNatClampNeg).toNatClampNeg : Nat) : Int) = (fa 21 x1.toNatClampNeg).toInt := tn_i fv1b_6
    obtain ⟨avb_6, eavb_6⟩ : ∃ z, z = voA Z o (fa 21 x1.toNatClampNeg).toNatClampNeg := ⟨_, rfl⟩
    rw [← eavb_6] at fv3b_6
    have tavb_6 : oty Z avb_6 9 := by rw [eavb_6]; exact (RC.tv hR gI to lavb_6).2
    have fVavb_6 := RC.vo hR lavb_6
    rw [← eavb_6] at fVavb_6
    obtain ⟨fy0avb_6, fy1avb_6, fy2avb_6, fy3avb_6, fy4avb_6, fySavb_6, fyLavb_6, fyhavb_6⟩ := fVavb_6
    have fBavb_6 : 0 ≤ (fa 7 ((fa 21 x1.toNatClampNeg).toNatClampNeg)).toInt ∧ (fa 7 ((fa 21 x1.toNatClampNeg).toNatClampNeg)).toInt ≤ 3000 := RC.A hR 7 _
    have fSavb_6 := onc_i fySavb_6
    have fLavb_6 := onc_i fyLavb_6
    rw [navb_6] at fy0avb_6 fSavb_6 fLavb_6
    refine lv_astore (lv' := [(4, .ref b_6), (0, .ref o), (1, .int x1), (2, .int x2), (3, .int x3)]) hx hb dX10_earns_5 hl (by decide) rfl (fun ls hl => ?_)
    refine lv_aload hx hb dX10_earns_7 (lv_at hl 0 rfl) ?_
    refine lv_ifnonnull (tgt := 18) hx hb dX10_earns_9 (by decide) ?_
    refine lv_aload_n hx hb dX10_earns_18 rfl (lv_at hl 1 rfl) ?_
    refine lv_iload_n hx hb dX10_earns_19 rfl (lv_at hl 3 rfl) ?_
    refine lv_iload_n hx hb dX10_earns_20 rfl (lv_at hl 4 rfl) ?_
    have hFc : ∀ q, va_A [] H.size q → A q := pu_free hS hA
    refine va_calli (va_runV (As := [.int x2, .int x3]) (rest := []) ⟨hx, hb, hml, hown, hts⟩ (c_X10_askRefusal_c l dC dI H.size cq Z gI o to x2 x3) (cwV 2 hts gX10_earns_X10_askRefusal rfl rfl rfl (by decide +kernel) ⟨(Nat.le_of_ble_eq_true rfl), (Nat.le_of_ble_eq_true rfl)⟩) (pr_V (r := (RX10, TX10, 16)) hP hK hD q_1 10 rfl hq_1) rfl rfl hl.1 rfl (lv_room (Nat.le_of_ble_eq_true rfl)) dX10_earns_21 ⟨(Nat.le_of_ble_eq_true rfl), (Nat.le_of_ble_eq_true rfl)⟩) hS (fun q _ h => hFc q h) hFc (fun r_17 u t H locs ht hvm w_16 hB hz1 hk1 hS => ?_)
    have hP := pu_keep hP hk1
    clear hk1 hz1 hvm hB ht hFc
    obtain ⟨hb_18, hx_19⟩ := w_16
    refine lv_istore (lv' := [(5, .int r_17), (4, .ref b_6), (0, .ref o), (1, .int x1), (2, .int x2), (3, .int x3)]) hx hb dX10_earns_24 hl (by decide) rfl (fun ls hl => ?_)
    refine lv_iload hx hb dX10_earns_26 (lv_at hl 0 rfl) ?_
    refine lv_if_eq (tgt := 38) hx hb dX10_earns_28 (by decide) (fun c_20 => ?_) (fun c_20 => ?_)
    · have dc_20 := c_eq (a := r_17.toInt) (b := 0) rfl (by decide) c_20
      refine lv_aload hx hb dX10_earns_38 (lv_at hl 1 rfl) ?_
      refine lv_iload_n hx hb dX10_earns_40 rfl (lv_at hl 4 rfl) ?_
      refine lv_iload_n hx hb dX10_earns_41 rfl (lv_at hl 5 rfl) ?_
      refine lv_aload_n hx hb dX10_earns_42 rfl (lv_at hl 2 rfl) ?_
      refine va_get (D := (dC, dI)) (ci := 10) (v := .ref lw) (C := RX10) (T := TX10) (N := 16) hx hb hts in_wsX10_earns_X10 hown hK hP q_1 hq_1 rfl 8 (by decide) (hts (.fieldLink RX10 30 "ShipOffice" "law" "LShipOffice$Law;") iw_X10_earns_1) (fun _ h9 => h9) (o_rd hlw0) dX10_earns_43 ?_
      have hFc : ∀ q, va_A [] H.size q → A q := pu_free hS hA
      obtain ⟨q_21, hq_21⟩ := og (cq := cq) tb_6.1 (oE_1 tb_6.2)
      refine va_calli (va_runV (As := [.int x2, .int x3, .ref lw]) (rest := []) ⟨hx, hb, hml, hown, hts⟩ (c_X1_earningDays_c l dC dI H.size cq Z gI b_6 tb_6 x2 (by omega) x3 (by omega) lw tlw o to v fa hR x1.toNatClampNeg ljb_6 ejb_6 hLr (by omega)) (cwV 3 hts gX10_earns_X1_earningDays rfl rfl rfl (by decide +kernel) ⟨(Nat.le_of_ble_eq_true rfl), (Nat.le_of_ble_eq_true rfl)⟩) (pr_V (r := (RX1, TX1, 18)) hP hK hD q_21 1 rfl hq_21) rfl rfl hl.1 rfl (lv_room (Nat.le_of_ble_eq_true rfl)) dX10_earns_46 ⟨(Nat.le_of_ble_eq_true rfl), (Nat.le_of_ble_eq_true rfl)⟩) hS (fun q _ h => hFc q h) hFc (fun r_23 u t H locs ht hvm w_22 hB hz1 hk1 hS => ?_)
      have hP := pu_keep hP hk1
      clear hk1 hz1 hvm hB ht hFc
      obtain ⟨hb_24, hx_25⟩ := w_22
      exact W.iret (v := r_23) hx hb hr (fun t ht hW => ⟨⟨r_23, Z, rfl, ⟨gI, oX.rf, ⟨by have kc0 : (0 : Int32).toInt = 0 := (by decide); have kc1 : (1 : Int32).toInt = 1 := (by decide); have kc2 : (2 : Int32).toInt = 2 := (by decide); unfold aSt; omega, Or.inr ⟨by unfold bSt; omega, rfl⟩⟩⟩, ⟨by rw [ht]; exact hP, va_K.moved hW.alike hK, hD⟩⟩, hS.F ht⟩) hS.2.2 dX10_earns_49
    · have dc_20 := c_ne (a := r_17.toInt) (b := 0) rfl (by decide) c_20
      refine lv_aload_n hx hb dX10_earns_31 rfl (lv_at hl 2 rfl) ?_
      refine lv_iload hx hb dX10_earns_32 (lv_at hl 0 rfl) ?_
      have hFc := o_free hD hS hA
      refine va_calli (va_runV (As := [.int r_17]) (rest := []) ⟨hx, hb, hml, hown, hts⟩ (c_X10_refuse_c l dC dI H.size cq Z gI o to r_17 (by omega)) (cwV 1 hts gX10_earns_X10_refuse rfl rfl rfl (by decide +kernel) ⟨(Nat.le_of_ble_eq_true rfl), (Nat.le_of_ble_eq_true rfl)⟩) (pr_V (r := (RX10, TX10, 16)) hP hK hD q_1 10 rfl hq_1) rfl rfl hl.1 rfl (lv_room (Nat.le_of_ble_eq_true rfl)) dX10_earns_34 ⟨(Nat.le_of_ble_eq_true rfl), (Nat.le_of_ble_eq_true rfl)⟩) hS (fun q _ h => hFc q h) hFc (fun r_27 u t H locs ht hvm w_26 hB hz1 hk1 hS => ?_)
      obtain ⟨S_28, rfl⟩ : ∃ z, z = u := ⟨_, rfl⟩
      obtain ⟨hP1, hK1, hD1⟩ := hB
      rw [ht] at hP1
      have hP : va_P (dC, dI) vwCl (oW cq S_28) H := hP1
      have hD : va_D A (oW cq S_28) := hD1.weaken (fun _ _ _ h => hFc _ h)
      clear hP1 hK1 hD1 hk1 hz1 hvm ht hFc
      obtain ⟨hIS_28, XS_28, hb_29, hx_30⟩ := w_26
      have X_31 : oX [2107] Z S_28 := oX.st oX.rf XS_28 (by decide)
      have g_32 : (oI S_28 o 0).toInt = (oI Z o 0).toInt := by rw [oX.i XS_28 to (by decide)]
      have pk_33 : oP S_28 o 8 = some lw := by rw [oX.p XS_28 to (by decide)]; exact hlw0
      have pk_34 : oP S_28 b_6 0 = some amb_6 := by rw [oX.p XS_28 tb_6 (by decide)]; exact fm3b_6
      have pk_35 : oP S_28 b_6 1 = some avb_6 := by rw [oX.p XS_28 tb_6 (by decide)]; exact fv3b_6
      have rf_36 : r_27.toInt = r_17.toInt := by rw [hx_30.1]
      exact W.iret (v := r_27) hx hb hr (fun t ht hW => ⟨⟨r_27, S_28, rfl, ⟨hIS_28, X_31, ⟨by have kc0 : (0 : Int32).toInt = 0 := (by decide); have kc1 : (1 : Int32).toInt = 1 := (by decide); have kc2 : (2 : Int32).toInt = 2 := (by decide); unfold aSt; omega, Or.inl ⟨by unfold bSt; omega, by rw [hx_30.1]; exact hx_30.2⟩⟩⟩, ⟨by rw [ht]; exact hP, va_K.moved hW.alike hK, hD⟩⟩, hS.F ht⟩) hS.2.2 dX10_earns_37
