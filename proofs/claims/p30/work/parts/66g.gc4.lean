


set_option maxHeartbeats 4000000 in
set_option maxRecDepth 100000 in
theorem c_X10_agreementOf_c (l : Launch) (dC : Nat → ClassId) (dI : Nat → Nat → Nat) (sz : Nat) (cq : Nat → ClassId) (Z : oS) (gI : oInv Z) (o : Nat) (to : oty Z o 10) (x1 : Int32) (x2 : Int32) (v : Nat → Int32) (fa : Nat → Nat → Int32) (hR : RC Z o v fa) (hE : RX Z o v fa) : Met l yX10_agreementOf wsX10_agreementOf ({ frames := 1, cells := 0, slots := 0, locals := 21 }) (va_Pc [.ref o, .int x1, .int x2] (pcW (dC, dI) (oT cq) (oW cq Z) sz)) (va_Qi (fun (r : Int32) (u : oS) => oInv u ∧ oX [2107] Z u ∧ (aAo (v 43).toInt x1.toInt (aoV x2.toInt (fa 20 x1.toNatClampNeg).toInt (fa 21 x1.toNatClampNeg).toInt (fa 22 x1.toNatClampNeg).toInt (fa 23 x1.toNatClampNeg).toInt (fa 25 x1.toNatClampNeg).toInt (fa 26 x1.toNatClampNeg).toInt (fa 27 x1.toNatClampNeg).toInt (fa 28 x1.toNatClampNeg).toInt (fa 29 x1.toNatClampNeg).toInt (gonI v fa x1.toNatClampNeg)) r.toInt ∧ rQo Z o u r (bAo (v 43).toInt x1.toInt x2.toInt))) (fun u t => va_P (dC, dI) vwCl (oW cq u) t.heap ∧ va_K (dC, dI) vwCl (oT cq) t ∧ va_D (va_A (oW cq Z) sz) (oW cq u)) (va_A (oW cq Z) sz)) 0 0 (va_A (oW cq Z) sz) := by
  refine Met.ofW (cc := cX10_agreementOf) (maxL := 4) (ret := (some .int)) (by decide) rfl ?_
  intro p e s m args below meth c s₁ B hml hv
  obtain ⟨rfl, hsz, hP, hK, hD0⟩ := hv
  have hx := B.exec
  have hb := B.bytes
  have hr := B.returns
  have hts := atoms_spec (ws := wsX10_agreementOf) B.pre
  have hown : s.vm.findClass RX10 = some m.cls := findClass_of_methodNamed B.named
  have hlocks := B.notSynchronized
  subst hsz
  have hD := hD0.self (sz := s.heap.size)
  generalize hAe : va_A (oW cq Z) s.heap.size = A at hD ⊢
  have hA : ∀ q : Nat, s.heap.size ≤ q → A q := fun q h => by rw [← hAe]; exact Or.inr h
  have hS : va_S A s.heap s.heap [] := va_S.rf
  have hP : va_P (dC, dI) vwCl (oW cq Z) s.heap := hP
  have hl := lv_entry ([.ref o, .int x1, .int x2]) (n := 4) (Nat.le_of_ble_eq_true rfl)
  rw [lg_entry_eq]
  generalize (lg_sl ([.ref o, .int x1, .int x2]) ++ List.replicate (4 - (lg_sl ([.ref o, .int x1, .int x2])).length) Slot.unset).toArray = ls at hl ⊢
  have hl : lv_has ls 4 [(0, .ref o), (1, .int x1), (2, .int x2)] := hl
  obtain ⟨fn0, fn1, fn2, fn3, fn4⟩ := RC.n hR
  have fb38 : 0 ≤ (v 38).toInt ∧ (v 38).toInt ≤ 3000 := RC.V hR 38
  have fb39 : 0 ≤ (v 39).toInt ∧ (v 39).toInt ≤ 40 := RC.V hR 39
  have fb40 : 0 ≤ (v 40).toInt ∧ (v 40).toInt ≤ 20 := RC.V hR 40
  have fb43 : 0 ≤ (v 43).toInt ∧ (v 43).toInt ≤ 60 := RC.V hR 43
  have fb41 : 0 ≤ (v 41).toInt ∧ (v 41).toInt ≤ 200 := RC.V hR 41
  obtain ⟨lw, hlw0⟩ := oInv.nn (i := 8) gI to rfl
  have tlw : oty Z lw 5 := oInv.rd gI to.2 hlw0 rfl rfl
  have hLr : rLw Z lw v fa := by have q := RC.l hR; rw [oQ_e hlw0] at q; exact q
  refine lv_aload_n hx hb dX10_agreementOf_0 rfl (lv_at hl 0 rfl) ?_
  refine lv_iload_n hx hb dX10_agreementOf_1 rfl (lv_at hl 1 rfl) ?_
  have hFc : ∀ q, va_A [] s.heap.size q → A q := pu_free hS hA
  obtain ⟨q_1, hq_1⟩ := og (cq := cq) to.1 (oE_10 to.2)
  refine va_callq (va_runV (As := [.int x1]) (rest := []) ⟨hx, hb, hml, hown, hts⟩ (c_X10_agreementAt_c l dC dI s.heap.size cq Z gI o to x1 v fa hR) (cwV 1 hts gX10_agreementOf_X10_agreementAt rfl rfl rfl (by decide +kernel) ⟨(Nat.le_of_ble_eq_true rfl), (Nat.le_of_ble_eq_true rfl)⟩) (pr_V (r := (RX10, TX10, 16)) hP hK hD q_1 10 rfl hq_1) rfl rfl hl.1 rfl (lv_room (Nat.le_of_ble_eq_true rfl)) dX10_agreementOf_2 ⟨(Nat.le_of_ble_eq_true rfl), (Nat.le_of_ble_eq_true rfl)⟩) hS (fun q _ h => hFc q h) hFc (fun r_3 u t H locs ht hvm w_2 hB hz1 hk1 hS => ?_)
  have hP := pu_keep hP hk1
  clear hk1 hz1 hvm hB ht hFc
  obtain ⟨hk_4, hx_5⟩ := w_2
  rcases r_3 with _ | b_6
  · refine W.eq (g2 := F0 m 5 ls [.null]) rfl ?_
    have hnr_3 := atF_n hx_5
    refine lv_astore_nN (lv' := [(3, .null), (0, .ref o), (1, .int x1), (2, .int x2)]) hx hb dX10_agreementOf_5 rfl hl (by decide) rfl (fun ls hl => ?_)
    refine lv_aload_nN hx hb dX10_agreementOf_6 rfl (lv_at hl 0 rfl) ?_
    refine lv_ifnonnullN hx hb dX10_agreementOf_7 ?_
    refine lv_aload_n hx hb dX10_agreementOf_10 rfl (lv_at hl 1 rfl) ?_
    refine lv_iconst (v := (-1)) hx hb dX10_agreementOf_11 (by decide) ?_
    have hFc := o_free hD hS hA
    refine va_calli (va_runV (As := [.int (-1)]) (rest := []) ⟨hx, hb, hml, hown, hts⟩ (c_X10_refuse_c l dC dI H.size cq Z gI o to (-1) (by decide)) (cwV 1 hts gX10_agreementOf_X10_refuse rfl rfl rfl (by decide +kernel) ⟨(Nat.le_of_ble_eq_true rfl), (Nat.le_of_ble_eq_true rfl)⟩) (pr_V (r := (RX10, TX10, 16)) hP hK hD q_1 10 rfl hq_1) rfl rfl hl.1 rfl (lv_room (Nat.le_of_ble_eq_true rfl)) dX10_agreementOf_12 ⟨(Nat.le_of_ble_eq_true rfl), (Nat.le_of_ble_eq_true rfl)⟩) hS (fun q _ h => hFc q h) hFc (fun r_8 u t H locs ht hvm w_7 hB hz1 hk1 hS => ?_)
    obtain ⟨S_9, rfl⟩ : ∃ z, z = u := ⟨_, rfl⟩
    obtain ⟨hP1, hK1, hD1⟩ := hB
    rw [ht] at hP1
    have hP : va_P (dC, dI) vwCl (oW cq S_9) H := hP1
    have hD : va_D A (oW cq S_9) := hD1.weaken (fun _ _ _ h => hFc _ h)
    clear hP1 hK1 hD1 hk1 hz1 hvm ht hFc
    obtain ⟨hIS_9, XS_9, hb_10, hx_11⟩ := w_7
    have X_12 : oX [2107] Z S_9 := oX.st oX.rf XS_9 (by decide)
    have g_13 : (oI S_9 o 0).toInt = (oI Z o 0).toInt := by rw [oX.i XS_9 to (by decide)]
    have pk_14 : oP S_9 o 8 = some lw := by rw [oX.p XS_9 to (by decide)]; exact hlw0
    have rf_15 : r_8.toInt = -1 := by rw [hx_11.1]; decide
    exact W.iret (v := r_8) hx hb hr (fun t ht hW => ⟨⟨r_8, S_9, rfl, ⟨hIS_9, X_12, ⟨by have kc0 : (0 : Int32).toInt = 0 := (by decide); have kc1 : (1 : Int32).toInt = 1 := (by decide); have kc2 : (2 : Int32).toInt = 2 := (by decide); unfold aAo; omega, Or.inl ⟨by unfold bAo; omega, by rw [hx_11.1]; exact hx_11.2⟩⟩⟩, ⟨by rw [ht]; exact hP, va_K.moved hW.alike hK, hD⟩⟩, hS.F ht⟩) hS.2.2 dX10_agreementOf_15
  · refine W.eq (g2 := F0 m 5 ls [.ref b_6]) rfl ?_
    have tb_6 : oty Z b_6 1 := hk_4 b_6 rfl
    obtain ⟨hjb_6, ejb_6⟩ := atF_s hx_5
    have ljb_6 := ni_lt hjb_6.1 hjb_6.2
    have njb_6 := tn_i hjb_6.1
    have fAb_6 := RC.a hR ljb_6
    rw [← ejb_6] at fAb_6
    obtain ⟨⟨fm1b_6, fm2b_6, fm3b_6⟩, ⟨fv1b_6, fv2b_6, fv3b_6⟩, fsib_6, fppb_6, fwgb_6, frkb_6, fofb_6, fdeb_6, fchb_6⟩ := fAb_6
    have fBb_6 : 0 ≤ (fa 25 x1.toNatClampNeg).toInt ∧ (fa 25 x1.toNatClampNeg).toInt ≤ 3000 := RC.A hR 25 _
    have lamb_6 : (fa 20 x1.toNatClampNeg).toNatClampNeg < (v 39).toNatClampNeg := ni_lt fm1b_6 fm2b_6
    have namb_6 : (((fa 20 x1.toNatClampNeg).toNatClampNeg : Nat) : Int) = (fa 20 x1.toNatClampNeg).toInt := tn_i fm1b_6
    obtain ⟨amb_6, eamb_6⟩ : ∃ z, z = mnA Z o (fa 20 x1.toNatClampNeg).toNatClampNeg := ⟨_, rfl⟩
    rw [← eamb_6] at fm3b_6
    have tamb_6 : oty Z amb_6 6 := by rw [eamb_6]; exact (RC.tm hR gI to lamb_6).2
    have fMamb_6 := RC.m hR lamb_6
    rw [← eamb_6] at fMamb_6
    obtain ⟨fz0amb_6, fz1amb_6, fz2amb_6, fz3amb_6⟩ := fMamb_6
    rw [namb_6] at fz0amb_6
    have lavb_6 : (fa 21 x1.toNatClampNeg).toNatClampNeg < (v 40).toNatClampNeg := ni_lt fv1b_6 fv2b_6
    have navb_6 : (((fa 21 x1.toNatClampNeg).toNatClampNeg : Nat) : Int) = (fa 21 x1.toNatClampNeg).toInt := tn_i fv1b_6
    obtain ⟨avb_6, eavb_6⟩ : ∃ z, z = voA Z o (fa 21 x1.toNatClampNeg).toNatClampNeg := ⟨_, rfl⟩
    rw [← eavb_6] at fv3b_6
    have tavb_6 : oty Z avb_6 9 := by rw [eavb_6]; exact (RC.tv hR gI to lavb_6).2
    have fVavb_6 := RC.vo hR lavb_6
    rw [← eavb_6] at fVavb_6
    obtain ⟨fy0avb_6, fy1avb_6, fy2avb_6, fy3avb_6, fy4avb_6, fySavb_6, fyLavb_6, fyhavb_6⟩ := fVavb_6
    have fBavb_6 : 0 ≤ (fa 7 ((fa 21 x1.toNatClampNeg).toNatClampNeg)).toInt ∧ (fa 7 ((fa 21 x1.toNatClampNeg).toNatClampNeg)).toInt ≤ 3000 := RC.A hR 7 _
    have fSavb_6 := onc_i fySavb_6
    have fLavb_6 := onc_i fyLavb_6
    rw [navb_6] at fy0avb_6 fSavb_6 fLavb_6
    have fEb_6 := hE.1 x1.toNatClampNeg ljb_6
    rw [← ejb_6] at fEb_6
    obtain ⟨⟨fn1b_6, fn2b_6, fn3b_6⟩, fgb_6, ⟨fl1b_6, fl2b_6, fl3b_6⟩, ⟨ff1b_6, ff2b_6⟩, ⟨fs1b_6, fs2b_6, fs3b_6, fs4b_6, fs5b_6⟩⟩ := fEb_6
    unfold rXg at fgb_6
    have fX_16 : 0 ≤ (fa 30 x1.toNatClampNeg).toInt ∧ (fa 30 x1.toNatClampNeg).toInt ≤ 6 := RC.A hR 30 _
    have fX_17 : 0 ≤ (fa 31 x1.toNatClampNeg).toInt ∧ (fa 31 x1.toNatClampNeg).toInt ≤ 20 := RC.A hR 31 _
    refine lv_astore_n (lv' := [(3, .ref b_6), (0, .ref o), (1, .int x1), (2, .int x2)]) hx hb dX10_agreementOf_5 rfl hl (by decide) rfl (fun ls hl => ?_)
    refine lv_aload_n hx hb dX10_agreementOf_6 rfl (lv_at hl 0 rfl) ?_
    refine lv_ifnonnull (tgt := 16) hx hb dX10_agreementOf_7 (by decide) ?_
    refine lv_iload_n hx hb dX10_agreementOf_16 rfl (lv_at hl 3 rfl) ?_
    by_cases q_18 : x2 = 0
    · have kq_18 : x2.toInt = 0 := by rw [q_18]; decide
      refine lv_topi (fun y ey => ?_)
      obtain rfl : y = 0 := ey.trans q_18
      refine lv_tableIn (x := 0) (off := 55) (tgt := 72) hx hb dX10_agreementOf_17 (by decide) (by decide) (by decide) (by decide) ?_
      refine lv_aload_n hx hb dX10_agreementOf_72 rfl (lv_at hl 0 rfl) ?_
      obtain ⟨q_19, hq_19⟩ := og (cq := cq) tb_6.1 (oE_1 tb_6.2)
      refine va_get (D := (dC, dI)) (ci := 1) (v := .ref amb_6) (C := RX1) (T := TX1) (N := 18) hx hb hts in_wsX10_agreementOf_X1 hown hK hP q_19 hq_19 rfl 0 (by decide) (hts (.fieldLink RX10 299 "ShipOffice$Agreement" "man" "LShipOffice$Man;") iw_X10_agreementOf_1) (fun _ h9 => h9) (o_rd fm3b_6) dX10_agreementOf_73 ?_
      obtain ⟨q_20, hq_20⟩ := og (cq := cq) tamb_6.1 (oE_6 tamb_6.2)
      refine va_get (D := (dC, dI)) (ci := 6) (v := .int (oI Z amb_6 0)) (C := RX6) (T := TX6) (N := 6) hx hb hts in_wsX10_agreementOf_X6 hown hK hP q_20 hq_20 rfl 0 (by decide) (hts (.fieldLink RX10 303 "ShipOffice$Man" "number" "I") iw_X10_agreementOf_2) (fun _ h9 => h9) rfl dX10_agreementOf_76 ?_
      refine lv_topi (fun x_21 ex_21 => ?_)
      have gx_21 : x_21.toInt = (oI Z amb_6 0).toInt := iv_to ex_21
      clear ex_21
      exact W.iret (v := x_21) hx hb hr (fun t ht hW => ⟨⟨x_21, Z, rfl, ⟨gI, oX.rf, ⟨by have hgi := gonI_i v fa x1.toNatClampNeg; refine Or.inr ⟨by omega, ?_⟩; unfold aoV; repeat (first | rw [if_pos (by omega)] | rw [if_neg (by omega)]); (try omega), Or.inr ⟨by unfold bAo; omega, rfl⟩⟩⟩, ⟨by rw [ht]; exact hP, va_K.moved hW.alike hK, hD⟩⟩, hS.F ht⟩) hS.2.2 dX10_agreementOf_79
    have n_22 := c_ne (a := x2.toInt) (b := 0) rfl (by decide) q_18
    by_cases q_23 : x2 = 1
    · have kq_23 : x2.toInt = 1 := by rw [q_23]; decide
      refine lv_topi (fun y ey => ?_)
      obtain rfl : y = 1 := ey.trans q_23
      refine lv_tableIn (x := 1) (off := 63) (tgt := 80) hx hb dX10_agreementOf_17 (by decide) (by decide) (by decide) (by decide) ?_
      refine lv_aload_n hx hb dX10_agreementOf_80 rfl (lv_at hl 0 rfl) ?_
      obtain ⟨q_24, hq_24⟩ := og (cq := cq) tb_6.1 (oE_1 tb_6.2)
      refine va_get (D := (dC, dI)) (ci := 1) (v := .ref avb_6) (C := RX1) (T := TX1) (N := 18) hx hb hts in_wsX10_agreementOf_X1 hown hK hP q_24 hq_24 rfl 1 (by decide) (hts (.fieldLink RX10 118 "ShipOffice$Agreement" "voyage" "LShipOffice$Voyage;") iw_X10_agreementOf_3) (fun _ h9 => h9) (o_rd fv3b_6) dX10_agreementOf_81 ?_
      obtain ⟨q_25, hq_25⟩ := og (cq := cq) tavb_6.1 (oE_9 tavb_6.2)
      refine va_get (D := (dC, dI)) (ci := 9) (v := .int (oI Z avb_6 0)) (C := RX9) (T := TX9) (N := 10) hx hb hts in_wsX10_agreementOf_X9 hown hK hP q_25 hq_25 rfl 0 (by decide) (hts (.fieldLink RX10 306 "ShipOffice$Voyage" "number" "I") iw_X10_agreementOf_4) (fun _ h9 => h9) rfl dX10_agreementOf_84 ?_
      refine lv_topi (fun x_26 ex_26 => ?_)
      have gx_26 : x_26.toInt = (oI Z avb_6 0).toInt := iv_to ex_26
      clear ex_26
      exact W.iret (v := x_26) hx hb hr (fun t ht hW => ⟨⟨x_26, Z, rfl, ⟨gI, oX.rf, ⟨by have hgi := gonI_i v fa x1.toNatClampNeg; refine Or.inr ⟨by omega, ?_⟩; unfold aoV; repeat (first | rw [if_pos (by omega)] | rw [if_neg (by omega)]); (try omega), Or.inr ⟨by unfold bAo; omega, rfl⟩⟩⟩, ⟨by rw [ht]; exact hP, va_K.moved hW.alike hK, hD⟩⟩, hS.F ht⟩) hS.2.2 dX10_agreementOf_87
    have n_27 := c_ne (a := x2.toInt) (b := 1) rfl (by decide) q_23
    by_cases q_28 : x2 = 2
    · have kq_28 : x2.toInt = 2 := by rw [q_28]; decide
      refine lv_topi (fun y ey => ?_)
      obtain rfl : y = 2 := ey.trans q_28
      refine lv_tableIn (x := 2) (off := 71) (tgt := 88) hx hb dX10_agreementOf_17 (by decide) (by decide) (by decide) (by decide) ?_
      refine lv_aload_n hx hb dX10_agreementOf_88 rfl (lv_at hl 0 rfl) ?_
      obtain ⟨q_29, hq_29⟩ := og (cq := cq) tb_6.1 (oE_1 tb_6.2)
      refine va_get (D := (dC, dI)) (ci := 1) (v := .int (oI Z b_6 4)) (C := RX1) (T := TX1) (N := 18) hx hb hts in_wsX10_agreementOf_X1 hown hK hP q_29 hq_29 rfl 4 (by decide) (hts (.fieldLink RX10 223 "ShipOffice$Agreement" "wage" "I") iw_X10_agreementOf_5) (fun _ h9 => h9) rfl dX10_agreementOf_89 ?_
      refine lv_topi (fun x_30 ex_30 => ?_)
      have gx_30 : x_30.toInt = (oI Z b_6 4).toInt := iv_to ex_30
      clear ex_30
      exact W.iret (v := x_30) hx hb hr (fun t ht hW => ⟨⟨x_30, Z, rfl, ⟨gI, oX.rf, ⟨by have hgi := gonI_i v fa x1.toNatClampNeg; refine Or.inr ⟨by omega, ?_⟩; unfold aoV; repeat (first | rw [if_pos (by omega)] | rw [if_neg (by omega)]); (try omega), Or.inr ⟨by unfold bAo; omega, rfl⟩⟩⟩, ⟨by rw [ht]; exact hP, va_K.moved hW.alike hK, hD⟩⟩, hS.F ht⟩) hS.2.2 dX10_agreementOf_92
    have n_31 := c_ne (a := x2.toInt) (b := 2) rfl (by decide) q_28
    by_cases q_32 : x2 = 3
    · have kq_32 : x2.toInt = 3 := by rw [q_32]; decide
      refine lv_topi (fun y ey => ?_)
      obtain rfl : y = 3 := ey.trans q_32
      refine lv_tableIn (x := 3) (off := 76) (tgt := 93) hx hb dX10_agreementOf_17 (by decide) (by decide) (by decide) (by decide) ?_
      refine lv_aload_n hx hb dX10_agreementOf_93 rfl (lv_at hl 0 rfl) ?_
      obtain ⟨q_33, hq_33⟩ := og (cq := cq) tb_6.1 (oE_1 tb_6.2)
      refine va_get (D := (dC, dI)) (ci := 1) (v := .int (oI Z b_6 5)) (C := RX1) (T := TX1) (N := 18) hx hb hts in_wsX10_agreementOf_X1 hown hK hP q_33 hq_33 rfl 5 (by decide) (hts (.fieldLink RX10 226 "ShipOffice$Agreement" "rank" "I") iw_X10_agreementOf_6) (fun _ h9 => h9) rfl dX10_agreementOf_94 ?_
      refine lv_topi (fun x_34 ex_34 => ?_)
      have gx_34 : x_34.toInt = (oI Z b_6 5).toInt := iv_to ex_34
      clear ex_34
      exact W.iret (v := x_34) hx hb hr (fun t ht hW => ⟨⟨x_34, Z, rfl, ⟨gI, oX.rf, ⟨by have hgi := gonI_i v fa x1.toNatClampNeg; refine Or.inr ⟨by omega, ?_⟩; unfold aoV; repeat (first | rw [if_pos (by omega)] | rw [if_neg (by omega)]); (try omega), Or.inr ⟨by unfold bAo; omega, rfl⟩⟩⟩, ⟨by rw [ht]; exact hP, va_K.moved hW.alike hK, hD⟩⟩, hS.F ht⟩) hS.2.2 dX10_agreementOf_97
    have n_35 := c_ne (a := x2.toInt) (b := 3) rfl (by decide) q_32
    by_cases q_36 : x2 = 4
    · have kq_36 : x2.toInt = 4 := by rw [q_36]; decide
      refine lv_topi (fun y ey => ?_)
      obtain rfl : y = 4 := ey.trans q_36
      refine lv_tableIn (x := 4) (off := 81) (tgt := 98) hx hb dX10_agreementOf_17 (by decide) (by decide) (by decide) (by decide) ?_
      refine lv_aload_n hx hb dX10_agreementOf_98 rfl (lv_at hl 0 rfl) ?_
      obtain ⟨q_37, hq_37⟩ := og (cq := cq) tb_6.1 (oE_1 tb_6.2)
      refine va_get (D := (dC, dI)) (ci := 1) (v := .int (oI Z b_6 2)) (C := RX1) (T := TX1) (N := 18) hx hb hts in_wsX10_agreementOf_X1 hown hK hP q_37 hq_37 rfl 2 (by decide) (hts (.fieldLink RX10 255 "ShipOffice$Agreement" "signedOn" "I") iw_X10_agreementOf_7) (fun _ h9 => h9) rfl dX10_agreementOf_99 ?_
      refine lv_topi (fun x_38 ex_38 => ?_)
      have gx_38 : x_38.toInt = (oI Z b_6 2).toInt := iv_to ex_38
      clear ex_38
      exact W.iret (v := x_38) hx hb hr (fun t ht hW => ⟨⟨x_38, Z, rfl, ⟨gI, oX.rf, ⟨by have hgi := gonI_i v fa x1.toNatClampNeg; refine Or.inr ⟨by omega, ?_⟩; unfold aoV; repeat (first | rw [if_pos (by omega)] | rw [if_neg (by omega)]); (try omega), Or.inr ⟨by unfold bAo; omega, rfl⟩⟩⟩, ⟨by rw [ht]; exact hP, va_K.moved hW.alike hK, hD⟩⟩, hS.F ht⟩) hS.2.2 dX10_agreementOf_102
    have n_39 := c_ne (a := x2.toInt) (b := 4) rfl (by decide) q_36
    by_cases q_40 : x2 = 5
    · have kq_40 : x2.toInt = 5 := by rw [q_40]; decide
      refine lv_topi (fun y ey => ?_)
      obtain rfl : y = 5 := ey.trans q_40
      refine lv_tableIn (x := 5) (off := 86) (tgt := 103) hx hb dX10_agreementOf_17 (by decide) (by decide) (by decide) (by decide) ?_
      refine lv_aload_n hx hb dX10_agreementOf_103 rfl (lv_at hl 0 rfl) ?_
      obtain ⟨q_41, hq_41⟩ := og (cq := cq) tb_6.1 (oE_1 tb_6.2)
      refine va_get (D := (dC, dI)) (ci := 1) (v := .int (oI Z b_6 6)) (C := RX1) (T := TX1) (N := 18) hx hb hts in_wsX10_agreementOf_X1 hown hK hP q_41 hq_41 rfl 6 (by decide) (hts (.fieldLink RX10 126 "ShipOffice$Agreement" "offDay" "I") iw_X10_agreementOf_8) (fun _ h9 => h9) rfl dX10_agreementOf_104 ?_
      refine lv_topi (fun x_42 ex_42 => ?_)
      have gx_42 : x_42.toInt = (oI Z b_6 6).toInt := iv_to ex_42
      clear ex_42
      refine lv_ldc (v := 1000000) hx hb hown (hts (.constant RX10 114 (1000000)) (by decide +kernel)) dX10_agreementOf_107 ?_
      refine lv_icmp_ne (tgt := 117) hx hb dX10_agreementOf_109 (by decide) (fun c_43 => ?_) (fun c_43 => ?_)
      · have dc_43 := c_ne (a := x_42.toInt) (b := 1000000) rfl (by decide) c_43
        refine lv_aload_n hx hb dX10_agreementOf_117 rfl (lv_at hl 0 rfl) ?_
        refine va_get (D := (dC, dI)) (ci := 1) (v := .int (oI Z b_6 6)) (C := RX1) (T := TX1) (N := 18) hx hb hts in_wsX10_agreementOf_X1 hown hK hP q_41 hq_41 rfl 6 (by decide) (hts (.fieldLink RX10 126 "ShipOffice$Agreement" "offDay" "I") iw_X10_agreementOf_8) (fun _ h9 => h9) rfl dX10_agreementOf_118 ?_
        refine lv_topi (fun x_44 ex_44 => ?_)
        have gx_44 : x_44.toInt = (oI Z b_6 6).toInt := iv_to ex_44
        clear ex_44
        exact W.iret (v := x_44) hx hb hr (fun t ht hW => ⟨⟨x_44, Z, rfl, ⟨gI, oX.rf, ⟨by have hgi := gonI_i v fa x1.toNatClampNeg; refine Or.inr ⟨by omega, ?_⟩; unfold aoV; repeat (first | rw [if_pos (by omega)] | rw [if_neg (by omega)]); (try omega), Or.inr ⟨by unfold bAo; omega, rfl⟩⟩⟩, ⟨by rw [ht]; exact hP, va_K.moved hW.alike hK, hD⟩⟩, hS.F ht⟩) hS.2.2 dX10_agreementOf_121
      · have dc_43 := c_eq (a := x_42.toInt) (b := 1000000) rfl (by decide) c_43
        refine lv_bipush (v := (-9)) hx hb dX10_agreementOf_112 (by decide) ?_
        refine lv_goto (tgt := 121) hx hb dX10_agreementOf_114 (by decide) ?_
        exact W.iret (v := (-9)) hx hb hr (fun t ht hW => ⟨⟨(-9), Z, rfl, ⟨gI, oX.rf, ⟨by have rc : ((-9) : Int32).toInt = -9 := (by decide); have hgi := gonI_i v fa x1.toNatClampNeg; refine Or.inr ⟨by omega, ?_⟩; unfold aoV; repeat (first | rw [if_pos (by omega)] | rw [if_neg (by omega)]); (try omega), Or.inr ⟨by unfold bAo; omega, rfl⟩⟩⟩, ⟨by rw [ht]; exact hP, va_K.moved hW.alike hK, hD⟩⟩, hS.F ht⟩) hS.2.2 dX10_agreementOf_121
    have n_45 := c_ne (a := x2.toInt) (b := 5) rfl (by decide) q_40
    by_cases q_46 : x2 = 6
    · have kq_46 : x2.toInt = 6 := by rw [q_46]; decide
      refine lv_topi (fun y ey => ?_)
      obtain rfl : y = 6 := ey.trans q_46
      refine lv_tableIn (x := 6) (off := 105) (tgt := 122) hx hb dX10_agreementOf_17 (by decide) (by decide) (by decide) (by decide) ?_
      refine lv_aload_n hx hb dX10_agreementOf_122 rfl (lv_at hl 0 rfl) ?_
      obtain ⟨q_47, hq_47⟩ := og (cq := cq) tb_6.1 (oE_1 tb_6.2)
      refine va_get (D := (dC, dI)) (ci := 1) (v := .int (oI Z b_6 9)) (C := RX1) (T := TX1) (N := 18) hx hb hts in_wsX10_agreementOf_X1 hown hK hP q_47 hq_47 rfl 9 (by decide) (hts (.fieldLink RX10 240 "ShipOffice$Agreement" "note" "I") iw_X10_agreementOf_9) (fun _ h9 => h9) rfl dX10_agreementOf_123 ?_
      refine lv_topi (fun x_48 ex_48 => ?_)
      have hx_48 : 0 ≤ x_48.toInt ∧ x_48.toInt ≤ 99999 := iv_of ex_48 (by omega)
      have gx_48 : x_48.toInt = (oI Z b_6 9).toInt := iv_to ex_48
      clear ex_48
      exact W.iret (v := x_48) hx hb hr (fun t ht hW => ⟨⟨x_48, Z, rfl, ⟨gI, oX.rf, ⟨by have hgi := gonI_i v fa x1.toNatClampNeg; refine Or.inr ⟨by omega, ?_⟩; unfold aoV; repeat (first | rw [if_pos (by omega)] | rw [if_neg (by omega)]); (try omega), Or.inr ⟨by unfold bAo; omega, rfl⟩⟩⟩, ⟨by rw [ht]; exact hP, va_K.moved hW.alike hK, hD⟩⟩, hS.F ht⟩) hS.2.2 dX10_agreementOf_126
    have n_49 := c_ne (a := x2.toInt) (b := 6) rfl (by decide) q_46
    by_cases q_50 : x2 = 7
    · have kq_50 : x2.toInt = 7 := by rw [q_50]; decide
      refine lv_topi (fun y ey => ?_)
      obtain rfl : y = 7 := ey.trans q_50
      refine lv_tableIn (x := 7) (off := 110) (tgt := 127) hx hb dX10_agreementOf_17 (by decide) (by decide) (by decide) (by decide) ?_
      refine lv_aload_n hx hb dX10_agreementOf_127 rfl (lv_at hl 0 rfl) ?_
      obtain ⟨q_51, hq_51⟩ := og (cq := cq) tb_6.1 (oE_1 tb_6.2)
      refine va_get (D := (dC, dI)) (ci := 1) (v := .int (oI Z b_6 10)) (C := RX1) (T := TX1) (N := 18) hx hb hts in_wsX10_agreementOf_X1 hown hK hP q_51 hq_51 rfl 10 (by decide) (hts (.fieldLink RX10 243 "ShipOffice$Agreement" "given" "I") iw_X10_agreementOf_10) (fun _ h9 => h9) rfl dX10_agreementOf_128 ?_
      refine lv_topi (fun x_52 ex_52 => ?_)
      have gx_52 : x_52.toInt = (oI Z b_6 10).toInt := iv_to ex_52
      clear ex_52
      refine lv_if_ne (tgt := 139) hx hb dX10_agreementOf_131 (by decide) (fun c_53 => ?_) (fun c_53 => ?_)
      · have dc_53 := c_ne (a := x_52.toInt) (b := 0) rfl (by decide) c_53
        refine lv_aload_n hx hb dX10_agreementOf_139 rfl (lv_at hl 0 rfl) ?_
        refine va_get (D := (dC, dI)) (ci := 1) (v := .int (oI Z b_6 10)) (C := RX1) (T := TX1) (N := 18) hx hb hts in_wsX10_agreementOf_X1 hown hK hP q_51 hq_51 rfl 10 (by decide) (hts (.fieldLink RX10 243 "ShipOffice$Agreement" "given" "I") iw_X10_agreementOf_10) (fun _ h9 => h9) rfl dX10_agreementOf_140 ?_
        refine lv_topi (fun x_54 ex_54 => ?_)
        have gx_54 : x_54.toInt = (oI Z b_6 10).toInt := iv_to ex_54
        clear ex_54
        exact W.iret (v := x_54) hx hb hr (fun t ht hW => ⟨⟨x_54, Z, rfl, ⟨gI, oX.rf, ⟨by have hgi := gonI_i v fa x1.toNatClampNeg; refine Or.inr ⟨by omega, ?_⟩; unfold aoV; repeat (first | rw [if_pos (by omega)] | rw [if_neg (by omega)]); (try omega), Or.inr ⟨by unfold bAo; omega, rfl⟩⟩⟩, ⟨by rw [ht]; exact hP, va_K.moved hW.alike hK, hD⟩⟩, hS.F ht⟩) hS.2.2 dX10_agreementOf_143
      · have dc_53 := c_eq (a := x_52.toInt) (b := 0) rfl (by decide) c_53
        refine lv_bipush (v := (-9)) hx hb dX10_agreementOf_134 (by decide) ?_
        refine lv_goto (tgt := 143) hx hb dX10_agreementOf_136 (by decide) ?_
        exact W.iret (v := (-9)) hx hb hr (fun t ht hW => ⟨⟨(-9), Z, rfl, ⟨gI, oX.rf, ⟨by have rc : ((-9) : Int32).toInt = -9 := (by decide); have hgi := gonI_i v fa x1.toNatClampNeg; refine Or.inr ⟨by omega, ?_⟩; unfold aoV; repeat (first | rw [if_pos (by omega)] | rw [if_neg (by omega)]); (try omega), Or.inr ⟨by unfold bAo; omega, rfl⟩⟩⟩, ⟨by rw [ht]; exact hP, va_K.moved hW.alike hK, hD⟩⟩, hS.F ht⟩) hS.2.2 dX10_agreementOf_143
    have n_55 := c_ne (a := x2.toInt) (b := 7) rfl (by decide) q_50
    by_cases q_56 : x2 = 8
    · have kq_56 : x2.toInt = 8 := by rw [q_56]; decide
      refine lv_topi (fun y ey => ?_)
      obtain rfl : y = 8 := ey.trans q_56
      refine lv_tableIn (x := 8) (off := 127) (tgt := 144) hx hb dX10_agreementOf_17 (by decide) (by decide) (by decide) (by decide) ?_
      refine lv_aload_n hx hb dX10_agreementOf_144 rfl (lv_at hl 0 rfl) ?_
      obtain ⟨q_57, hq_57⟩ := og (cq := cq) tb_6.1 (oE_1 tb_6.2)
      refine va_get (D := (dC, dI)) (ci := 1) (v := .int (oI Z b_6 11)) (C := RX1) (T := TX1) (N := 18) hx hb hts in_wsX10_agreementOf_X1 hown hK hP q_57 hq_57 rfl 11 (by decide) (hts (.fieldLink RX10 246 "ShipOffice$Agreement" "allotment" "I") iw_X10_agreementOf_11) (fun _ h9 => h9) rfl dX10_agreementOf_145 ?_
      refine lv_topi (fun x_58 ex_58 => ?_)
      have hx_58 : 0 ≤ x_58.toInt ∧ x_58.toInt ≤ 9999 := iv_of ex_58 (by omega)
      have gx_58 : x_58.toInt = (oI Z b_6 11).toInt := iv_to ex_58
      clear ex_58
      exact W.iret (v := x_58) hx hb hr (fun t ht hW => ⟨⟨x_58, Z, rfl, ⟨gI, oX.rf, ⟨by have hgi := gonI_i v fa x1.toNatClampNeg; refine Or.inr ⟨by omega, ?_⟩; unfold aoV; repeat (first | rw [if_pos (by omega)] | rw [if_neg (by omega)]); (try omega), Or.inr ⟨by unfold bAo; omega, rfl⟩⟩⟩, ⟨by rw [ht]; exact hP, va_K.moved hW.alike hK, hD⟩⟩, hS.F ht⟩) hS.2.2 dX10_agreementOf_148
    have n_59 := c_ne (a := x2.toInt) (b := 8) rfl (by decide) q_56
    by_cases q_60 : x2 = 9
    · have kq_60 : x2.toInt = 9 := by rw [q_60]; decide
      refine lv_topi (fun y ey => ?_)
      obtain rfl : y = 9 := ey.trans q_60
      refine lv_tableIn (x := 9) (off := 132) (tgt := 149) hx hb dX10_agreementOf_17 (by decide) (by decide) (by decide) (by decide) ?_
      refine lv_aload_n hx hb dX10_agreementOf_149 rfl (lv_at hl 0 rfl) ?_
      have hFc : ∀ q, va_A [] H.size q → A q := pu_free hS hA
      obtain ⟨q_61, hq_61⟩ := og (cq := cq) tb_6.1 (oE_1 tb_6.2)
      refine va_calli (va_runV (As := []) (rest := []) ⟨hx, hb, hml, hown, hts⟩ (c_X1_goesOn_c l dC dI H.size cq Z gI b_6 tb_6 o to v fa hR x1.toNatClampNeg ljb_6 ejb_6) (cwV 0 hts gX10_agreementOf_X1_goesOn rfl rfl rfl (by decide +kernel) ⟨(Nat.le_of_ble_eq_true rfl), (Nat.le_of_ble_eq_true rfl)⟩) (pr_V (r := (RX1, TX1, 18)) hP hK hD q_61 1 rfl hq_61) rfl rfl hl.1 rfl (lv_room (Nat.le_of_ble_eq_true rfl)) dX10_agreementOf_150 ⟨(Nat.le_of_ble_eq_true rfl), (Nat.le_of_ble_eq_true rfl)⟩) hS (fun q _ h => hFc q h) hFc (fun r_63 u t H locs ht hvm w_62 hB hz1 hk1 hS => ?_)
      have hP := pu_keep hP hk1
      clear hk1 hz1 hvm hB ht hFc
      obtain ⟨hb_64, hx_65⟩ := w_62
      refine lv_if_eq (tgt := 160) hx hb dX10_agreementOf_153 (by decide) (fun c_66 => ?_) (fun c_66 => ?_)
      · have dc_66 := c_eq (a := r_63.toInt) (b := 0) rfl (by decide) c_66
        refine lv_iconst (v := 0) hx hb dX10_agreementOf_160 (by decide) ?_
        exact W.iret (v := 0) hx hb hr (fun t ht hW => ⟨⟨0, Z, rfl, ⟨gI, oX.rf, ⟨by have rc : (0 : Int32).toInt = 0 := (by decide); have hgi := gonI_i v fa x1.toNatClampNeg; refine Or.inr ⟨by omega, ?_⟩; unfold aoV; repeat (first | rw [if_pos (by omega)] | rw [if_neg (by omega)]); (try omega), Or.inr ⟨by unfold bAo; omega, rfl⟩⟩⟩, ⟨by rw [ht]; exact hP, va_K.moved hW.alike hK, hD⟩⟩, hS.F ht⟩) hS.2.2 dX10_agreementOf_161
      · have dc_66 := c_ne (a := r_63.toInt) (b := 0) rfl (by decide) c_66
        refine lv_iconst (v := 1) hx hb dX10_agreementOf_156 (by decide) ?_
        refine lv_goto (tgt := 161) hx hb dX10_agreementOf_157 (by decide) ?_
        exact W.iret (v := 1) hx hb hr (fun t ht hW => ⟨⟨1, Z, rfl, ⟨gI, oX.rf, ⟨by have rc : (1 : Int32).toInt = 1 := (by decide); have hgi := gonI_i v fa x1.toNatClampNeg; refine Or.inr ⟨by omega, ?_⟩; unfold aoV; repeat (first | rw [if_pos (by omega)] | rw [if_neg (by omega)]); (try omega), Or.inr ⟨by unfold bAo; omega, rfl⟩⟩⟩, ⟨by rw [ht]; exact hP, va_K.moved hW.alike hK, hD⟩⟩, hS.F ht⟩) hS.2.2 dX10_agreementOf_161
    have n_67 := c_ne (a := x2.toInt) (b := 9) rfl (by decide) q_60
    refine lv_tableOut (tgt := 162) hx hb dX10_agreementOf_17 (by omega) (by decide) ?_
    refine lv_aload_n hx hb dX10_agreementOf_162 rfl (lv_at hl 1 rfl) ?_
    refine lv_bipush (v := (-2)) hx hb dX10_agreementOf_163 (by decide) ?_
    have hFc := o_free hD hS hA
    refine va_calli (va_runV (As := [.int (-2)]) (rest := []) ⟨hx, hb, hml, hown, hts⟩ (c_X10_refuse_c l dC dI H.size cq Z gI o to (-2) (by decide)) (cwV 1 hts gX10_agreementOf_X10_refuse rfl rfl rfl (by decide +kernel) ⟨(Nat.le_of_ble_eq_true rfl), (Nat.le_of_ble_eq_true rfl)⟩) (pr_V (r := (RX10, TX10, 16)) hP hK hD q_1 10 rfl hq_1) rfl rfl hl.1 rfl (lv_room (Nat.le_of_ble_eq_true rfl)) dX10_agreementOf_165 ⟨(Nat.le_of_ble_eq_true rfl), (Nat.le_of_ble_eq_true rfl)⟩) hS (fun q _ h => hFc q h) hFc (fun r_69 u t H locs ht hvm w_68 hB hz1 hk1 hS => ?_)
    obtain ⟨S_70, rfl⟩ : ∃ z, z = u := ⟨_, rfl⟩
    obtain ⟨hP1, hK1, hD1⟩ := hB
    rw [ht] at hP1
    have hP : va_P (dC, dI) vwCl (oW cq S_70) H := hP1
    have hD : va_D A (oW cq S_70) := hD1.weaken (fun _ _ _ h => hFc _ h)
    clear hP1 hK1 hD1 hk1 hz1 hvm ht hFc
    obtain ⟨hIS_70, XS_70, hb_71, hx_72⟩ := w_68
    have X_73 : oX [2107] Z S_70 := oX.st oX.rf XS_70 (by decide)
    have g_74 : (oI S_70 o 0).toInt = (oI Z o 0).toInt := by rw [oX.i XS_70 to (by decide)]
    have pk_75 : oP S_70 o 8 = some lw := by rw [oX.p XS_70 to (by decide)]; exact hlw0
    have pk_76 : oP S_70 b_6 0 = some amb_6 := by rw [oX.p XS_70 tb_6 (by decide)]; exact fm3b_6
    have pk_77 : oP S_70 b_6 1 = some avb_6 := by rw [oX.p XS_70 tb_6 (by decide)]; exact fv3b_6
    have rf_78 : r_69.toInt = -2 := by rw [hx_72.1]; decide
    exact W.iret (v := r_69) hx hb hr (fun t ht hW => ⟨⟨r_69, S_70, rfl, ⟨hIS_70, X_73, ⟨by have hgi := gonI_i v fa x1.toNatClampNeg; refine Or.inr ⟨by omega, ?_⟩; unfold aoV; repeat (first | rw [if_pos (by omega)] | rw [if_neg (by omega)]); (try omega), Or.inl ⟨by unfold bAo; omega, by rw [hx_72.1]; exact hx_72.2⟩⟩⟩, ⟨by rw [ht]; exact hP, va_K.moved hW.alike hK, hD⟩⟩, hS.F ht⟩) hS.2.2 dX10_agreementOf_168
set_option maxHeartbeats 4000000 in
set_option maxRecDepth 100000 in
theorem c_X10_put_c (l : Launch) (dC : Nat → ClassId) (dI : Nat → Nat → Nat) (sz : Nat) (cq : Nat → ClassId) (Z : oS) (gI : oInv Z) (o : Nat) (to : oty Z o 10) (x1 : Int32) : Met l yX10_put wsX10_put ({ frames := 1, cells := 0, slots := 0, locals := 21 }) (va_Pc [.ref o, .int x1] (pcW (dC, dI) (oT cq) (oW cq Z) sz)) (va_Qi (fun (r : Int32) (u : oS) => oInv u ∧ oX [1014, 2107, 2112] Z u ∧ (aPu (oI Z o 14).toInt r.toInt ∧ rOo Z o u r (u = setI (setI Z (oQ Z o 13) (oI Z o 14).toNatClampNeg x1) o 14 r))) (fun u t => va_P (dC, dI) vwCl (oW cq u) t.heap ∧ va_K (dC, dI) vwCl (oT cq) t ∧ va_D (va_A (oW cq Z) sz) (oW cq u)) (va_A (oW cq Z) sz)) 0 0 (va_A (oW cq Z) sz) := by
  refine Met.ofW (cc := cX10_put) (maxL := 2) (ret := (some .int)) (by decide) rfl ?_
  intro p e s m args below meth c s₁ B hml hv
  obtain ⟨rfl, hsz, hP, hK, hD0⟩ := hv
  have hx := B.exec
  have hb := B.bytes
  have hr := B.returns
  have hts := atoms_spec (ws := wsX10_put) B.pre
  have hown : s.vm.findClass RX10 = some m.cls := findClass_of_methodNamed B.named
  have hlocks := B.notSynchronized
  subst hsz
  have hD := hD0.self (sz := s.heap.size)
  generalize hAe : va_A (oW cq Z) s.heap.size = A at hD ⊢
  have hA : ∀ q : Nat, s.heap.size ≤ q → A q := fun q h => by rw [← hAe]; exact Or.inr h
  have hS : va_S A s.heap s.heap [] := va_S.rf
  have hP : va_P (dC, dI) vwCl (oW cq Z) s.heap := hP
  have hl := lv_entry ([.ref o, .int x1]) (n := 2) (Nat.le_of_ble_eq_true rfl)
  rw [lg_entry_eq]
  generalize (lg_sl ([.ref o, .int x1]) ++ List.replicate (2 - (lg_sl ([.ref o, .int x1])).length) Slot.unset).toArray = ls at hl ⊢
  have hl : lv_has ls 2 [(0, .ref o), (1, .int x1)] := hl
  refine lv_aload_n hx hb dX10_put_0 rfl (lv_at hl 0 rfl) ?_
  obtain ⟨q_1, hq_1⟩ := og (cq := cq) to.1 (oE_10 to.2)
  refine va_get (D := (dC, dI)) (ci := 10) (v := .int (oI Z o 14)) (C := RX10) (T := TX10) (N := 16) hx hb hts in_wsX10_put_X10 hown hK hP q_1 hq_1 rfl 14 (by decide) (hts (.fieldLink RX10 353 "ShipOffice" "rowCount" "I") iw_X10_put_1) (fun _ h9 => h9) rfl dX10_put_1 ?_
  refine lv_topi (fun x_2 ex_2 => ?_)
  have hx_2 : 0 ≤ x_2.toInt ∧ x_2.toInt ≤ 12 := iv_of ex_2 (oInv.iv gI to.2 rfl rfl)
  have gx_2 : x_2.toInt = (oI Z o 14).toInt := iv_to ex_2
  clear ex_2
  refine lv_bipush (v := 12) hx hb dX10_put_4 (by decide) ?_
  refine lv_icmp_lt (tgt := 16) hx hb dX10_put_6 (by decide) (fun c_3 => ?_) (fun c_3 => ?_)
  · have dc_3 := c_lt (a := x_2.toInt) (b := 12) rfl (by decide) c_3
    refine lv_aload_n hx hb dX10_put_16 rfl (lv_at hl 0 rfl) ?_
    obtain ⟨b_4, hb_4⟩ := oInv.nn (i := 13) gI to rfl
    refine va_get (D := (dC, dI)) (ci := 10) (v := .ref b_4) (C := RX10) (T := TX10) (N := 16) hx hb hts in_wsX10_put_X10 hown hK hP q_1 hq_1 rfl 13 (by decide) (hts (.fieldLink RX10 63 "ShipOffice" "row" "[I") iw_X10_put_2) (fun _ h9 => h9) (o_rd hb_4) dX10_put_17 ?_
    have tb_4 : oty Z b_4 112 := oInv.rd gI to.2 hb_4 rfl rfl
    refine lv_aload_n hx hb dX10_put_20 rfl (lv_at hl 0 rfl) ?_
    refine va_get (D := (dC, dI)) (ci := 10) (v := .int (oI Z o 14)) (C := RX10) (T := TX10) (N := 16) hx hb hts in_wsX10_put_X10 hown hK hP q_1 hq_1 rfl 14 (by decide) (hts (.fieldLink RX10 353 "ShipOffice" "rowCount" "I") iw_X10_put_1) (fun _ h9 => h9) rfl dX10_put_21 ?_
    refine lv_topi (fun x_5 ex_5 => ?_)
    have hx_5 : 0 ≤ x_5.toInt ∧ x_5.toInt ≤ 12 := iv_of ex_5 (oInv.iv gI to.2 rfl rfl)
    have gx_5 : x_5.toInt = (oI Z o 14).toInt := iv_to ex_5
    clear ex_5
    refine lv_iload_n hx hb dX10_put_24 rfl (lv_at hl 1 rfl) ?_
    obtain ⟨q_6, hq_6⟩ := og (cq := cq) tb_4.1 (oE_a1 (n := 12) tb_4.2 (by decide))
    refine va_iast hx hb hK hP hD hS q_6 0 hq_6 rfl (vp_in_iff.mpr (by omega)) dX10_put_25 (fun H locs hP1 hD1 hS => ?_)
    obtain ⟨S_7, eS_7⟩ : ∃ zq, zq = setI Z b_4 (x_5 : Int32).toNatClampNeg x1 := ⟨_, rfl⟩
    have hP : va_P (dC, dI) vwCl (oW cq S_7) H := by rw [eS_7]; exact cP (oset tb_4.1 hq_6 hD rfl (he_a1 (n := 12) tb_4.2 (by decide)) neI) hP1
    have hD : va_D A (oW cq S_7) := by rw [eS_7]; exact cD (oset tb_4.1 hq_6 hD rfl (he_a1 (n := 12) tb_4.2 (by decide)) neI) hD1
    clear hP1 hD1
    have hIS_7 : oInv S_7 := by rw [eS_7]; exact oInv.A (k := 112) gI tb_4.2 (by decide)
    have XS_7 : oX [2112] Z S_7 := by rw [eS_7]; exact oX.I (k := 112) (key := 2112) tb_4.2 rfl (List.mem_singleton.mpr rfl)
    have X_8 : oX [1014, 2107, 2112] Z S_7 := oX.st oX.rf XS_7 (by decide)
    have g_9 : (oI S_7 o 14).toInt = (oI Z o 14).toInt := by rw [eS_7, setI_oth (ty_ne to tb_4 (by decide))]
    refine lv_aload_n hx hb dX10_put_26 rfl (lv_at hl 0 rfl) ?_
    refine lv_dup hx hb dX10_put_27 rfl ?_
    have t_10 : oty S_7 o 10 := (oX.ty XS_7 to)
    obtain ⟨q_11, hq_11⟩ := og (cq := cq) t_10.1 (oE_10 t_10.2)
    refine va_get (D := (dC, dI)) (ci := 10) (v := .int (oI S_7 o 14)) (C := RX10) (T := TX10) (N := 16) hx hb hts in_wsX10_put_X10 hown hK hP q_11 hq_11 rfl 14 (by decide) (hts (.fieldLink RX10 353 "ShipOffice" "rowCount" "I") iw_X10_put_1) (fun _ h9 => h9) rfl dX10_put_28 ?_
    refine lv_topi (fun x_12 ex_12 => ?_)
    have hx_12 : 0 ≤ x_12.toInt ∧ x_12.toInt ≤ 12 := iv_of ex_12 (oInv.iv hIS_7 t_10.2 rfl rfl)
    have gx_12 : x_12.toInt = (oI S_7 o 14).toInt := iv_to ex_12
    clear ex_12
    refine lv_iconst (v := 1) hx hb dX10_put_31 (by decide) ?_
    refine lv_iadd hx hb dX10_put_32 ?_
    refine lv_topi (fun x_13 ex_13 => ?_)
    have hx_13 : x_13.toInt = x_12.toInt + 1 := (iv_to ex_13).trans (ad_i rfl (by decide) (by omega) (by omega))
    clear ex_13
    refine va_put (D := (dC, dI)) (ci := 10) (v := .int x_13) (ty := .int) (C := RX10) (T := TX10) (N := 16) hx hb hts in_wsX10_put_X10 tyX10 tyX10_ok nmX10 hown hK hP hD hS q_11 hq_11 rfl 14 (by decide) (hts (.fieldLink RX10 353 "ShipOffice" "rowCount" "I") iw_X10_put_1) (fun _ h9 => h9) rfl (by decide +kernel) rfl rfl (Nat.le_of_ble_eq_true rfl) dX10_put_33 (fun H locs hP1 hD1 hS => ?_)
    obtain ⟨S_14, eS_14⟩ : ∃ zq, zq = setI S_7 o 14 x_13 := ⟨_, rfl⟩
    have hP : va_P (dC, dI) vwCl (oW cq S_14) H := by rw [eS_14]; exact cP (oset t_10.1 hq_11 hD rfl (he_10_14 t_10.2) neI) hP1
    have hD : va_D A (oW cq S_14) := by rw [eS_14]; exact cD (oset t_10.1 hq_11 hD rfl (he_10_14 t_10.2) neI) hD1
    clear hP1 hD1
    have hIS_14 : oInv S_14 := by rw [eS_14]; exact oInv.I0 (k := 10) (lo := 0) (hi := 12) hIS_7 t_10.2 (by decide) rfl rfl rfl (by omega)
    have XS_14 : oX [1014] S_7 S_14 := by rw [eS_14]; exact oX.I (k := 10) (key := 1014) t_10.2 rfl (List.mem_singleton.mpr rfl)
    have X_15 : oX [1014, 2107, 2112] Z S_14 := oX.st X_8 XS_14 (by decide)
    have g_16 : (oI S_14 o 14).toInt = x_13.toInt := by rw [eS_14, setI_same]
    refine lv_aload_n hx hb dX10_put_36 rfl (lv_at hl 0 rfl) ?_
    have t_17 : oty S_14 o 10 := (oX.ty XS_14 t_10)
    obtain ⟨q_18, hq_18⟩ := og (cq := cq) t_17.1 (oE_10 t_17.2)
    refine va_get (D := (dC, dI)) (ci := 10) (v := .int (oI S_14 o 14)) (C := RX10) (T := TX10) (N := 16) hx hb hts in_wsX10_put_X10 hown hK hP q_18 hq_18 rfl 14 (by decide) (hts (.fieldLink RX10 353 "ShipOffice" "rowCount" "I") iw_X10_put_1) (fun _ h9 => h9) rfl dX10_put_37 ?_
    refine lv_topi (fun x_19 ex_19 => ?_)
    have hx_19 : 0 ≤ x_19.toInt ∧ x_19.toInt ≤ 12 := iv_of ex_19 (oInv.iv hIS_14 t_17.2 rfl rfl)
    have gx_19 : x_19.toInt = (oI S_14 o 14).toInt := iv_to ex_19
    clear ex_19
    exact W.iret (v := x_19) hx hb hr (fun t ht hW => ⟨⟨x_19, S_14, rfl, ⟨hIS_14, X_15, ⟨by have kc0 : (0 : Int32).toInt = 0 := (by decide); have kc1 : (1 : Int32).toInt = 1 := (by decide); have kc2 : (2 : Int32).toInt = 2 := (by decide); unfold aPu; omega, Or.inr ⟨by omega, (by rw [eS_14, eS_7, oQ_e hb_4, (show x_5 = oI Z o 14 from Int32.toInt_inj.mp (by omega)), (show x_13 = x_19 from Int32.toInt_inj.mp (by omega))])⟩⟩⟩, ⟨by rw [ht]; exact hP, va_K.moved hW.alike hK, hD⟩⟩, hS.F ht⟩) hS.2.2 dX10_put_40
  · have dc_3 := c_nlt (a := x_2.toInt) (b := 12) rfl (by decide) c_3
    refine lv_aload_n hx hb dX10_put_9 rfl (lv_at hl 0 rfl) ?_
    refine lv_bipush (v := (-6)) hx hb dX10_put_10 (by decide) ?_
    have hFc := o_free hD hS hA
    refine va_calli (va_runV (As := [.int (-6)]) (rest := []) ⟨hx, hb, hml, hown, hts⟩ (c_X10_refuse_c l dC dI s.heap.size cq Z gI o to (-6) (by decide)) (cwV 1 hts gX10_put_X10_refuse rfl rfl rfl (by decide +kernel) ⟨(Nat.le_of_ble_eq_true rfl), (Nat.le_of_ble_eq_true rfl)⟩) (pr_V (r := (RX10, TX10, 16)) hP hK hD q_1 10 rfl hq_1) rfl rfl hl.1 rfl (lv_room (Nat.le_of_ble_eq_true rfl)) dX10_put_12 ⟨(Nat.le_of_ble_eq_true rfl), (Nat.le_of_ble_eq_true rfl)⟩) hS (fun q _ h => hFc q h) hFc (fun r_21 u t H locs ht hvm w_20 hB hz1 hk1 hS => ?_)
    obtain ⟨S_22, rfl⟩ : ∃ z, z = u := ⟨_, rfl⟩
    obtain ⟨hP1, hK1, hD1⟩ := hB
    rw [ht] at hP1
    have hP : va_P (dC, dI) vwCl (oW cq S_22) H := hP1
    have hD : va_D A (oW cq S_22) := hD1.weaken (fun _ _ _ h => hFc _ h)
    clear hP1 hK1 hD1 hk1 hz1 hvm ht hFc
    obtain ⟨hIS_22, XS_22, hb_23, hx_24⟩ := w_20
    have X_25 : oX [1014, 2107, 2112] Z S_22 := oX.st oX.rf XS_22 (by decide)
    have g_26 : (oI S_22 o 14).toInt = (oI Z o 14).toInt := by rw [oX.i XS_22 to (by decide)]
    have rf_27 : r_21.toInt = -6 := by rw [hx_24.1]; decide
    exact W.iret (v := r_21) hx hb hr (fun t ht hW => ⟨⟨r_21, S_22, rfl, ⟨hIS_22, X_25, ⟨by have kc0 : (0 : Int32).toInt = 0 := (by decide); have kc1 : (1 : Int32).toInt = 1 := (by decide); have kc2 : (2 : Int32).toInt = 2 := (by decide); unfold aPu; omega, (Or.inl ⟨by omega, by rw [hx_24.1]; exact hx_24.2⟩)⟩⟩, ⟨by rw [ht]; exact hP, va_K.moved hW.alike hK, hD⟩⟩, hS.F ht⟩) hS.2.2 dX10_put_15
