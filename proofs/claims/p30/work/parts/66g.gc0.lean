


set_option maxHeartbeats 4000000 in
set_option maxRecDepth 100000 in
theorem c_X10_advance_c (l : Launch) (dC : Nat → ClassId) (dI : Nat → Nat → Nat) (sz : Nat) (cq : Nat → ClassId) (Z : oS) (gI : oInv Z) (o : Nat) (to : oty Z o 10) (x1 : Int32) (x2 : Int32) (v : Nat → Int32) (fa : Nat → Nat → Int32) (hR : RC Z o v fa) (hE : RX Z o v fa) : Met l yX10_advance wsX10_advance ({ frames := 2, cells := 0, slots := 0, locals := 49 }) (va_Pc [.ref o, .int x1, .int x2] (pcW (dC, dI) (oT cq) (oW cq Z) sz)) (va_Qi (fun (r : Int32) (u : oS) => oInv u ∧ oX [109, 2107] Z u ∧ (aAd (v 43).toInt x1.toInt (fa 27 x1.toNatClampNeg).toInt (stF v fa x1.toNatClampNeg (v 38).toInt (v 38).toInt) x2.toInt r.toInt ∧ rOo Z o u r (u = setI Z (agA Z o x1.toNatClampNeg) 9 x2))) (fun u t => va_P (dC, dI) vwCl (oW cq u) t.heap ∧ va_K (dC, dI) vwCl (oT cq) t ∧ va_D (va_A (oW cq Z) sz) (oW cq u)) (va_A (oW cq Z) sz)) 0 0 (va_A (oW cq Z) sz) := by
  refine Met.ofW (cc := cX10_advance) (maxL := 4) (ret := (some .int)) (by decide) rfl ?_
  intro p e s m args below meth c s₁ B hml hv
  obtain ⟨rfl, hsz, hP, hK, hD0⟩ := hv
  have hx := B.exec
  have hb := B.bytes
  have hr := B.returns
  have hts := atoms_spec (ws := wsX10_advance) B.pre
  have hown : s.vm.findClass RX10 = some m.cls := findClass_of_methodNamed B.named
  have hlocks := B.notSynchronized
  subst hsz
  have hD := hD0.self (sz := s.heap.size)
  generalize hAe : va_A (oW cq Z) s.heap.size = A at hD ⊢
  have hA : ∀ q : Nat, s.heap.size ≤ q → A q := fun q h => by rw [← hAe]; exact Or.inr h
  have hS : va_S A s.heap s.heap [] := va_S.rf
  have hP : va_P (dC, dI) vwCl (oW cq Z) s.heap := hP
  have hl := lv_entry ([.ref o, .int x1, .int x2]) (n := 4) (Nat.le_of_ble_eq_true rfl)
  rw [lg_entry_eq]
  generalize (lg_sl ([.ref o, .int x1, .int x2]) ++ List.replicate (4 - (lg_sl ([.ref o, .int x1, .int x2])).length) Slot.unset).toArray = ls at hl ⊢
  have hl : lv_has ls 4 [(0, .ref o), (1, .int x1), (2, .int x2)] := hl
  obtain ⟨fn0, fn1, fn2, fn3, fn4⟩ := RC.n hR
  have fb38 : 0 ≤ (v 38).toInt ∧ (v 38).toInt ≤ 3000 := RC.V hR 38
  have fb39 : 0 ≤ (v 39).toInt ∧ (v 39).toInt ≤ 40 := RC.V hR 39
  have fb40 : 0 ≤ (v 40).toInt ∧ (v 40).toInt ≤ 20 := RC.V hR 40
  have fb43 : 0 ≤ (v 43).toInt ∧ (v 43).toInt ≤ 60 := RC.V hR 43
  have fb41 : 0 ≤ (v 41).toInt ∧ (v 41).toInt ≤ 200 := RC.V hR 41
  obtain ⟨lw, hlw0⟩ := oInv.nn (i := 8) gI to rfl
  have tlw : oty Z lw 5 := oInv.rd gI to.2 hlw0 rfl rfl
  have hLr : rLw Z lw v fa := by have q := RC.l hR; rw [oQ_e hlw0] at q; exact q
  refine lv_aload_n hx hb dX10_advance_0 rfl (lv_at hl 0 rfl) ?_
  refine lv_iload_n hx hb dX10_advance_1 rfl (lv_at hl 1 rfl) ?_
  have hFc : ∀ q, va_A [] s.heap.size q → A q := pu_free hS hA
  obtain ⟨q_1, hq_1⟩ := og (cq := cq) to.1 (oE_10 to.2)
  refine va_callq (va_runV (As := [.int x1]) (rest := []) ⟨hx, hb, hml, hown, hts⟩ (c_X10_agreementAt_c l dC dI s.heap.size cq Z gI o to x1 v fa hR) (cwV 1 hts gX10_advance_X10_agreementAt rfl rfl rfl (by decide +kernel) ⟨(Nat.le_of_ble_eq_true rfl), (Nat.le_of_ble_eq_true rfl)⟩) (pr_V (r := (RX10, TX10, 16)) hP hK hD q_1 10 rfl hq_1) rfl rfl hl.1 rfl (lv_room (Nat.le_of_ble_eq_true rfl)) dX10_advance_2 ⟨(Nat.le_of_ble_eq_true rfl), (Nat.le_of_ble_eq_true rfl)⟩) hS (fun q _ h => hFc q h) hFc (fun r_3 u t H locs ht hvm w_2 hB hz1 hk1 hS => ?_)
  have hP := pu_keep hP hk1
  clear hk1 hz1 hvm hB ht hFc
  obtain ⟨hk_4, hx_5⟩ := w_2
  rcases r_3 with _ | b_6
  · refine W.eq (g2 := F0 m 5 ls [.null]) rfl ?_
    have hnr_3 := atF_n hx_5
    refine lv_astore_nN (lv' := [(3, .null), (0, .ref o), (1, .int x1), (2, .int x2)]) hx hb dX10_advance_5 rfl hl (by decide) rfl (fun ls hl => ?_)
    refine lv_aload_nN hx hb dX10_advance_6 rfl (lv_at hl 0 rfl) ?_
    refine lv_ifnonnullN hx hb dX10_advance_7 ?_
    refine lv_aload_n hx hb dX10_advance_10 rfl (lv_at hl 1 rfl) ?_
    refine lv_iconst (v := (-1)) hx hb dX10_advance_11 (by decide) ?_
    have hFc := o_free hD hS hA
    refine va_calli (va_runV (As := [.int (-1)]) (rest := []) ⟨hx, hb, hml, hown, hts⟩ (c_X10_refuse_c l dC dI H.size cq Z gI o to (-1) (by decide)) (cwV 1 hts gX10_advance_X10_refuse rfl rfl rfl (by decide +kernel) ⟨(Nat.le_of_ble_eq_true rfl), (Nat.le_of_ble_eq_true rfl)⟩) (pr_V (r := (RX10, TX10, 16)) hP hK hD q_1 10 rfl hq_1) rfl rfl hl.1 rfl (lv_room (Nat.le_of_ble_eq_true rfl)) dX10_advance_12 ⟨(Nat.le_of_ble_eq_true rfl), (Nat.le_of_ble_eq_true rfl)⟩) hS (fun q _ h => hFc q h) hFc (fun r_8 u t H locs ht hvm w_7 hB hz1 hk1 hS => ?_)
    obtain ⟨S_9, rfl⟩ : ∃ z, z = u := ⟨_, rfl⟩
    obtain ⟨hP1, hK1, hD1⟩ := hB
    rw [ht] at hP1
    have hP : va_P (dC, dI) vwCl (oW cq S_9) H := hP1
    have hD : va_D A (oW cq S_9) := hD1.weaken (fun _ _ _ h => hFc _ h)
    clear hP1 hK1 hD1 hk1 hz1 hvm ht hFc
    obtain ⟨hIS_9, XS_9, hb_10, hx_11⟩ := w_7
    have X_12 : oX [109, 2107] Z S_9 := oX.st oX.rf XS_9 (by decide)
    have g_13 : (oI S_9 o 0).toInt = (oI Z o 0).toInt := by rw [oX.i XS_9 to (by decide)]
    have pk_14 : oP S_9 o 8 = some lw := by rw [oX.p XS_9 to (by decide)]; exact hlw0
    have rf_15 : r_8.toInt = -1 := by rw [hx_11.1]; decide
    exact W.iret (v := r_8) hx hb hr (fun t ht hW => ⟨⟨r_8, S_9, rfl, ⟨hIS_9, X_12, ⟨by have kc0 : (0 : Int32).toInt = 0 := (by decide); have kc1 : (1 : Int32).toInt = 1 := (by decide); have kc2 : (2 : Int32).toInt = 2 := (by decide); (first | exact Or.inl ⟨by omega, by omega⟩ | (unfold aAd; omega)), (Or.inl ⟨by omega, by rw [hx_11.1]; exact hx_11.2⟩)⟩⟩, ⟨by rw [ht]; exact hP, va_K.moved hW.alike hK, hD⟩⟩, hS.F ht⟩) hS.2.2 dX10_advance_15
  · refine W.eq (g2 := F0 m 5 ls [.ref b_6]) rfl ?_
    have tb_6 : oty Z b_6 1 := hk_4 b_6 rfl
    obtain ⟨hjb_6, ejb_6⟩ := atF_s hx_5
    have ljb_6 := ni_lt hjb_6.1 hjb_6.2
    have njb_6 := tn_i hjb_6.1
    have fAb_6 := RC.a hR ljb_6
    rw [← ejb_6] at fAb_6
    obtain ⟨⟨fm1b_6, fm2b_6, fm3b_6⟩, ⟨fv1b_6, fv2b_6, fv3b_6⟩, fsib_6, fppb_6, fwgb_6, frkb_6, fofb_6, fdeb_6, fchb_6⟩ := fAb_6
    have fBb_6 : 0 ≤ (fa 25 x1.toNatClampNeg).toInt ∧ (fa 25 x1.toNatClampNeg).toInt ≤ 3000 := RC.A hR 25 _
    have lamb_6 : (fa 20 x1.toNatClampNeg).toNatClampNeg < (v 39).toNatClampNeg := ni_lt fm1b_6 fm2b_6
    have namb_6 : (((fa 20 x1.toNatClampNeg).toNatClampNeg : Nat) : Int) = (fa 20 x1.toNatClampNeg).toInt := tn_i fm1b_6
    obtain ⟨amb_6, eamb_6⟩ : ∃ z, z = mnA Z o (fa 20 x1.toNatClampNeg).toNatClampNeg := ⟨_, rfl⟩
    rw [← eamb_6] at fm3b_6
    have tamb_6 : oty Z amb_6 6 := by rw [eamb_6]; exact (RC.tm hR gI to lamb_6).2
    have fMamb_6 := RC.m hR lamb_6
    rw [← eamb_6] at fMamb_6
    obtain ⟨fz0amb_6, fz1amb_6, fz2amb_6, fz3amb_6⟩ := fMamb_6
    rw [namb_6] at fz0amb_6
    have lavb_6 : (fa 21 x1.toNatClampNeg).toNatClampNeg < (v 40).toNatClampNeg := ni_lt fv1b_6 fv2b_6
    have navb_6 : (((fa 21 x1.toNatClampNeg).toNatClampNeg : Nat) : Int) = (fa 21 x1.toNatClampNeg).toInt := tn_i fv1b_6
    obtain ⟨avb_6, eavb_6⟩ : ∃ z, z = voA Z o (fa 21 x1.toNatClampNeg).toNatClampNeg := ⟨_, rfl⟩
    rw [← eavb_6] at fv3b_6
    have tavb_6 : oty Z avb_6 9 := by rw [eavb_6]; exact (RC.tv hR gI to lavb_6).2
    have fVavb_6 := RC.vo hR lavb_6
    rw [← eavb_6] at fVavb_6
    obtain ⟨fy0avb_6, fy1avb_6, fy2avb_6, fy3avb_6, fy4avb_6, fySavb_6, fyLavb_6, fyhavb_6⟩ := fVavb_6
    have fBavb_6 : 0 ≤ (fa 7 ((fa 21 x1.toNatClampNeg).toNatClampNeg)).toInt ∧ (fa 7 ((fa 21 x1.toNatClampNeg).toNatClampNeg)).toInt ≤ 3000 := RC.A hR 7 _
    have fSavb_6 := onc_i fySavb_6
    have fLavb_6 := onc_i fyLavb_6
    rw [navb_6] at fy0avb_6 fSavb_6 fLavb_6
    have fEb_6 := hE.1 x1.toNatClampNeg ljb_6
    rw [← ejb_6] at fEb_6
    obtain ⟨⟨fn1b_6, fn2b_6, fn3b_6⟩, fgb_6, ⟨fl1b_6, fl2b_6, fl3b_6⟩, ⟨ff1b_6, ff2b_6⟩, ⟨fs1b_6, fs2b_6, fs3b_6, fs4b_6, fs5b_6⟩⟩ := fEb_6
    unfold rXg at fgb_6
    have fX_16 : 0 ≤ (fa 30 x1.toNatClampNeg).toInt ∧ (fa 30 x1.toNatClampNeg).toInt ≤ 6 := RC.A hR 30 _
    have fX_17 : 0 ≤ (fa 31 x1.toNatClampNeg).toInt ∧ (fa 31 x1.toNatClampNeg).toInt ≤ 20 := RC.A hR 31 _
    refine lv_astore_n (lv' := [(3, .ref b_6), (0, .ref o), (1, .int x1), (2, .int x2)]) hx hb dX10_advance_5 rfl hl (by decide) rfl (fun ls hl => ?_)
    refine lv_aload_n hx hb dX10_advance_6 rfl (lv_at hl 0 rfl) ?_
    refine lv_ifnonnull (tgt := 16) hx hb dX10_advance_7 (by decide) ?_
    refine lv_aload_n hx hb dX10_advance_16 rfl (lv_at hl 0 rfl) ?_
    obtain ⟨q_18, hq_18⟩ := og (cq := cq) tb_6.1 (oE_1 tb_6.2)
    refine va_get (D := (dC, dI)) (ci := 1) (v := .int (oI Z b_6 9)) (C := RX1) (T := TX1) (N := 18) hx hb hts in_wsX10_advance_X1 hown hK hP q_18 hq_18 rfl 9 (by decide) (hts (.fieldLink RX10 240 "ShipOffice$Agreement" "note" "I") iw_X10_advance_1) (fun _ h9 => h9) rfl dX10_advance_17 ?_
    refine lv_topi (fun x_19 ex_19 => ?_)
    have hx_19 : 0 ≤ x_19.toInt ∧ x_19.toInt ≤ 99999 := iv_of ex_19 (by omega)
    have gx_19 : x_19.toInt = (oI Z b_6 9).toInt := iv_to ex_19
    clear ex_19
    refine lv_if_ne (tgt := 42) hx hb dX10_advance_20 (by decide) (fun c_20 => ?_) (fun c_20 => ?_)
    · have dc_20 := c_ne (a := x_19.toInt) (b := 0) rfl (by decide) c_20
      refine lv_aload_n hx hb dX10_advance_42 rfl (lv_at hl 1 rfl) ?_
      refine lv_bipush (v := (-3)) hx hb dX10_advance_43 (by decide) ?_
      have hFc := o_free hD hS hA
      refine va_calli (va_runV (As := [.int (-3)]) (rest := []) ⟨hx, hb, hml, hown, hts⟩ (c_X10_refuse_c l dC dI H.size cq Z gI o to (-3) (by decide)) (cwV 1 hts gX10_advance_X10_refuse rfl rfl rfl (by decide +kernel) ⟨(Nat.le_of_ble_eq_true rfl), (Nat.le_of_ble_eq_true rfl)⟩) (pr_V (r := (RX10, TX10, 16)) hP hK hD q_1 10 rfl hq_1) rfl rfl hl.1 rfl (lv_room (Nat.le_of_ble_eq_true rfl)) dX10_advance_45 ⟨(Nat.le_of_ble_eq_true rfl), (Nat.le_of_ble_eq_true rfl)⟩) hS (fun q _ h => hFc q h) hFc (fun r_22 u t H locs ht hvm w_21 hB hz1 hk1 hS => ?_)
      obtain ⟨S_23, rfl⟩ : ∃ z, z = u := ⟨_, rfl⟩
      obtain ⟨hP1, hK1, hD1⟩ := hB
      rw [ht] at hP1
      have hP : va_P (dC, dI) vwCl (oW cq S_23) H := hP1
      have hD : va_D A (oW cq S_23) := hD1.weaken (fun _ _ _ h => hFc _ h)
      clear hP1 hK1 hD1 hk1 hz1 hvm ht hFc
      obtain ⟨hIS_23, XS_23, hb_24, hx_25⟩ := w_21
      have X_26 : oX [109, 2107] Z S_23 := oX.st oX.rf XS_23 (by decide)
      have g_27 : (oI S_23 b_6 9).toInt = (oI Z b_6 9).toInt := by rw [oX.i XS_23 tb_6 (by decide)]
      have g_28 : (oI S_23 o 0).toInt = (oI Z o 0).toInt := by rw [oX.i XS_23 to (by decide)]
      have pk_29 : oP S_23 o 8 = some lw := by rw [oX.p XS_23 to (by decide)]; exact hlw0
      have pk_30 : oP S_23 b_6 0 = some amb_6 := by rw [oX.p XS_23 tb_6 (by decide)]; exact fm3b_6
      have pk_31 : oP S_23 b_6 1 = some avb_6 := by rw [oX.p XS_23 tb_6 (by decide)]; exact fv3b_6
      have rf_32 : r_22.toInt = -3 := by rw [hx_25.1]; decide
      exact W.iret (v := r_22) hx hb hr (fun t ht hW => ⟨⟨r_22, S_23, rfl, ⟨hIS_23, X_26, ⟨by try clear fppb_6; try clear fSavb_6; try clear fLavb_6; try clear fy4avb_6; have kc0 : (0 : Int32).toInt = 0 := (by decide); have kc1 : (1 : Int32).toInt = 1 := (by decide); have kc2 : (2 : Int32).toInt = 2 := (by decide); (first | exact Or.inr (Or.inl ⟨by omega, by omega, by omega⟩) | (unfold aAd; omega)), (Or.inl ⟨by omega, by rw [hx_25.1]; exact hx_25.2⟩)⟩⟩, ⟨by rw [ht]; exact hP, va_K.moved hW.alike hK, hD⟩⟩, hS.F ht⟩) hS.2.2 dX10_advance_48
    · have dc_20 := c_eq (a := x_19.toInt) (b := 0) rfl (by decide) c_20
      refine lv_aload_n hx hb dX10_advance_23 rfl (lv_at hl 0 rfl) ?_
      refine lv_aload_n hx hb dX10_advance_24 rfl (lv_at hl 1 rfl) ?_
      refine va_get (D := (dC, dI)) (ci := 10) (v := .int (oI Z o 0)) (C := RX10) (T := TX10) (N := 16) hx hb hts in_wsX10_advance_X10 hown hK hP q_1 hq_1 rfl 0 (by decide) (hts (.fieldLink RX10 73 "ShipOffice" "now" "I") iw_X10_advance_2) (fun _ h9 => h9) rfl dX10_advance_25 ?_
      refine lv_topi (fun x_33 ex_33 => ?_)
      have hx_33 : 0 ≤ x_33.toInt ∧ x_33.toInt ≤ 3000 := iv_of ex_33 (oInv.iv gI to.2 rfl rfl)
      have gx_33 : x_33.toInt = (oI Z o 0).toInt := iv_to ex_33
      clear ex_33
      refine lv_aload_n hx hb dX10_advance_28 rfl (lv_at hl 1 rfl) ?_
      refine va_get (D := (dC, dI)) (ci := 10) (v := .int (oI Z o 0)) (C := RX10) (T := TX10) (N := 16) hx hb hts in_wsX10_advance_X10 hown hK hP q_1 hq_1 rfl 0 (by decide) (hts (.fieldLink RX10 73 "ShipOffice" "now" "I") iw_X10_advance_2) (fun _ h9 => h9) rfl dX10_advance_29 ?_
      refine lv_topi (fun x_34 ex_34 => ?_)
      have hx_34 : 0 ≤ x_34.toInt ∧ x_34.toInt ≤ 3000 := iv_of ex_34 (oInv.iv gI to.2 rfl rfl)
      have gx_34 : x_34.toInt = (oI Z o 0).toInt := iv_to ex_34
      clear ex_34
      refine lv_aload_n hx hb dX10_advance_32 rfl (lv_at hl 1 rfl) ?_
      refine va_get (D := (dC, dI)) (ci := 10) (v := .ref lw) (C := RX10) (T := TX10) (N := 16) hx hb hts in_wsX10_advance_X10 hown hK hP q_1 hq_1 rfl 8 (by decide) (hts (.fieldLink RX10 30 "ShipOffice" "law" "LShipOffice$Law;") iw_X10_advance_3) (fun _ h9 => h9) (o_rd hlw0) dX10_advance_33 ?_
      have hFc : ∀ q, va_A [] H.size q → A q := pu_free hS hA
      refine va_calli (va_runV (As := [.int x_33, .int x_34, .ref lw]) (rest := []) ⟨hx, hb, hml, hown, hts⟩ (c_X1_stateOn_c l dC dI H.size cq Z gI b_6 tb_6 x_33 (by omega) x_34 (by omega) lw tlw o to v fa hR x1.toNatClampNeg ljb_6 ejb_6 hLr (by omega)) (cwV 3 hts gX10_advance_X1_stateOn rfl rfl rfl (by decide +kernel) ⟨(Nat.le_of_ble_eq_true rfl), (Nat.le_of_ble_eq_true rfl)⟩) (pr_V (r := (RX1, TX1, 18)) hP hK hD q_18 1 rfl hq_18) rfl rfl hl.1 rfl (lv_room (Nat.le_of_ble_eq_true rfl)) dX10_advance_36 ⟨(Nat.le_of_ble_eq_true rfl), (Nat.le_of_ble_eq_true rfl)⟩) hS (fun q _ h => hFc q h) hFc (fun r_36 u t H locs ht hvm w_35 hB hz1 hk1 hS => ?_)
      have hP := pu_keep hP hk1
      clear hk1 hz1 hvm hB ht hFc
      obtain ⟨hb_37, hx_38⟩ := w_35
      refine lv_if_eq (tgt := 49) hx hb dX10_advance_39 (by decide) (fun c_39 => ?_) (fun c_39 => ?_)
      · have dc_39 := c_eq (a := r_36.toInt) (b := 0) rfl (by decide) c_39
        refine lv_iload_n hx hb dX10_advance_49 rfl (lv_at hl 3 rfl) ?_
        refine lv_iconst (v := 1) hx hb dX10_advance_50 (by decide) ?_
        refine lv_icmp_ge (tgt := 61) hx hb dX10_advance_51 (by decide) (fun c_40 => ?_) (fun c_40 => ?_)
        · have dc_40 := c_le (a := 1) (b := x2.toInt) (by decide) rfl c_40
          refine lv_iload_n hx hb dX10_advance_61 rfl (lv_at hl 3 rfl) ?_
          refine lv_ldc (v := 99999) hx hb hown (hts (.constant RX10 85 (99999)) (by decide +kernel)) dX10_advance_62 ?_
          refine lv_icmp_le (tgt := 74) hx hb dX10_advance_64 (by decide) (fun c_41 => ?_) (fun c_41 => ?_)
          · have dc_41 := c_le (a := x2.toInt) (b := 99999) rfl (by decide) c_41
            refine lv_aload_n hx hb dX10_advance_74 rfl (lv_at hl 0 rfl) ?_
            refine lv_iload_n hx hb dX10_advance_75 rfl (lv_at hl 3 rfl) ?_
            refine va_put (D := (dC, dI)) (ci := 1) (v := .int x2) (ty := .int) (C := RX1) (T := TX1) (N := 18) hx hb hts in_wsX10_advance_X1 tyX1 tyX1_ok nmX1 hown hK hP hD hS q_18 hq_18 rfl 9 (by decide) (hts (.fieldLink RX10 240 "ShipOffice$Agreement" "note" "I") iw_X10_advance_1) (fun _ h9 => h9) rfl (by decide +kernel) rfl rfl (Nat.le_of_ble_eq_true rfl) dX10_advance_76 (fun H locs hP1 hD1 hS => ?_)
            obtain ⟨S_42, eS_42⟩ : ∃ zq, zq = setI Z b_6 9 x2 := ⟨_, rfl⟩
            have hP : va_P (dC, dI) vwCl (oW cq S_42) H := by rw [eS_42]; exact cP (oset tb_6.1 hq_18 hD rfl (he_1_9 tb_6.2) neI) hP1
            have hD : va_D A (oW cq S_42) := by rw [eS_42]; exact cD (oset tb_6.1 hq_18 hD rfl (he_1_9 tb_6.2) neI) hD1
            clear hP1 hD1
            have hIS_42 : oInv S_42 := by rw [eS_42]; exact oInv.I0 (k := 1) (lo := -2147483648) (hi := 2147483647) gI tb_6.2 (by decide) rfl rfl rfl (iv_all _)
            have XS_42 : oX [109] Z S_42 := by rw [eS_42]; exact oX.I (k := 1) (key := 109) tb_6.2 rfl (List.mem_singleton.mpr rfl)
            have pk_43 : oP S_42 o 8 = some lw := by rw [eS_42]; exact hlw0
            have pk_44 : oP S_42 b_6 0 = some amb_6 := by rw [eS_42]; exact fm3b_6
            have pk_45 : oP S_42 b_6 1 = some avb_6 := by rw [eS_42]; exact fv3b_6
            have X_46 : oX [109, 2107] Z S_42 := oX.st oX.rf XS_42 (by decide)
            have g_47 : (oI S_42 b_6 9).toInt = x2.toInt := by rw [eS_42, setI_same]
            have g_48 : (oI S_42 o 0).toInt = (oI Z o 0).toInt := by rw [eS_42, setI_oth (ty_ne to tb_6 (by decide))]
            refine lv_iconst (v := 1) hx hb dX10_advance_79 (by decide) ?_
            exact W.iret (v := 1) hx hb hr (fun t ht hW => ⟨⟨1, S_42, rfl, ⟨hIS_42, X_46, ⟨by have rc : (1 : Int32).toInt = 1 := (by decide); try clear fppb_6; try clear fSavb_6; try clear fLavb_6; try clear fy4avb_6; have kc0 : (0 : Int32).toInt = 0 := (by decide); have kc1 : (1 : Int32).toInt = 1 := (by decide); have kc2 : (2 : Int32).toInt = 2 := (by decide); have hs9 := hx_38; rw [show (x_33 : Int32).toInt = (v 38).toInt from (by omega)] at hs9; rw [show (x_34 : Int32).toInt = (v 38).toInt from (by omega)] at hs9; (first | exact Or.inr (Or.inr (Or.inr (Or.inr (⟨by omega, by omega, by omega, by omega, by omega, by omega⟩)))) | (unfold aAd; omega)), Or.inr ⟨by have rc : (1 : Int32).toInt = 1 := (by decide); try clear fppb_6; try clear fSavb_6; try clear fLavb_6; try clear fy4avb_6; have kc0 : (0 : Int32).toInt = 0 := (by decide); have kc1 : (1 : Int32).toInt = 1 := (by decide); have kc2 : (2 : Int32).toInt = 2 := (by decide); have hs9 := hx_38; rw [show (x_33 : Int32).toInt = (v 38).toInt from (by omega)] at hs9; rw [show (x_34 : Int32).toInt = (v 38).toInt from (by omega)] at hs9; omega, (by rw [← ejb_6, eS_42])⟩⟩⟩, ⟨by rw [ht]; exact hP, va_K.moved hW.alike hK, hD⟩⟩, hS.F ht⟩) hS.2.2 dX10_advance_80
          · have dc_41 := c_nle (a := x2.toInt) (b := 99999) rfl (by decide) c_41
            refine lv_aload_n hx hb dX10_advance_67 rfl (lv_at hl 1 rfl) ?_
            refine lv_bipush (v := (-6)) hx hb dX10_advance_68 (by decide) ?_
            have hFc := o_free hD hS hA
            refine va_calli (va_runV (As := [.int (-6)]) (rest := []) ⟨hx, hb, hml, hown, hts⟩ (c_X10_refuse_c l dC dI H.size cq Z gI o to (-6) (by decide)) (cwV 1 hts gX10_advance_X10_refuse rfl rfl rfl (by decide +kernel) ⟨(Nat.le_of_ble_eq_true rfl), (Nat.le_of_ble_eq_true rfl)⟩) (pr_V (r := (RX10, TX10, 16)) hP hK hD q_1 10 rfl hq_1) rfl rfl hl.1 rfl (lv_room (Nat.le_of_ble_eq_true rfl)) dX10_advance_70 ⟨(Nat.le_of_ble_eq_true rfl), (Nat.le_of_ble_eq_true rfl)⟩) hS (fun q _ h => hFc q h) hFc (fun r_50 u t H locs ht hvm w_49 hB hz1 hk1 hS => ?_)
            obtain ⟨S_51, rfl⟩ : ∃ z, z = u := ⟨_, rfl⟩
            obtain ⟨hP1, hK1, hD1⟩ := hB
            rw [ht] at hP1
            have hP : va_P (dC, dI) vwCl (oW cq S_51) H := hP1
            have hD : va_D A (oW cq S_51) := hD1.weaken (fun _ _ _ h => hFc _ h)
            clear hP1 hK1 hD1 hk1 hz1 hvm ht hFc
            obtain ⟨hIS_51, XS_51, hb_52, hx_53⟩ := w_49
            have X_54 : oX [109, 2107] Z S_51 := oX.st oX.rf XS_51 (by decide)
            have g_55 : (oI S_51 b_6 9).toInt = (oI Z b_6 9).toInt := by rw [oX.i XS_51 tb_6 (by decide)]
            have g_56 : (oI S_51 o 0).toInt = (oI Z o 0).toInt := by rw [oX.i XS_51 to (by decide)]
            have pk_57 : oP S_51 o 8 = some lw := by rw [oX.p XS_51 to (by decide)]; exact hlw0
            have pk_58 : oP S_51 b_6 0 = some amb_6 := by rw [oX.p XS_51 tb_6 (by decide)]; exact fm3b_6
            have pk_59 : oP S_51 b_6 1 = some avb_6 := by rw [oX.p XS_51 tb_6 (by decide)]; exact fv3b_6
            have rf_60 : r_50.toInt = -6 := by rw [hx_53.1]; decide
            exact W.iret (v := r_50) hx hb hr (fun t ht hW => ⟨⟨r_50, S_51, rfl, ⟨hIS_51, X_54, ⟨by try clear fppb_6; try clear fSavb_6; try clear fLavb_6; try clear fy4avb_6; have kc0 : (0 : Int32).toInt = 0 := (by decide); have kc1 : (1 : Int32).toInt = 1 := (by decide); have kc2 : (2 : Int32).toInt = 2 := (by decide); have hs9 := hx_38; rw [show (x_33 : Int32).toInt = (v 38).toInt from (by omega)] at hs9; rw [show (x_34 : Int32).toInt = (v 38).toInt from (by omega)] at hs9; (first | exact Or.inr (Or.inr (Or.inr (Or.inl ⟨by omega, by omega, by omega, by omega, by omega⟩))) | (unfold aAd; omega)), (Or.inl ⟨by omega, by rw [hx_53.1]; exact hx_53.2⟩)⟩⟩, ⟨by rw [ht]; exact hP, va_K.moved hW.alike hK, hD⟩⟩, hS.F ht⟩) hS.2.2 dX10_advance_73
        · have dc_40 := c_nle (a := 1) (b := x2.toInt) (by decide) rfl c_40
          refine lv_aload_n hx hb dX10_advance_54 rfl (lv_at hl 1 rfl) ?_
          refine lv_bipush (v := (-4)) hx hb dX10_advance_55 (by decide) ?_
          have hFc := o_free hD hS hA
          refine va_calli (va_runV (As := [.int (-4)]) (rest := []) ⟨hx, hb, hml, hown, hts⟩ (c_X10_refuse_c l dC dI H.size cq Z gI o to (-4) (by decide)) (cwV 1 hts gX10_advance_X10_refuse rfl rfl rfl (by decide +kernel) ⟨(Nat.le_of_ble_eq_true rfl), (Nat.le_of_ble_eq_true rfl)⟩) (pr_V (r := (RX10, TX10, 16)) hP hK hD q_1 10 rfl hq_1) rfl rfl hl.1 rfl (lv_room (Nat.le_of_ble_eq_true rfl)) dX10_advance_57 ⟨(Nat.le_of_ble_eq_true rfl), (Nat.le_of_ble_eq_true rfl)⟩) hS (fun q _ h => hFc q h) hFc (fun r_62 u t H locs ht hvm w_61 hB hz1 hk1 hS => ?_)
          obtain ⟨S_63, rfl⟩ : ∃ z, z = u := ⟨_, rfl⟩
          obtain ⟨hP1, hK1, hD1⟩ := hB
          rw [ht] at hP1
          have hP : va_P (dC, dI) vwCl (oW cq S_63) H := hP1
          have hD : va_D A (oW cq S_63) := hD1.weaken (fun _ _ _ h => hFc _ h)
          clear hP1 hK1 hD1 hk1 hz1 hvm ht hFc
          obtain ⟨hIS_63, XS_63, hb_64, hx_65⟩ := w_61
          have X_66 : oX [109, 2107] Z S_63 := oX.st oX.rf XS_63 (by decide)
          have g_67 : (oI S_63 b_6 9).toInt = (oI Z b_6 9).toInt := by rw [oX.i XS_63 tb_6 (by decide)]
          have g_68 : (oI S_63 o 0).toInt = (oI Z o 0).toInt := by rw [oX.i XS_63 to (by decide)]
          have pk_69 : oP S_63 o 8 = some lw := by rw [oX.p XS_63 to (by decide)]; exact hlw0
          have pk_70 : oP S_63 b_6 0 = some amb_6 := by rw [oX.p XS_63 tb_6 (by decide)]; exact fm3b_6
          have pk_71 : oP S_63 b_6 1 = some avb_6 := by rw [oX.p XS_63 tb_6 (by decide)]; exact fv3b_6
          have rf_72 : r_62.toInt = -4 := by rw [hx_65.1]; decide
          exact W.iret (v := r_62) hx hb hr (fun t ht hW => ⟨⟨r_62, S_63, rfl, ⟨hIS_63, X_66, ⟨by try clear fppb_6; try clear fSavb_6; try clear fLavb_6; try clear fy4avb_6; have kc0 : (0 : Int32).toInt = 0 := (by decide); have kc1 : (1 : Int32).toInt = 1 := (by decide); have kc2 : (2 : Int32).toInt = 2 := (by decide); have hs9 := hx_38; rw [show (x_33 : Int32).toInt = (v 38).toInt from (by omega)] at hs9; rw [show (x_34 : Int32).toInt = (v 38).toInt from (by omega)] at hs9; (first | exact Or.inr (Or.inr (Or.inl ⟨by omega, by omega, by omega, by omega, by omega⟩)) | (unfold aAd; omega)), (Or.inl ⟨by omega, by rw [hx_65.1]; exact hx_65.2⟩)⟩⟩, ⟨by rw [ht]; exact hP, va_K.moved hW.alike hK, hD⟩⟩, hS.F ht⟩) hS.2.2 dX10_advance_60
      · have dc_39 := c_ne (a := r_36.toInt) (b := 0) rfl (by decide) c_39
        refine lv_aload_n hx hb dX10_advance_42 rfl (lv_at hl 1 rfl) ?_
        refine lv_bipush (v := (-3)) hx hb dX10_advance_43 (by decide) ?_
        have hFc := o_free hD hS hA
        refine va_calli (va_runV (As := [.int (-3)]) (rest := []) ⟨hx, hb, hml, hown, hts⟩ (c_X10_refuse_c l dC dI H.size cq Z gI o to (-3) (by decide)) (cwV 1 hts gX10_advance_X10_refuse rfl rfl rfl (by decide +kernel) ⟨(Nat.le_of_ble_eq_true rfl), (Nat.le_of_ble_eq_true rfl)⟩) (pr_V (r := (RX10, TX10, 16)) hP hK hD q_1 10 rfl hq_1) rfl rfl hl.1 rfl (lv_room (Nat.le_of_ble_eq_true rfl)) dX10_advance_45 ⟨(Nat.le_of_ble_eq_true rfl), (Nat.le_of_ble_eq_true rfl)⟩) hS (fun q _ h => hFc q h) hFc (fun r_74 u t H locs ht hvm w_73 hB hz1 hk1 hS => ?_)
        obtain ⟨S_75, rfl⟩ : ∃ z, z = u := ⟨_, rfl⟩
        obtain ⟨hP1, hK1, hD1⟩ := hB
        rw [ht] at hP1
        have hP : va_P (dC, dI) vwCl (oW cq S_75) H := hP1
        have hD : va_D A (oW cq S_75) := hD1.weaken (fun _ _ _ h => hFc _ h)
        clear hP1 hK1 hD1 hk1 hz1 hvm ht hFc
        obtain ⟨hIS_75, XS_75, hb_76, hx_77⟩ := w_73
        have X_78 : oX [109, 2107] Z S_75 := oX.st oX.rf XS_75 (by decide)
        have g_79 : (oI S_75 b_6 9).toInt = (oI Z b_6 9).toInt := by rw [oX.i XS_75 tb_6 (by decide)]
        have g_80 : (oI S_75 o 0).toInt = (oI Z o 0).toInt := by rw [oX.i XS_75 to (by decide)]
        have pk_81 : oP S_75 o 8 = some lw := by rw [oX.p XS_75 to (by decide)]; exact hlw0
        have pk_82 : oP S_75 b_6 0 = some amb_6 := by rw [oX.p XS_75 tb_6 (by decide)]; exact fm3b_6
        have pk_83 : oP S_75 b_6 1 = some avb_6 := by rw [oX.p XS_75 tb_6 (by decide)]; exact fv3b_6
        have rf_84 : r_74.toInt = -3 := by rw [hx_77.1]; decide
        exact W.iret (v := r_74) hx hb hr (fun t ht hW => ⟨⟨r_74, S_75, rfl, ⟨hIS_75, X_78, ⟨by try clear fppb_6; try clear fSavb_6; try clear fLavb_6; try clear fy4avb_6; have kc0 : (0 : Int32).toInt = 0 := (by decide); have kc1 : (1 : Int32).toInt = 1 := (by decide); have kc2 : (2 : Int32).toInt = 2 := (by decide); have hs9 := hx_38; rw [show (x_33 : Int32).toInt = (v 38).toInt from (by omega)] at hs9; rw [show (x_34 : Int32).toInt = (v 38).toInt from (by omega)] at hs9; (first | exact Or.inr (Or.inl ⟨by omega, by omega, by omega⟩) | (unfold aAd; omega)), (Or.inl ⟨by omega, by rw [hx_77.1]; exact hx_77.2⟩)⟩⟩, ⟨by rw [ht]; exact hP, va_K.moved hW.alike hK, hD⟩⟩, hS.F ht⟩) hS.2.2 dX10_advance_48
set_option maxHeartbeats 4000000 in
set_option maxRecDepth 100000 in
theorem c_X10_sold_c (l : Launch) (dC : Nat → ClassId) (dI : Nat → Nat → Nat) (sz : Nat) (cq : Nat → ClassId) (Z : oS) (gI : oInv Z) (o : Nat) (to : oty Z o 10) (x1 : Int32) (x2 : Int32) (v : Nat → Int32) (fa : Nat → Nat → Int32) (hR : RC Z o v fa) (hE : RX Z o v fa) : Met l yX10_sold wsX10_sold ({ frames := 1, cells := 0, slots := 0, locals := 21 }) (va_Pc [.ref o, .int x1, .int x2] (pcW (dC, dI) (oT cq) (oW cq Z) sz)) (va_Qi (fun (r : Int32) (u : oS) => oInv u ∧ oX [110, 2107] Z u ∧ (aSo (v 43).toInt x1.toInt (fa 27 x1.toNatClampNeg).toInt (fa 28 x1.toNatClampNeg).toInt x2.toInt r.toInt ∧ rOo Z o u r (u = setI Z (agA Z o x1.toNatClampNeg) 10 x2))) (fun u t => va_P (dC, dI) vwCl (oW cq u) t.heap ∧ va_K (dC, dI) vwCl (oT cq) t ∧ va_D (va_A (oW cq Z) sz) (oW cq u)) (va_A (oW cq Z) sz)) 0 0 (va_A (oW cq Z) sz) := by
  refine Met.ofW (cc := cX10_sold) (maxL := 4) (ret := (some .int)) (by decide) rfl ?_
  intro p e s m args below meth c s₁ B hml hv
  obtain ⟨rfl, hsz, hP, hK, hD0⟩ := hv
  have hx := B.exec
  have hb := B.bytes
  have hr := B.returns
  have hts := atoms_spec (ws := wsX10_sold) B.pre
  have hown : s.vm.findClass RX10 = some m.cls := findClass_of_methodNamed B.named
  have hlocks := B.notSynchronized
  subst hsz
  have hD := hD0.self (sz := s.heap.size)
  generalize hAe : va_A (oW cq Z) s.heap.size = A at hD ⊢
  have hA : ∀ q : Nat, s.heap.size ≤ q → A q := fun q h => by rw [← hAe]; exact Or.inr h
  have hS : va_S A s.heap s.heap [] := va_S.rf
  have hP : va_P (dC, dI) vwCl (oW cq Z) s.heap := hP
  have hl := lv_entry ([.ref o, .int x1, .int x2]) (n := 4) (Nat.le_of_ble_eq_true rfl)
  rw [lg_entry_eq]
  generalize (lg_sl ([.ref o, .int x1, .int x2]) ++ List.replicate (4 - (lg_sl ([.ref o, .int x1, .int x2])).length) Slot.unset).toArray = ls at hl ⊢
  have hl : lv_has ls 4 [(0, .ref o), (1, .int x1), (2, .int x2)] := hl
  obtain ⟨fn0, fn1, fn2, fn3, fn4⟩ := RC.n hR
  have fb38 : 0 ≤ (v 38).toInt ∧ (v 38).toInt ≤ 3000 := RC.V hR 38
  have fb39 : 0 ≤ (v 39).toInt ∧ (v 39).toInt ≤ 40 := RC.V hR 39
  have fb40 : 0 ≤ (v 40).toInt ∧ (v 40).toInt ≤ 20 := RC.V hR 40
  have fb43 : 0 ≤ (v 43).toInt ∧ (v 43).toInt ≤ 60 := RC.V hR 43
  have fb41 : 0 ≤ (v 41).toInt ∧ (v 41).toInt ≤ 200 := RC.V hR 41
  obtain ⟨lw, hlw0⟩ := oInv.nn (i := 8) gI to rfl
  have tlw : oty Z lw 5 := oInv.rd gI to.2 hlw0 rfl rfl
  have hLr : rLw Z lw v fa := by have q := RC.l hR; rw [oQ_e hlw0] at q; exact q
  refine lv_aload_n hx hb dX10_sold_0 rfl (lv_at hl 0 rfl) ?_
  refine lv_iload_n hx hb dX10_sold_1 rfl (lv_at hl 1 rfl) ?_
  have hFc : ∀ q, va_A [] s.heap.size q → A q := pu_free hS hA
  obtain ⟨q_1, hq_1⟩ := og (cq := cq) to.1 (oE_10 to.2)
  refine va_callq (va_runV (As := [.int x1]) (rest := []) ⟨hx, hb, hml, hown, hts⟩ (c_X10_agreementAt_c l dC dI s.heap.size cq Z gI o to x1 v fa hR) (cwV 1 hts gX10_sold_X10_agreementAt rfl rfl rfl (by decide +kernel) ⟨(Nat.le_of_ble_eq_true rfl), (Nat.le_of_ble_eq_true rfl)⟩) (pr_V (r := (RX10, TX10, 16)) hP hK hD q_1 10 rfl hq_1) rfl rfl hl.1 rfl (lv_room (Nat.le_of_ble_eq_true rfl)) dX10_sold_2 ⟨(Nat.le_of_ble_eq_true rfl), (Nat.le_of_ble_eq_true rfl)⟩) hS (fun q _ h => hFc q h) hFc (fun r_3 u t H locs ht hvm w_2 hB hz1 hk1 hS => ?_)
  have hP := pu_keep hP hk1
  clear hk1 hz1 hvm hB ht hFc
  obtain ⟨hk_4, hx_5⟩ := w_2
  rcases r_3 with _ | b_6
  · refine W.eq (g2 := F0 m 5 ls [.null]) rfl ?_
    have hnr_3 := atF_n hx_5
    refine lv_astore_nN (lv' := [(3, .null), (0, .ref o), (1, .int x1), (2, .int x2)]) hx hb dX10_sold_5 rfl hl (by decide) rfl (fun ls hl => ?_)
    refine lv_aload_nN hx hb dX10_sold_6 rfl (lv_at hl 0 rfl) ?_
    refine lv_ifnonnullN hx hb dX10_sold_7 ?_
    refine lv_aload_n hx hb dX10_sold_10 rfl (lv_at hl 1 rfl) ?_
    refine lv_iconst (v := (-1)) hx hb dX10_sold_11 (by decide) ?_
    have hFc := o_free hD hS hA
    refine va_calli (va_runV (As := [.int (-1)]) (rest := []) ⟨hx, hb, hml, hown, hts⟩ (c_X10_refuse_c l dC dI H.size cq Z gI o to (-1) (by decide)) (cwV 1 hts gX10_sold_X10_refuse rfl rfl rfl (by decide +kernel) ⟨(Nat.le_of_ble_eq_true rfl), (Nat.le_of_ble_eq_true rfl)⟩) (pr_V (r := (RX10, TX10, 16)) hP hK hD q_1 10 rfl hq_1) rfl rfl hl.1 rfl (lv_room (Nat.le_of_ble_eq_true rfl)) dX10_sold_12 ⟨(Nat.le_of_ble_eq_true rfl), (Nat.le_of_ble_eq_true rfl)⟩) hS (fun q _ h => hFc q h) hFc (fun r_8 u t H locs ht hvm w_7 hB hz1 hk1 hS => ?_)
    obtain ⟨S_9, rfl⟩ : ∃ z, z = u := ⟨_, rfl⟩
    obtain ⟨hP1, hK1, hD1⟩ := hB
    rw [ht] at hP1
    have hP : va_P (dC, dI) vwCl (oW cq S_9) H := hP1
    have hD : va_D A (oW cq S_9) := hD1.weaken (fun _ _ _ h => hFc _ h)
    clear hP1 hK1 hD1 hk1 hz1 hvm ht hFc
    obtain ⟨hIS_9, XS_9, hb_10, hx_11⟩ := w_7
    have X_12 : oX [110, 2107] Z S_9 := oX.st oX.rf XS_9 (by decide)
    have g_13 : (oI S_9 o 0).toInt = (oI Z o 0).toInt := by rw [oX.i XS_9 to (by decide)]
    have pk_14 : oP S_9 o 8 = some lw := by rw [oX.p XS_9 to (by decide)]; exact hlw0
    have rf_15 : r_8.toInt = -1 := by rw [hx_11.1]; decide
    exact W.iret (v := r_8) hx hb hr (fun t ht hW => ⟨⟨r_8, S_9, rfl, ⟨hIS_9, X_12, ⟨by have kc0 : (0 : Int32).toInt = 0 := (by decide); have kc1 : (1 : Int32).toInt = 1 := (by decide); have kc2 : (2 : Int32).toInt = 2 := (by decide); (first | exact Or.inl ⟨by omega, by omega⟩ | (unfold aSo; omega)), (Or.inl ⟨by omega, by rw [hx_11.1]; exact hx_11.2⟩)⟩⟩, ⟨by rw [ht]; exact hP, va_K.moved hW.alike hK, hD⟩⟩, hS.F ht⟩) hS.2.2 dX10_sold_15
  · refine W.eq (g2 := F0 m 5 ls [.ref b_6]) rfl ?_
    have tb_6 : oty Z b_6 1 := hk_4 b_6 rfl
    obtain ⟨hjb_6, ejb_6⟩ := atF_s hx_5
    have ljb_6 := ni_lt hjb_6.1 hjb_6.2
    have njb_6 := tn_i hjb_6.1
    have fAb_6 := RC.a hR ljb_6
    rw [← ejb_6] at fAb_6
    obtain ⟨⟨fm1b_6, fm2b_6, fm3b_6⟩, ⟨fv1b_6, fv2b_6, fv3b_6⟩, fsib_6, fppb_6, fwgb_6, frkb_6, fofb_6, fdeb_6, fchb_6⟩ := fAb_6
    have fBb_6 : 0 ≤ (fa 25 x1.toNatClampNeg).toInt ∧ (fa 25 x1.toNatClampNeg).toInt ≤ 3000 := RC.A hR 25 _
    have lamb_6 : (fa 20 x1.toNatClampNeg).toNatClampNeg < (v 39).toNatClampNeg := ni_lt fm1b_6 fm2b_6
    have namb_6 : (((fa 20 x1.toNatClampNeg).toNatClampNeg : Nat) : Int) = (fa 20 x1.toNatClampNeg).toInt := tn_i fm1b_6
    obtain ⟨amb_6, eamb_6⟩ : ∃ z, z = mnA Z o (fa 20 x1.toNatClampNeg).toNatClampNeg := ⟨_, rfl⟩
    rw [← eamb_6] at fm3b_6
    have tamb_6 : oty Z amb_6 6 := by rw [eamb_6]; exact (RC.tm hR gI to lamb_6).2
    have fMamb_6 := RC.m hR lamb_6
    rw [← eamb_6] at fMamb_6
    obtain ⟨fz0amb_6, fz1amb_6, fz2amb_6, fz3amb_6⟩ := fMamb_6
    rw [namb_6] at fz0amb_6
    have lavb_6 : (fa 21 x1.toNatClampNeg).toNatClampNeg < (v 40).toNatClampNeg := ni_lt fv1b_6 fv2b_6
    have navb_6 : (((fa 21 x1.toNatClampNeg).toNatClampNeg : Nat) : Int) = (fa 21 x1.toNatClampNeg).toInt := tn_i fv1b_6
    obtain ⟨avb_6, eavb_6⟩ : ∃ z, z = voA Z o (fa 21 x1.toNatClampNeg).toNatClampNeg := ⟨_, rfl⟩
    rw [← eavb_6] at fv3b_6
    have tavb_6 : oty Z avb_6 9 := by rw [eavb_6]; exact (RC.tv hR gI to lavb_6).2
    have fVavb_6 := RC.vo hR lavb_6
    rw [← eavb_6] at fVavb_6
    obtain ⟨fy0avb_6, fy1avb_6, fy2avb_6, fy3avb_6, fy4avb_6, fySavb_6, fyLavb_6, fyhavb_6⟩ := fVavb_6
    have fBavb_6 : 0 ≤ (fa 7 ((fa 21 x1.toNatClampNeg).toNatClampNeg)).toInt ∧ (fa 7 ((fa 21 x1.toNatClampNeg).toNatClampNeg)).toInt ≤ 3000 := RC.A hR 7 _
    have fSavb_6 := onc_i fySavb_6
    have fLavb_6 := onc_i fyLavb_6
    rw [navb_6] at fy0avb_6 fSavb_6 fLavb_6
    have fEb_6 := hE.1 x1.toNatClampNeg ljb_6
    rw [← ejb_6] at fEb_6
    obtain ⟨⟨fn1b_6, fn2b_6, fn3b_6⟩, fgb_6, ⟨fl1b_6, fl2b_6, fl3b_6⟩, ⟨ff1b_6, ff2b_6⟩, ⟨fs1b_6, fs2b_6, fs3b_6, fs4b_6, fs5b_6⟩⟩ := fEb_6
    unfold rXg at fgb_6
    have fX_16 : 0 ≤ (fa 30 x1.toNatClampNeg).toInt ∧ (fa 30 x1.toNatClampNeg).toInt ≤ 6 := RC.A hR 30 _
    have fX_17 : 0 ≤ (fa 31 x1.toNatClampNeg).toInt ∧ (fa 31 x1.toNatClampNeg).toInt ≤ 20 := RC.A hR 31 _
    refine lv_astore_n (lv' := [(3, .ref b_6), (0, .ref o), (1, .int x1), (2, .int x2)]) hx hb dX10_sold_5 rfl hl (by decide) rfl (fun ls hl => ?_)
    refine lv_aload_n hx hb dX10_sold_6 rfl (lv_at hl 0 rfl) ?_
    refine lv_ifnonnull (tgt := 16) hx hb dX10_sold_7 (by decide) ?_
    refine lv_aload_n hx hb dX10_sold_16 rfl (lv_at hl 0 rfl) ?_
    obtain ⟨q_18, hq_18⟩ := og (cq := cq) tb_6.1 (oE_1 tb_6.2)
    refine va_get (D := (dC, dI)) (ci := 1) (v := .int (oI Z b_6 9)) (C := RX1) (T := TX1) (N := 18) hx hb hts in_wsX10_sold_X1 hown hK hP q_18 hq_18 rfl 9 (by decide) (hts (.fieldLink RX10 240 "ShipOffice$Agreement" "note" "I") iw_X10_sold_1) (fun _ h9 => h9) rfl dX10_sold_17 ?_
    refine lv_topi (fun x_19 ex_19 => ?_)
    have hx_19 : 0 ≤ x_19.toInt ∧ x_19.toInt ≤ 99999 := iv_of ex_19 (by omega)
    have gx_19 : x_19.toInt = (oI Z b_6 9).toInt := iv_to ex_19
    clear ex_19
    refine lv_if_eq (tgt := 30) hx hb dX10_sold_20 (by decide) (fun c_20 => ?_) (fun c_20 => ?_)
    · have dc_20 := c_eq (a := x_19.toInt) (b := 0) rfl (by decide) c_20
      refine lv_aload_n hx hb dX10_sold_30 rfl (lv_at hl 1 rfl) ?_
      refine lv_bipush (v := (-3)) hx hb dX10_sold_31 (by decide) ?_
      have hFc := o_free hD hS hA
      refine va_calli (va_runV (As := [.int (-3)]) (rest := []) ⟨hx, hb, hml, hown, hts⟩ (c_X10_refuse_c l dC dI H.size cq Z gI o to (-3) (by decide)) (cwV 1 hts gX10_sold_X10_refuse rfl rfl rfl (by decide +kernel) ⟨(Nat.le_of_ble_eq_true rfl), (Nat.le_of_ble_eq_true rfl)⟩) (pr_V (r := (RX10, TX10, 16)) hP hK hD q_1 10 rfl hq_1) rfl rfl hl.1 rfl (lv_room (Nat.le_of_ble_eq_true rfl)) dX10_sold_33 ⟨(Nat.le_of_ble_eq_true rfl), (Nat.le_of_ble_eq_true rfl)⟩) hS (fun q _ h => hFc q h) hFc (fun r_22 u t H locs ht hvm w_21 hB hz1 hk1 hS => ?_)
      obtain ⟨S_23, rfl⟩ : ∃ z, z = u := ⟨_, rfl⟩
      obtain ⟨hP1, hK1, hD1⟩ := hB
      rw [ht] at hP1
      have hP : va_P (dC, dI) vwCl (oW cq S_23) H := hP1
      have hD : va_D A (oW cq S_23) := hD1.weaken (fun _ _ _ h => hFc _ h)
      clear hP1 hK1 hD1 hk1 hz1 hvm ht hFc
      obtain ⟨hIS_23, XS_23, hb_24, hx_25⟩ := w_21
      have X_26 : oX [110, 2107] Z S_23 := oX.st oX.rf XS_23 (by decide)
      have g_27 : (oI S_23 b_6 9).toInt = (oI Z b_6 9).toInt := by rw [oX.i XS_23 tb_6 (by decide)]
      have g_28 : (oI S_23 o 0).toInt = (oI Z o 0).toInt := by rw [oX.i XS_23 to (by decide)]
      have pk_29 : oP S_23 o 8 = some lw := by rw [oX.p XS_23 to (by decide)]; exact hlw0
      have pk_30 : oP S_23 b_6 0 = some amb_6 := by rw [oX.p XS_23 tb_6 (by decide)]; exact fm3b_6
      have pk_31 : oP S_23 b_6 1 = some avb_6 := by rw [oX.p XS_23 tb_6 (by decide)]; exact fv3b_6
      have rf_32 : r_22.toInt = -3 := by rw [hx_25.1]; decide
      exact W.iret (v := r_22) hx hb hr (fun t ht hW => ⟨⟨r_22, S_23, rfl, ⟨hIS_23, X_26, ⟨by try clear fppb_6; try clear fSavb_6; try clear fLavb_6; try clear fy4avb_6; have kc0 : (0 : Int32).toInt = 0 := (by decide); have kc1 : (1 : Int32).toInt = 1 := (by decide); have kc2 : (2 : Int32).toInt = 2 := (by decide); (first | exact Or.inr (Or.inl ⟨by omega, by omega, by omega⟩) | (unfold aSo; omega)), (Or.inl ⟨by omega, by rw [hx_25.1]; exact hx_25.2⟩)⟩⟩, ⟨by rw [ht]; exact hP, va_K.moved hW.alike hK, hD⟩⟩, hS.F ht⟩) hS.2.2 dX10_sold_36
    · have dc_20 := c_ne (a := x_19.toInt) (b := 0) rfl (by decide) c_20
      refine lv_aload_n hx hb dX10_sold_23 rfl (lv_at hl 0 rfl) ?_
      refine va_get (D := (dC, dI)) (ci := 1) (v := .int (oI Z b_6 10)) (C := RX1) (T := TX1) (N := 18) hx hb hts in_wsX10_sold_X1 hown hK hP q_18 hq_18 rfl 10 (by decide) (hts (.fieldLink RX10 243 "ShipOffice$Agreement" "given" "I") iw_X10_sold_2) (fun _ h9 => h9) rfl dX10_sold_24 ?_
      refine lv_topi (fun x_33 ex_33 => ?_)
      have gx_33 : x_33.toInt = (oI Z b_6 10).toInt := iv_to ex_33
      clear ex_33
      refine lv_if_eq (tgt := 37) hx hb dX10_sold_27 (by decide) (fun c_34 => ?_) (fun c_34 => ?_)
      · have dc_34 := c_eq (a := x_33.toInt) (b := 0) rfl (by decide) c_34
        refine lv_iload_n hx hb dX10_sold_37 rfl (lv_at hl 3 rfl) ?_
        refine lv_iconst (v := 1) hx hb dX10_sold_38 (by decide) ?_
        refine lv_icmp_ge (tgt := 49) hx hb dX10_sold_39 (by decide) (fun c_35 => ?_) (fun c_35 => ?_)
        · have dc_35 := c_le (a := 1) (b := x2.toInt) (by decide) rfl c_35
          refine lv_iload_n hx hb dX10_sold_49 rfl (lv_at hl 3 rfl) ?_
          refine lv_aload_n hx hb dX10_sold_50 rfl (lv_at hl 0 rfl) ?_
          refine va_get (D := (dC, dI)) (ci := 1) (v := .int (oI Z b_6 9)) (C := RX1) (T := TX1) (N := 18) hx hb hts in_wsX10_sold_X1 hown hK hP q_18 hq_18 rfl 9 (by decide) (hts (.fieldLink RX10 240 "ShipOffice$Agreement" "note" "I") iw_X10_sold_1) (fun _ h9 => h9) rfl dX10_sold_51 ?_
          refine lv_topi (fun x_36 ex_36 => ?_)
          have hx_36 : 0 ≤ x_36.toInt ∧ x_36.toInt ≤ 99999 := iv_of ex_36 (by omega)
          have gx_36 : x_36.toInt = (oI Z b_6 9).toInt := iv_to ex_36
          clear ex_36
          refine lv_icmp_lt (tgt := 64) hx hb dX10_sold_54 (by decide) (fun c_37 => ?_) (fun c_37 => ?_)
          · have dc_37 := c_lt (a := x2.toInt) (b := x_36.toInt) rfl rfl c_37
            refine lv_aload_n hx hb dX10_sold_64 rfl (lv_at hl 0 rfl) ?_
            refine lv_iload_n hx hb dX10_sold_65 rfl (lv_at hl 3 rfl) ?_
            refine va_put (D := (dC, dI)) (ci := 1) (v := .int x2) (ty := .int) (C := RX1) (T := TX1) (N := 18) hx hb hts in_wsX10_sold_X1 tyX1 tyX1_ok nmX1 hown hK hP hD hS q_18 hq_18 rfl 10 (by decide) (hts (.fieldLink RX10 243 "ShipOffice$Agreement" "given" "I") iw_X10_sold_2) (fun _ h9 => h9) rfl (by decide +kernel) rfl rfl (Nat.le_of_ble_eq_true rfl) dX10_sold_66 (fun H locs hP1 hD1 hS => ?_)
            obtain ⟨S_38, eS_38⟩ : ∃ zq, zq = setI Z b_6 10 x2 := ⟨_, rfl⟩
            have hP : va_P (dC, dI) vwCl (oW cq S_38) H := by rw [eS_38]; exact cP (oset tb_6.1 hq_18 hD rfl (he_1_10 tb_6.2) neI) hP1
            have hD : va_D A (oW cq S_38) := by rw [eS_38]; exact cD (oset tb_6.1 hq_18 hD rfl (he_1_10 tb_6.2) neI) hD1
            clear hP1 hD1
            have hIS_38 : oInv S_38 := by rw [eS_38]; exact oInv.I0 (k := 1) (lo := -2147483648) (hi := 2147483647) gI tb_6.2 (by decide) rfl rfl rfl (iv_all _)
            have XS_38 : oX [110] Z S_38 := by rw [eS_38]; exact oX.I (k := 1) (key := 110) tb_6.2 rfl (List.mem_singleton.mpr rfl)
            have pk_39 : oP S_38 o 8 = some lw := by rw [eS_38]; exact hlw0
            have pk_40 : oP S_38 b_6 0 = some amb_6 := by rw [eS_38]; exact fm3b_6
            have pk_41 : oP S_38 b_6 1 = some avb_6 := by rw [eS_38]; exact fv3b_6
            have X_42 : oX [110, 2107] Z S_38 := oX.st oX.rf XS_38 (by decide)
            have g_43 : (oI S_38 b_6 9).toInt = (oI Z b_6 9).toInt := by rw [eS_38, setI_ne (by decide)]
            have g_44 : (oI S_38 b_6 10).toInt = x2.toInt := by rw [eS_38, setI_same]
            have g_45 : (oI S_38 o 0).toInt = (oI Z o 0).toInt := by rw [eS_38, setI_oth (ty_ne to tb_6 (by decide))]
            refine lv_aload_n hx hb dX10_sold_69 rfl (lv_at hl 0 rfl) ?_
            have t_46 : oty S_38 b_6 1 := (oX.ty XS_38 tb_6)
            obtain ⟨q_47, hq_47⟩ := og (cq := cq) t_46.1 (oE_1 t_46.2)
            refine va_get (D := (dC, dI)) (ci := 1) (v := .int (oI S_38 b_6 9)) (C := RX1) (T := TX1) (N := 18) hx hb hts in_wsX10_sold_X1 hown hK hP q_47 hq_47 rfl 9 (by decide) (hts (.fieldLink RX10 240 "ShipOffice$Agreement" "note" "I") iw_X10_sold_1) (fun _ h9 => h9) rfl dX10_sold_70 ?_
            refine lv_topi (fun x_48 ex_48 => ?_)
            have hx_48 : 0 ≤ x_48.toInt ∧ x_48.toInt ≤ 99999 := iv_of ex_48 (by omega)
            have gx_48 : x_48.toInt = (oI S_38 b_6 9).toInt := iv_to ex_48
            clear ex_48
            refine lv_iload_n hx hb dX10_sold_73 rfl (lv_at hl 3 rfl) ?_
            refine lv_isub hx hb dX10_sold_74 ?_
            refine lv_topi (fun x_49 ex_49 => ?_)
            have hx_49 : x_49.toInt = x_48.toInt - x2.toInt := (iv_to ex_49).trans (sb_i rfl rfl (by omega) (by omega))
            clear ex_49
            exact W.iret (v := x_49) hx hb hr (fun t ht hW => ⟨⟨x_49, S_38, rfl, ⟨hIS_38, X_42, ⟨by try clear fppb_6; try clear fSavb_6; try clear fLavb_6; try clear fy4avb_6; have kc0 : (0 : Int32).toInt = 0 := (by decide); have kc1 : (1 : Int32).toInt = 1 := (by decide); have kc2 : (2 : Int32).toInt = 2 := (by decide); (first | exact Or.inr (Or.inr (Or.inr (Or.inr (⟨by omega, by omega, by omega, by omega, by omega, by omega⟩)))) | (unfold aSo; omega)), Or.inr ⟨by try clear fppb_6; try clear fSavb_6; try clear fLavb_6; try clear fy4avb_6; have kc0 : (0 : Int32).toInt = 0 := (by decide); have kc1 : (1 : Int32).toInt = 1 := (by decide); have kc2 : (2 : Int32).toInt = 2 := (by decide); omega, (by rw [← ejb_6, eS_38])⟩⟩⟩, ⟨by rw [ht]; exact hP, va_K.moved hW.alike hK, hD⟩⟩, hS.F ht⟩) hS.2.2 dX10_sold_75
          · have dc_37 := c_nlt (a := x2.toInt) (b := x_36.toInt) rfl rfl c_37
            refine lv_aload_n hx hb dX10_sold_57 rfl (lv_at hl 1 rfl) ?_
            refine lv_bipush (v := (-6)) hx hb dX10_sold_58 (by decide) ?_
            have hFc := o_free hD hS hA
            refine va_calli (va_runV (As := [.int (-6)]) (rest := []) ⟨hx, hb, hml, hown, hts⟩ (c_X10_refuse_c l dC dI H.size cq Z gI o to (-6) (by decide)) (cwV 1 hts gX10_sold_X10_refuse rfl rfl rfl (by decide +kernel) ⟨(Nat.le_of_ble_eq_true rfl), (Nat.le_of_ble_eq_true rfl)⟩) (pr_V (r := (RX10, TX10, 16)) hP hK hD q_1 10 rfl hq_1) rfl rfl hl.1 rfl (lv_room (Nat.le_of_ble_eq_true rfl)) dX10_sold_60 ⟨(Nat.le_of_ble_eq_true rfl), (Nat.le_of_ble_eq_true rfl)⟩) hS (fun q _ h => hFc q h) hFc (fun r_51 u t H locs ht hvm w_50 hB hz1 hk1 hS => ?_)
            obtain ⟨S_52, rfl⟩ : ∃ z, z = u := ⟨_, rfl⟩
            obtain ⟨hP1, hK1, hD1⟩ := hB
            rw [ht] at hP1
            have hP : va_P (dC, dI) vwCl (oW cq S_52) H := hP1
            have hD : va_D A (oW cq S_52) := hD1.weaken (fun _ _ _ h => hFc _ h)
            clear hP1 hK1 hD1 hk1 hz1 hvm ht hFc
            obtain ⟨hIS_52, XS_52, hb_53, hx_54⟩ := w_50
            have X_55 : oX [110, 2107] Z S_52 := oX.st oX.rf XS_52 (by decide)
            have g_56 : (oI S_52 b_6 9).toInt = (oI Z b_6 9).toInt := by rw [oX.i XS_52 tb_6 (by decide)]
            have g_57 : (oI S_52 b_6 10).toInt = (oI Z b_6 10).toInt := by rw [oX.i XS_52 tb_6 (by decide)]
            have g_58 : (oI S_52 o 0).toInt = (oI Z o 0).toInt := by rw [oX.i XS_52 to (by decide)]
            have pk_59 : oP S_52 o 8 = some lw := by rw [oX.p XS_52 to (by decide)]; exact hlw0
            have pk_60 : oP S_52 b_6 0 = some amb_6 := by rw [oX.p XS_52 tb_6 (by decide)]; exact fm3b_6
            have pk_61 : oP S_52 b_6 1 = some avb_6 := by rw [oX.p XS_52 tb_6 (by decide)]; exact fv3b_6
            have rf_62 : r_51.toInt = -6 := by rw [hx_54.1]; decide
            exact W.iret (v := r_51) hx hb hr (fun t ht hW => ⟨⟨r_51, S_52, rfl, ⟨hIS_52, X_55, ⟨by try clear fppb_6; try clear fSavb_6; try clear fLavb_6; try clear fy4avb_6; have kc0 : (0 : Int32).toInt = 0 := (by decide); have kc1 : (1 : Int32).toInt = 1 := (by decide); have kc2 : (2 : Int32).toInt = 2 := (by decide); (first | exact Or.inr (Or.inr (Or.inr (Or.inl ⟨by omega, by omega, by omega, by omega, by omega, by omega⟩))) | (unfold aSo; omega)), (Or.inl ⟨by omega, by rw [hx_54.1]; exact hx_54.2⟩)⟩⟩, ⟨by rw [ht]; exact hP, va_K.moved hW.alike hK, hD⟩⟩, hS.F ht⟩) hS.2.2 dX10_sold_63
        · have dc_35 := c_nle (a := 1) (b := x2.toInt) (by decide) rfl c_35
          refine lv_aload_n hx hb dX10_sold_42 rfl (lv_at hl 1 rfl) ?_
          refine lv_bipush (v := (-4)) hx hb dX10_sold_43 (by decide) ?_
          have hFc := o_free hD hS hA
          refine va_calli (va_runV (As := [.int (-4)]) (rest := []) ⟨hx, hb, hml, hown, hts⟩ (c_X10_refuse_c l dC dI H.size cq Z gI o to (-4) (by decide)) (cwV 1 hts gX10_sold_X10_refuse rfl rfl rfl (by decide +kernel) ⟨(Nat.le_of_ble_eq_true rfl), (Nat.le_of_ble_eq_true rfl)⟩) (pr_V (r := (RX10, TX10, 16)) hP hK hD q_1 10 rfl hq_1) rfl rfl hl.1 rfl (lv_room (Nat.le_of_ble_eq_true rfl)) dX10_sold_45 ⟨(Nat.le_of_ble_eq_true rfl), (Nat.le_of_ble_eq_true rfl)⟩) hS (fun q _ h => hFc q h) hFc (fun r_64 u t H locs ht hvm w_63 hB hz1 hk1 hS => ?_)
          obtain ⟨S_65, rfl⟩ : ∃ z, z = u := ⟨_, rfl⟩
          obtain ⟨hP1, hK1, hD1⟩ := hB
          rw [ht] at hP1
          have hP : va_P (dC, dI) vwCl (oW cq S_65) H := hP1
          have hD : va_D A (oW cq S_65) := hD1.weaken (fun _ _ _ h => hFc _ h)
          clear hP1 hK1 hD1 hk1 hz1 hvm ht hFc
          obtain ⟨hIS_65, XS_65, hb_66, hx_67⟩ := w_63
          have X_68 : oX [110, 2107] Z S_65 := oX.st oX.rf XS_65 (by decide)
          have g_69 : (oI S_65 b_6 9).toInt = (oI Z b_6 9).toInt := by rw [oX.i XS_65 tb_6 (by decide)]
          have g_70 : (oI S_65 b_6 10).toInt = (oI Z b_6 10).toInt := by rw [oX.i XS_65 tb_6 (by decide)]
          have g_71 : (oI S_65 o 0).toInt = (oI Z o 0).toInt := by rw [oX.i XS_65 to (by decide)]
          have pk_72 : oP S_65 o 8 = some lw := by rw [oX.p XS_65 to (by decide)]; exact hlw0
          have pk_73 : oP S_65 b_6 0 = some amb_6 := by rw [oX.p XS_65 tb_6 (by decide)]; exact fm3b_6
          have pk_74 : oP S_65 b_6 1 = some avb_6 := by rw [oX.p XS_65 tb_6 (by decide)]; exact fv3b_6
          have rf_75 : r_64.toInt = -4 := by rw [hx_67.1]; decide
          exact W.iret (v := r_64) hx hb hr (fun t ht hW => ⟨⟨r_64, S_65, rfl, ⟨hIS_65, X_68, ⟨by try clear fppb_6; try clear fSavb_6; try clear fLavb_6; try clear fy4avb_6; have kc0 : (0 : Int32).toInt = 0 := (by decide); have kc1 : (1 : Int32).toInt = 1 := (by decide); have kc2 : (2 : Int32).toInt = 2 := (by decide); (first | exact Or.inr (Or.inr (Or.inl ⟨by omega, by omega, by omega, by omega, by omega⟩)) | (unfold aSo; omega)), (Or.inl ⟨by omega, by rw [hx_67.1]; exact hx_67.2⟩)⟩⟩, ⟨by rw [ht]; exact hP, va_K.moved hW.alike hK, hD⟩⟩, hS.F ht⟩) hS.2.2 dX10_sold_48
      · have dc_34 := c_ne (a := x_33.toInt) (b := 0) rfl (by decide) c_34
        refine lv_aload_n hx hb dX10_sold_30 rfl (lv_at hl 1 rfl) ?_
        refine lv_bipush (v := (-3)) hx hb dX10_sold_31 (by decide) ?_
        have hFc := o_free hD hS hA
        refine va_calli (va_runV (As := [.int (-3)]) (rest := []) ⟨hx, hb, hml, hown, hts⟩ (c_X10_refuse_c l dC dI H.size cq Z gI o to (-3) (by decide)) (cwV 1 hts gX10_sold_X10_refuse rfl rfl rfl (by decide +kernel) ⟨(Nat.le_of_ble_eq_true rfl), (Nat.le_of_ble_eq_true rfl)⟩) (pr_V (r := (RX10, TX10, 16)) hP hK hD q_1 10 rfl hq_1) rfl rfl hl.1 rfl (lv_room (Nat.le_of_ble_eq_true rfl)) dX10_sold_33 ⟨(Nat.le_of_ble_eq_true rfl), (Nat.le_of_ble_eq_true rfl)⟩) hS (fun q _ h => hFc q h) hFc (fun r_77 u t H locs ht hvm w_76 hB hz1 hk1 hS => ?_)
        obtain ⟨S_78, rfl⟩ : ∃ z, z = u := ⟨_, rfl⟩
        obtain ⟨hP1, hK1, hD1⟩ := hB
        rw [ht] at hP1
        have hP : va_P (dC, dI) vwCl (oW cq S_78) H := hP1
        have hD : va_D A (oW cq S_78) := hD1.weaken (fun _ _ _ h => hFc _ h)
        clear hP1 hK1 hD1 hk1 hz1 hvm ht hFc
        obtain ⟨hIS_78, XS_78, hb_79, hx_80⟩ := w_76
        have X_81 : oX [110, 2107] Z S_78 := oX.st oX.rf XS_78 (by decide)
        have g_82 : (oI S_78 b_6 9).toInt = (oI Z b_6 9).toInt := by rw [oX.i XS_78 tb_6 (by decide)]
        have g_83 : (oI S_78 b_6 10).toInt = (oI Z b_6 10).toInt := by rw [oX.i XS_78 tb_6 (by decide)]
        have g_84 : (oI S_78 o 0).toInt = (oI Z o 0).toInt := by rw [oX.i XS_78 to (by decide)]
        have pk_85 : oP S_78 o 8 = some lw := by rw [oX.p XS_78 to (by decide)]; exact hlw0
        have pk_86 : oP S_78 b_6 0 = some amb_6 := by rw [oX.p XS_78 tb_6 (by decide)]; exact fm3b_6
        have pk_87 : oP S_78 b_6 1 = some avb_6 := by rw [oX.p XS_78 tb_6 (by decide)]; exact fv3b_6
        have rf_88 : r_77.toInt = -3 := by rw [hx_80.1]; decide
        exact W.iret (v := r_77) hx hb hr (fun t ht hW => ⟨⟨r_77, S_78, rfl, ⟨hIS_78, X_81, ⟨by try clear fppb_6; try clear fSavb_6; try clear fLavb_6; try clear fy4avb_6; have kc0 : (0 : Int32).toInt = 0 := (by decide); have kc1 : (1 : Int32).toInt = 1 := (by decide); have kc2 : (2 : Int32).toInt = 2 := (by decide); (first | exact Or.inr (Or.inl ⟨by omega, by omega, by omega⟩) | (unfold aSo; omega)), (Or.inl ⟨by omega, by rw [hx_80.1]; exact hx_80.2⟩)⟩⟩, ⟨by rw [ht]; exact hP, va_K.moved hW.alike hK, hD⟩⟩, hS.F ht⟩) hS.2.2 dX10_sold_36
