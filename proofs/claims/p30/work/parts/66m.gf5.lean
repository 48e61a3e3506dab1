


set_option maxHeartbeats 4000000 in
set_option maxRecDepth 100000 in
theorem c_X10_allot_c (l : Launch) (dC : Nat → ClassId) (dI : Nat → Nat → Nat) (sz : Nat) (cq : Nat → ClassId) (Z : oS) (gI : oInv Z) (o : Nat) (to : oty Z o 10) (x1 : Int32) (x2 : Int32) (v : Nat → Int32) (fa : Nat → Nat → Int32) (hR : RC Z o v fa) (hE : RX Z o v fa) : Met l yX10_allot wsX10_allot ({ frames := 4, cells := 0, slots := 0, locals := 106 }) (va_Pc [.ref o, .int x1, .int x2] (pcW (dC, dI) (oT cq) (oW cq Z) sz)) (va_Qi (fun (r : Int32) (u : oS) => oInv u ∧ oX [111, 2107, 2108, 5001] Z u ∧ (aAl (v 43).toInt x1.toInt (fa 29 x1.toNatClampNeg).toInt (gonI v fa x1.toNatClampNeg) x2.toInt (alQ (fa 22 x1.toNatClampNeg).toInt (alW v fa x1.toNatClampNeg x2)) r.toInt ∧ rO3 Z o u r (∃ S0, oInv S0 ∧ oX [2108, 5001] Z S0 ∧ u = setI S0 (agA Z o x1.toNatClampNeg) 11 x2))) (fun u t => va_P (dC, dI) vwCl (oW cq u) t.heap ∧ va_K (dC, dI) vwCl (oT cq) t ∧ va_D (va_A (oW cq Z) sz) (oW cq u)) (va_A (oW cq Z) sz)) 0 0 (va_A (oW cq Z) sz) := by
  refine Met.ofW (cc := cX10_allot) (maxL := 6) (ret := (some .int)) (by decide) rfl ?_
  intro p e s m args below meth c s₁ B hml hv
  obtain ⟨rfl, hsz, hP, hK, hD0⟩ := hv
  have hx := B.exec
  have hb := B.bytes
  have hr := B.returns
  have hts := atoms_spec (ws := wsX10_allot) B.pre
  have hown : s.vm.findClass RX10 = some m.cls := findClass_of_methodNamed B.named
  have hlocks := B.notSynchronized
  subst hsz
  have hD := hD0.self (sz := s.heap.size)
  generalize hAe : va_A (oW cq Z) s.heap.size = A at hD ⊢
  have hA : ∀ q : Nat, s.heap.size ≤ q → A q := fun q h => by rw [← hAe]; exact Or.inr h
  have hS : va_S A s.heap s.heap [] := va_S.rf
  have hP : va_P (dC, dI) vwCl (oW cq Z) s.heap := hP
  have hl := lv_entry ([.ref o, .int x1, .int x2]) (n := 6) (Nat.le_of_ble_eq_true rfl)
  rw [lg_entry_eq]
  generalize (lg_sl ([.ref o, .int x1, .int x2]) ++ List.replicate (6 - (lg_sl ([.ref o, .int x1, .int x2])).length) Slot.unset).toArray = ls at hl ⊢
  have hl : lv_has ls 6 [(0, .ref o), (1, .int x1), (2, .int x2)] := hl
  obtain ⟨fn0, fn1, fn2, fn3, fn4⟩ := RC.n hR
  have fb38 : 0 ≤ (v 38).toInt ∧ (v 38).toInt ≤ 3000 := RC.V hR 38
  have fb39 : 0 ≤ (v 39).toInt ∧ (v 39).toInt ≤ 40 := RC.V hR 39
  have fb40 : 0 ≤ (v 40).toInt ∧ (v 40).toInt ≤ 20 := RC.V hR 40
  have fb43 : 0 ≤ (v 43).toInt ∧ (v 43).toInt ≤ 60 := RC.V hR 43
  have fb41 : 0 ≤ (v 41).toInt ∧ (v 41).toInt ≤ 200 := RC.V hR 41
  obtain ⟨lw, hlw0⟩ := oInv.nn (i := 8) gI to rfl
  have tlw : oty Z lw 5 := oInv.rd gI to.2 hlw0 rfl rfl
  have hLr : rLw Z lw v fa := by have q := RC.l hR; rw [oQ_e hlw0] at q; exact q
  refine lv_aload_n hx hb dX10_allot_0 rfl (lv_at hl 0 rfl) ?_
  refine lv_iload_n hx hb dX10_allot_1 rfl (lv_at hl 1 rfl) ?_
  have hFc : ∀ q, va_A [] s.heap.size q → A q := pu_free hS hA
  obtain ⟨q_1, hq_1⟩ := og (cq := cq) to.1 (oE_10 to.2)
  refine va_callq (va_runV (As := [.int x1]) (rest := []) ⟨hx, hb, hml, hown, hts⟩ (c_X10_agreementAt_c l dC dI s.heap.size cq Z gI o to x1 v fa hR) (cwV 1 hts gX10_allot_X10_agreementAt rfl rfl rfl (by decide +kernel) ⟨(Nat.le_of_ble_eq_true rfl), (Nat.le_of_ble_eq_true rfl)⟩) (pr_V (r := (RX10, TX10, 16)) hP hK hD q_1 10 rfl hq_1) rfl rfl hl.1 rfl (lv_room (Nat.le_of_ble_eq_true rfl)) dX10_allot_2 ⟨(Nat.le_of_ble_eq_true rfl), (Nat.le_of_ble_eq_true rfl)⟩) hS (fun q _ h => hFc q h) hFc (fun r_3 u t H locs ht hvm w_2 hB hz1 hk1 hS => ?_)
  have hP := pu_keep hP hk1
  clear hk1 hz1 hvm hB ht hFc
  obtain ⟨hk_4, hx_5⟩ := w_2
  rcases r_3 with _ | b_6
  · refine W.eq (g2 := F0 m 5 ls [.null]) rfl ?_
    have hnr_3 := atF_n hx_5
    refine lv_astore_nN (lv' := [(3, .null), (0, .ref o), (1, .int x1), (2, .int x2)]) hx hb dX10_allot_5 rfl hl (by decide) rfl (fun ls hl => ?_)
    refine lv_aload_nN hx hb dX10_allot_6 rfl (lv_at hl 0 rfl) ?_
    refine lv_ifnonnullN hx hb dX10_allot_7 ?_
    refine lv_aload_n hx hb dX10_allot_10 rfl (lv_at hl 1 rfl) ?_
    refine lv_iconst (v := (-1)) hx hb dX10_allot_11 (by decide) ?_
    have hFc := o_free hD hS hA
    refine va_calli (va_runV (As := [.int (-1)]) (rest := []) ⟨hx, hb, hml, hown, hts⟩ (c_X10_refuse_c l dC dI H.size cq Z gI o to (-1) (by decide)) (cwV 1 hts gX10_allot_X10_refuse rfl rfl rfl (by decide +kernel) ⟨(Nat.le_of_ble_eq_true rfl), (Nat.le_of_ble_eq_true rfl)⟩) (pr_V (r := (RX10, TX10, 16)) hP hK hD q_1 10 rfl hq_1) rfl rfl hl.1 rfl (lv_room (Nat.le_of_ble_eq_true rfl)) dX10_allot_12 ⟨(Nat.le_of_ble_eq_true rfl), (Nat.le_of_ble_eq_true rfl)⟩) hS (fun q _ h => hFc q h) hFc (fun r_8 u t H locs ht hvm w_7 hB hz1 hk1 hS => ?_)
    obtain ⟨S_9, rfl⟩ : ∃ z, z = u := ⟨_, rfl⟩
    obtain ⟨hP1, hK1, hD1⟩ := hB
    rw [ht] at hP1
    have hP : va_P (dC, dI) vwCl (oW cq S_9) H := hP1
    have hD : va_D A (oW cq S_9) := hD1.weaken (fun _ _ _ h => hFc _ h)
    clear hP1 hK1 hD1 hk1 hz1 hvm ht hFc
    obtain ⟨hIS_9, XS_9, hb_10, hx_11⟩ := w_7
    have X_12 : oX [111, 2107, 2108, 5001] Z S_9 := oX.st oX.rf XS_9 (by decide)
    have g_13 : (oI S_9 o 0).toInt = (oI Z o 0).toInt := by rw [oX.i XS_9 to (by decide)]
    have pk_14 : oP S_9 o 8 = some lw := by rw [oX.p XS_9 to (by decide)]; exact hlw0
    have rf_15 : r_8.toInt = -1 := by rw [hx_11.1]; decide
    exact W.iret (v := r_8) hx hb hr (fun t ht hW => ⟨⟨r_8, S_9, rfl, ⟨hIS_9, X_12, ⟨by have kc0 : (0 : Int32).toInt = 0 := (by decide); have kc1 : (1 : Int32).toInt = 1 := (by decide); have kc2 : (2 : Int32).toInt = 2 := (by decide); unfold aAl; omega, Or.inl ⟨by omega, Z, gI, oX.rf, by rw [hx_11.1]; exact hx_11.2⟩⟩⟩, ⟨by rw [ht]; exact hP, va_K.moved hW.alike hK, hD⟩⟩, hS.F ht⟩) hS.2.2 dX10_allot_15
  · refine W.eq (g2 := F0 m 5 ls [.ref b_6]) rfl ?_
    have tb_6 : oty Z b_6 1 := hk_4 b_6 rfl
    obtain ⟨hjb_6, ejb_6⟩ := atF_s hx_5
    have ljb_6 := ni_lt hjb_6.1 hjb_6.2
    have njb_6 := tn_i hjb_6.1
    have fAb_6 := RC.a hR ljb_6
    rw [← ejb_6] at fAb_6
    obtain ⟨⟨fm1b_6, fm2b_6, fm3b_6⟩, ⟨fv1b_6, fv2b_6, fv3b_6⟩, fsib_6, fppb_6, fwgb_6, frkb_6, fofb_6, fdeb_6, fchb_6⟩ := fAb_6
    have fBb_6 : 0 ≤ (fa 25 x1.toNatClampNeg).toInt ∧ (fa 25 x1.toNatClampNeg).toInt ≤ 3000 := RC.A hR 25 _
    have lamb_6 : (fa 20 x1.toNatClampNeg).toNatClampNeg < (v 39).toNatClampNeg := ni_lt fm1b_6 fm2b_6
    have namb_6 : (((fa 20 x1.toNatClampNeg).toNatClampNeg : Nat) : Int) = (fa 20 x1.toNatClampNeg).toInt := tn_i fm1b_6
    obtain ⟨amb_6, eamb_6⟩ : ∃ z, z = mnA Z o (fa 20 x1.toNatClampNeg).toNatClampNeg := ⟨_, rfl⟩
    rw [← eamb_6] at fm3b_6
    have tamb_6 : oty Z amb_6 6 := by rw [eamb_6]; exact (RC.tm hR gI to lamb_6).2
    have fMamb_6 := RC.m hR lamb_6
    rw [← eamb_6] at fMamb_6
    obtain ⟨fz0amb_6, fz1amb_6, fz2amb_6, fz3amb_6⟩ := fMamb_6
    rw [namb_6] at fz0amb_6
    have lavb_6 : (fa 21 x1.toNatClampNeg).toNatClampNeg < (v 40).toNatClampNeg := ni_lt fv1b_6 fv2b_6
    have navb_6 : (((fa 21 x1.toNatClampNeg).toNatClampNeg : Nat) : Int) = (fa 21 x1.toNatClampNeg).toInt := tn_i fv1b_6
    obtain ⟨avb_6, eavb_6⟩ : ∃ z, z = voA Z o (fa 21 x1.toNatClampNeg).toNatClampNeg := ⟨_, rfl⟩
    rw [← eavb_6] at fv3b_6
    have tavb_6 : oty Z avb_6 9 := by rw [eavb_6]; exact (RC.tv hR gI to lavb_6).2
    have fVavb_6 := RC.vo hR lavb_6
    rw [← eavb_6] at fVavb_6
    obtain ⟨fy0avb_6, fy1avb_6, fy2avb_6, fy3avb_6, fy4avb_6, fySavb_6, fyLavb_6, fyhavb_6⟩ := fVavb_6
    have fBavb_6 : 0 ≤ (fa 7 ((fa 21 x1.toNatClampNeg).toNatClampNeg)).toInt ∧ (fa 7 ((fa 21 x1.toNatClampNeg).toNatClampNeg)).toInt ≤ 3000 := RC.A hR 7 _
    have fSavb_6 := onc_i fySavb_6
    have fLavb_6 := onc_i fyLavb_6
    rw [navb_6] at fy0avb_6 fSavb_6 fLavb_6
    have fEb_6 := hE.1 x1.toNatClampNeg ljb_6
    rw [← ejb_6] at fEb_6
    obtain ⟨⟨fn1b_6, fn2b_6, fn3b_6⟩, fgb_6, ⟨fl1b_6, fl2b_6, fl3b_6⟩, ⟨ff1b_6, ff2b_6⟩, ⟨fs1b_6, fs2b_6, fs3b_6, fs4b_6, fs5b_6⟩⟩ := fEb_6
    unfold rXg at fgb_6
    have fX_16 : 0 ≤ (fa 30 x1.toNatClampNeg).toInt ∧ (fa 30 x1.toNatClampNeg).toInt ≤ 6 := RC.A hR 30 _
    have fX_17 : 0 ≤ (fa 31 x1.toNatClampNeg).toInt ∧ (fa 31 x1.toNatClampNeg).toInt ≤ 20 := RC.A hR 31 _
    refine lv_astore_n (lv' := [(3, .ref b_6), (0, .ref o), (1, .int x1), (2, .int x2)]) hx hb dX10_allot_5 rfl hl (by decide) rfl (fun ls hl => ?_)
    refine lv_aload_n hx hb dX10_allot_6 rfl (lv_at hl 0 rfl) ?_
    refine lv_ifnonnull (tgt := 16) hx hb dX10_allot_7 (by decide) ?_
    refine lv_aload_n hx hb dX10_allot_16 rfl (lv_at hl 0 rfl) ?_
    obtain ⟨q_18, hq_18⟩ := og (cq := cq) tb_6.1 (oE_1 tb_6.2)
    refine va_get (D := (dC, dI)) (ci := 1) (v := .int (oI Z b_6 11)) (C := RX1) (T := TX1) (N := 18) hx hb hts in_wsX10_allot_X1 hown hK hP q_18 hq_18 rfl 11 (by decide) (hts (.fieldLink RX10 246 "ShipOffice$Agreement" "allotment" "I") iw_X10_allot_1) (fun _ h9 => h9) rfl dX10_allot_17 ?_
    refine lv_topi (fun x_19 ex_19 => ?_)
    have hx_19 : 0 ≤ x_19.toInt ∧ x_19.toInt ≤ 9999 := iv_of ex_19 (by omega)
    have gx_19 : x_19.toInt = (oI Z b_6 11).toInt := iv_to ex_19
    clear ex_19
    refine lv_if_ne (tgt := 30) hx hb dX10_allot_20 (by decide) (fun c_20 => ?_) (fun c_20 => ?_)
    · have dc_20 := c_ne (a := x_19.toInt) (b := 0) rfl (by decide) c_20
      refine lv_aload_n hx hb dX10_allot_30 rfl (lv_at hl 1 rfl) ?_
      refine lv_bipush (v := (-3)) hx hb dX10_allot_31 (by decide) ?_
      have hFc := o_free hD hS hA
      refine va_calli (va_runV (As := [.int (-3)]) (rest := []) ⟨hx, hb, hml, hown, hts⟩ (c_X10_refuse_c l dC dI H.size cq Z gI o to (-3) (by decide)) (cwV 1 hts gX10_allot_X10_refuse rfl rfl rfl (by decide +kernel) ⟨(Nat.le_of_ble_eq_true rfl), (Nat.le_of_ble_eq_true rfl)⟩) (pr_V (r := (RX10, TX10, 16)) hP hK hD q_1 10 rfl hq_1) rfl rfl hl.1 rfl (lv_room (Nat.le_of_ble_eq_true rfl)) dX10_allot_33 ⟨(Nat.le_of_ble_eq_true rfl), (Nat.le_of_ble_eq_true rfl)⟩) hS (fun q _ h => hFc q h) hFc (fun r_22 u t H locs ht hvm w_21 hB hz1 hk1 hS => ?_)
      obtain ⟨S_23, rfl⟩ : ∃ z, z = u := ⟨_, rfl⟩
      obtain ⟨hP1, hK1, hD1⟩ := hB
      rw [ht] at hP1
      have hP : va_P (dC, dI) vwCl (oW cq S_23) H := hP1
      have hD : va_D A (oW cq S_23) := hD1.weaken (fun _ _ _ h => hFc _ h)
      clear hP1 hK1 hD1 hk1 hz1 hvm ht hFc
      obtain ⟨hIS_23, XS_23, hb_24, hx_25⟩ := w_21
      have X_26 : oX [111, 2107, 2108, 5001] Z S_23 := oX.st oX.rf XS_23 (by decide)
      have g_27 : (oI S_23 b_6 4).toInt = (oI Z b_6 4).toInt := by rw [oX.i XS_23 tb_6 (by decide)]
      have g_28 : (oI S_23 b_6 11).toInt = (oI Z b_6 11).toInt := by rw [oX.i XS_23 tb_6 (by decide)]
      have g_29 : (oI S_23 o 0).toInt = (oI Z o 0).toInt := by rw [oX.i XS_23 to (by decide)]
      have pk_30 : oP S_23 o 8 = some lw := by rw [oX.p XS_23 to (by decide)]; exact hlw0
      have pk_31 : oP S_23 b_6 0 = some amb_6 := by rw [oX.p XS_23 tb_6 (by decide)]; exact fm3b_6
      have pk_32 : oP S_23 b_6 1 = some avb_6 := by rw [oX.p XS_23 tb_6 (by decide)]; exact fv3b_6
      have rf_33 : r_22.toInt = -3 := by rw [hx_25.1]; decide
      exact W.iret (v := r_22) hx hb hr (fun t ht hW => ⟨⟨r_22, S_23, rfl, ⟨hIS_23, X_26, ⟨by have kc0 : (0 : Int32).toInt = 0 := (by decide); have kc1 : (1 : Int32).toInt = 1 := (by decide); have kc2 : (2 : Int32).toInt = 2 := (by decide); have hgi := gonI_i v fa x1.toNatClampNeg; unfold aAl; omega, Or.inl ⟨by omega, Z, gI, oX.rf, by rw [hx_25.1]; exact hx_25.2⟩⟩⟩, ⟨by rw [ht]; exact hP, va_K.moved hW.alike hK, hD⟩⟩, hS.F ht⟩) hS.2.2 dX10_allot_36
    · have dc_20 := c_eq (a := x_19.toInt) (b := 0) rfl (by decide) c_20
      refine lv_aload_n hx hb dX10_allot_23 rfl (lv_at hl 0 rfl) ?_
      have hFc : ∀ q, va_A [] H.size q → A q := pu_free hS hA
      refine va_calli (va_runV (As := []) (rest := []) ⟨hx, hb, hml, hown, hts⟩ (c_X1_goesOn_c l dC dI H.size cq Z gI b_6 tb_6 o to v fa hR x1.toNatClampNeg ljb_6 ejb_6) (cwV 0 hts gX10_allot_X1_goesOn rfl rfl rfl (by decide +kernel) ⟨(Nat.le_of_ble_eq_true rfl), (Nat.le_of_ble_eq_true rfl)⟩) (pr_V (r := (RX1, TX1, 18)) hP hK hD q_18 1 rfl hq_18) rfl rfl hl.1 rfl (lv_room (Nat.le_of_ble_eq_true rfl)) dX10_allot_24 ⟨(Nat.le_of_ble_eq_true rfl), (Nat.le_of_ble_eq_true rfl)⟩) hS (fun q _ h => hFc q h) hFc (fun r_35 u t H locs ht hvm w_34 hB hz1 hk1 hS => ?_)
      have hP := pu_keep hP hk1
      clear hk1 hz1 hvm hB ht hFc
      obtain ⟨hb_36, hx_37⟩ := w_34
      refine lv_if_ne (tgt := 37) hx hb dX10_allot_27 (by decide) (fun c_38 => ?_) (fun c_38 => ?_)
      · have dc_38 := c_ne (a := r_35.toInt) (b := 0) rfl (by decide) c_38
        refine lv_iload_n hx hb dX10_allot_37 rfl (lv_at hl 3 rfl) ?_
        refine lv_iconst (v := 1) hx hb dX10_allot_38 (by decide) ?_
        refine lv_icmp_ge (tgt := 49) hx hb dX10_allot_39 (by decide) (fun c_39 => ?_) (fun c_39 => ?_)
        · have dc_39 := c_le (a := 1) (b := x2.toInt) (by decide) rfl c_39
          refine lv_iload_n hx hb dX10_allot_49 rfl (lv_at hl 3 rfl) ?_
          refine lv_sipush (v := 9999) hx hb dX10_allot_50 (by decide) ?_
          refine lv_icmp_le (tgt := 63) hx hb dX10_allot_53 (by decide) (fun c_40 => ?_) (fun c_40 => ?_)
          · have dc_40 := c_le (a := x2.toInt) (b := 9999) rfl (by decide) c_40
            refine lv_aload_n hx hb dX10_allot_63 rfl (lv_at hl 1 rfl) ?_
            refine lv_iconst (v := 3) hx hb dX10_allot_64 (by decide) ?_
            refine lv_aload_n hx hb dX10_allot_65 rfl (lv_at hl 0 rfl) ?_
            refine lv_aload_n hx hb dX10_allot_66 rfl (lv_at hl 1 rfl) ?_
            refine va_get (D := (dC, dI)) (ci := 10) (v := .int (oI Z o 0)) (C := RX10) (T := TX10) (N := 16) hx hb hts in_wsX10_allot_X10 hown hK hP q_1 hq_1 rfl 0 (by decide) (hts (.fieldLink RX10 73 "ShipOffice" "now" "I") iw_X10_allot_2) (fun _ h9 => h9) rfl dX10_allot_67 ?_
            refine lv_topi (fun x_41 ex_41 => ?_)
            have hx_41 : 0 ≤ x_41.toInt ∧ x_41.toInt ≤ 3000 := iv_of ex_41 (oInv.iv gI to.2 rfl rfl)
            have gx_41 : x_41.toInt = (oI Z o 0).toInt := iv_to ex_41
            clear ex_41
            refine lv_aload_n hx hb dX10_allot_70 rfl (lv_at hl 1 rfl) ?_
            refine va_get (D := (dC, dI)) (ci := 10) (v := .int (oI Z o 0)) (C := RX10) (T := TX10) (N := 16) hx hb hts in_wsX10_allot_X10 hown hK hP q_1 hq_1 rfl 0 (by decide) (hts (.fieldLink RX10 73 "ShipOffice" "now" "I") iw_X10_allot_2) (fun _ h9 => h9) rfl dX10_allot_71 ?_
            refine lv_topi (fun x_42 ex_42 => ?_)
            have hx_42 : 0 ≤ x_42.toInt ∧ x_42.toInt ≤ 3000 := iv_of ex_42 (oInv.iv gI to.2 rfl rfl)
            have gx_42 : x_42.toInt = (oI Z o 0).toInt := iv_to ex_42
            clear ex_42
            refine lv_iload_n hx hb dX10_allot_74 rfl (lv_at hl 3 rfl) ?_
            refine lv_iconst (v := 0) hx hb dX10_allot_75 (by decide) ?_
            have hFc := o_free hD hS hA
            refine va_calli (va_runV (As := [.int 3, .ref b_6, .int x_41, .int x_42, .int x2, .int 0]) (rest := []) ⟨hx, hb, hml, hown, hts⟩ (c_X10_worthFor_c l dC dI H.size cq Z gI o to 3 (by decide) b_6 tb_6 x_41 (by omega) x_42 (by omega) x2 0 v fa hR (by omega) (by decide) (by omega) x1.toNatClampNeg ljb_6 ejb_6) (cwV 6 hts gX10_allot_X10_worthFor rfl rfl rfl (by decide +kernel) ⟨(Nat.le_of_ble_eq_true rfl), (Nat.le_of_ble_eq_true rfl)⟩) (pr_V (r := (RX10, TX10, 16)) hP hK hD q_1 10 rfl hq_1) rfl rfl hl.1 rfl (lv_room (Nat.le_of_ble_eq_true rfl)) dX10_allot_76 ⟨(Nat.le_of_ble_eq_true rfl), (Nat.le_of_ble_eq_true rfl)⟩) hS (fun q _ h => hFc q h) hFc (fun r_44 u t H locs ht hvm w_43 hB hz1 hk1 hS => ?_)
            obtain ⟨S_45, rfl⟩ : ∃ z, z = u := ⟨_, rfl⟩
            obtain ⟨hP1, hK1, hD1⟩ := hB
            rw [ht] at hP1
            have hP : va_P (dC, dI) vwCl (oW cq S_45) H := hP1
            have hD : va_D A (oW cq S_45) := hD1.weaken (fun _ _ _ h => hFc _ h)
            clear hP1 hK1 hD1 hk1 hz1 hvm ht hFc
            obtain ⟨hIS_45, XS_45, hx_46⟩ := w_43
            have X_47 : oX [111, 2107, 2108, 5001] Z S_45 := oX.st oX.rf XS_45 (by decide)
            have g_48 : (oI S_45 b_6 4).toInt = (oI Z b_6 4).toInt := by rw [oX.i XS_45 tb_6 (by decide)]
            have g_49 : (oI S_45 b_6 11).toInt = (oI Z b_6 11).toInt := by rw [oX.i XS_45 tb_6 (by decide)]
            have g_50 : (oI S_45 o 0).toInt = (oI Z o 0).toInt := by rw [oX.i XS_45 to (by decide)]
            have pk_51 : oP S_45 o 8 = some lw := by rw [oX.p XS_45 to (by decide)]; exact hlw0
            have pk_52 : oP S_45 b_6 0 = some amb_6 := by rw [oX.p XS_45 tb_6 (by decide)]; exact fm3b_6
            have pk_53 : oP S_45 b_6 1 = some avb_6 := by rw [oX.p XS_45 tb_6 (by decide)]; exact fv3b_6
            refine lv_i2l (v := (r_44 : Int32).toInt64) hx hb dX10_allot_79 rfl ?_
            refine lv_lstore (lv' := [(4, .long ((r_44 : Int32).toInt64)), (3, .ref b_6), (0, .ref o), (1, .int x1), (2, .int x2)]) hx hb dX10_allot_80 hl (by decide) rfl (fun ls hl => ?_)
            refine lv_iload_n hx hb dX10_allot_82 rfl (lv_at hl 4 rfl) ?_
            refine lv_i2l (v := (x2 : Int32).toInt64) hx hb dX10_allot_83 rfl ?_
            refine lv_aload_n hx hb dX10_allot_84 rfl (lv_at hl 1 rfl) ?_
            have t_54 : oty S_45 b_6 1 := (oX.ty XS_45 tb_6)
            obtain ⟨q_55, hq_55⟩ := og (cq := cq) t_54.1 (oE_1 t_54.2)
            refine va_get (D := (dC, dI)) (ci := 1) (v := .int (oI S_45 b_6 4)) (C := RX1) (T := TX1) (N := 18) hx hb hts in_wsX10_allot_X1 hown hK hP q_55 hq_55 rfl 4 (by decide) (hts (.fieldLink RX10 223 "ShipOffice$Agreement" "wage" "I") iw_X10_allot_3) (fun _ h9 => h9) rfl dX10_allot_85 ?_
            refine lv_topi (fun x_56 ex_56 => ?_)
            have gx_56 : x_56.toInt = (oI S_45 b_6 4).toInt := iv_to ex_56
            clear ex_56
            refine lv_i2l (v := (x_56 : Int32).toInt64) hx hb dX10_allot_88 rfl ?_
            refine lv_lload hx hb dX10_allot_89 (lv_at hl 0 rfl) ?_
            refine lv_lmul hx hb dX10_allot_91 ?_
            refine lv_ldc2 (v := 100) hx hb hown (hts (.constantLong RX10 253 (100)) (by decide +kernel)) dX10_allot_92 ?_
            refine lv_ldiv hx hb dX10_allot_95 (by decide) ?_
            refine W.lcmp hx hb dX10_allot_96 ?_
            refine lv_topi (fun x_57 ex_57 => ?_)
            have hal9 := lg_al ex_57
            refine lv_if_le (tgt := 107) hx hb dX10_allot_97 (by decide) (fun c_58 => ?_) (fun c_58 => ?_)
            · have dc_58 := c_le (a := x_57.toInt) (b := 0) rfl (by decide) c_58
              refine lv_aload_n hx hb dX10_allot_107 rfl (lv_at hl 1 rfl) ?_
              refine lv_iload_n hx hb dX10_allot_108 rfl (lv_at hl 4 rfl) ?_
              refine va_put (D := (dC, dI)) (ci := 1) (v := .int x2) (ty := .int) (C := RX1) (T := TX1) (N := 18) hx hb hts in_wsX10_allot_X1 tyX1 tyX1_ok nmX1 hown hK hP hD hS q_55 hq_55 rfl 11 (by decide) (hts (.fieldLink RX10 246 "ShipOffice$Agreement" "allotment" "I") iw_X10_allot_1) (fun _ h9 => h9) rfl (by decide +kernel) rfl rfl (Nat.le_of_ble_eq_true rfl) dX10_allot_109 (fun H locs hP1 hD1 hS => ?_)
              obtain ⟨S_59, eS_59⟩ : ∃ zq, zq = setI S_45 b_6 11 x2 := ⟨_, rfl⟩
              have hP : va_P (dC, dI) vwCl (oW cq S_59) H := by rw [eS_59]; exact cP (oset t_54.1 hq_55 hD rfl (he_1_11 t_54.2) neI) hP1
              have hD : va_D A (oW cq S_59) := by rw [eS_59]; exact cD (oset t_54.1 hq_55 hD rfl (he_1_11 t_54.2) neI) hD1
              clear hP1 hD1
              have hIS_59 : oInv S_59 := by rw [eS_59]; exact oInv.I0 (k := 1) (lo := -2147483648) (hi := 2147483647) hIS_45 t_54.2 (by decide) rfl rfl rfl (iv_all _)
              have XS_59 : oX [111] S_45 S_59 := by rw [eS_59]; exact oX.I (k := 1) (key := 111) t_54.2 rfl (List.mem_singleton.mpr rfl)
              have pk_60 : oP S_59 o 8 = some lw := by rw [eS_59]; exact pk_51
              have pk_61 : oP S_59 b_6 0 = some amb_6 := by rw [eS_59]; exact pk_52
              have pk_62 : oP S_59 b_6 1 = some avb_6 := by rw [eS_59]; exact pk_53
              have X_63 : oX [111, 2107, 2108, 5001] Z S_59 := oX.st X_47 XS_59 (by decide)
              have g_64 : (oI S_59 b_6 4).toInt = (oI S_45 b_6 4).toInt := by rw [eS_59, setI_ne (by decide)]
              have g_65 : (oI S_59 b_6 11).toInt = x2.toInt := by rw [eS_59, setI_same]
              have g_66 : (oI S_59 o 0).toInt = (oI S_45 o 0).toInt := by rw [eS_59, setI_oth (ty_ne (oX.ty XS_45 to) t_54 (by decide))]
              refine lv_iconst (v := 1) hx hb dX10_allot_112 (by decide) ?_
              exact W.iret (v := 1) hx hb hr (fun t ht hW => ⟨⟨1, S_59, rfl, ⟨hIS_59, X_63, ⟨by have rc : (1 : Int32).toInt = 1 := (by decide); have kc0 : (0 : Int32).toInt = 0 := (by decide); have kc1 : (1 : Int32).toInt = 1 := (by decide); have kc2 : (2 : Int32).toInt = 2 := (by decide); have hgi := gonI_i v fa x1.toNatClampNeg; have eN : x_41 = v 38 := Int32.toInt_inj.mp (by omega); have hw9 := hx_46; rw [eN] at hw9; (try rw [show x_42.toInt = (v 38).toInt from (by omega)] at hw9); rw [show (3 : Int32).toInt = 3 from (by decide)] at hw9; have hi9 : r_44.toInt = alW v fa x1.toNatClampNeg x2 := congrArg Int32.toInt hw9; rw [hi9] at hal9; have hwg9 : x_56.toInt = (fa 22 x1.toNatClampNeg).toInt := (by omega); rw [hwg9] at hal9; unfold aAl; omega, Or.inr ⟨by have rc : (1 : Int32).toInt = 1 := (by decide); omega, S_45, hIS_45, (oX.st oX.rf XS_45 (by decide)), by rw [← ejb_6, eS_59]⟩⟩⟩, ⟨by rw [ht]; exact hP, va_K.moved hW.alike hK, hD⟩⟩, hS.F ht⟩) hS.2.2 dX10_allot_113
            · have dc_58 := c_nle (a := x_57.toInt) (b := 0) rfl (by decide) c_58
              refine lv_aload_n hx hb dX10_allot_100 rfl (lv_at hl 2 rfl) ?_
              refine lv_bipush (v := (-6)) hx hb dX10_allot_101 (by decide) ?_
              have t_67 : oty S_45 o 10 := (oX.ty XS_45 to)
              have hFc := o_free hD hS hA
              obtain ⟨q_68, hq_68⟩ := og (cq := cq) t_67.1 (oE_10 t_67.2)
              refine va_calli (va_runV (As := [.int (-6)]) (rest := []) ⟨hx, hb, hml, hown, hts⟩ (c_X10_refuse_c l dC dI H.size cq S_45 hIS_45 o t_67 (-6) (by decide)) (cwV 1 hts gX10_allot_X10_refuse rfl rfl rfl (by decide +kernel) ⟨(Nat.le_of_ble_eq_true rfl), (Nat.le_of_ble_eq_true rfl)⟩) (pr_V (r := (RX10, TX10, 16)) hP hK hD q_68 10 rfl hq_68) rfl rfl hl.1 rfl (lv_room (Nat.le_of_ble_eq_true rfl)) dX10_allot_103 ⟨(Nat.le_of_ble_eq_true rfl), (Nat.le_of_ble_eq_true rfl)⟩) hS (fun q _ h => hFc q h) hFc (fun r_70 u t H locs ht hvm w_69 hB hz1 hk1 hS => ?_)
              obtain ⟨S_71, rfl⟩ : ∃ z, z = u := ⟨_, rfl⟩
              obtain ⟨hP1, hK1, hD1⟩ := hB
              rw [ht] at hP1
              have hP : va_P (dC, dI) vwCl (oW cq S_71) H := hP1
              have hD : va_D A (oW cq S_71) := hD1.weaken (fun _ _ _ h => hFc _ h)
              clear hP1 hK1 hD1 hk1 hz1 hvm ht hFc
              obtain ⟨hIS_71, XS_71, hb_72, hx_73⟩ := w_69
              have X_74 : oX [111, 2107, 2108, 5001] Z S_71 := oX.st X_47 XS_71 (by decide)
              have g_75 : (oI S_71 b_6 4).toInt = (oI S_45 b_6 4).toInt := by rw [oX.i XS_71 t_54 (by decide)]
              have g_76 : (oI S_71 b_6 11).toInt = (oI S_45 b_6 11).toInt := by rw [oX.i XS_71 t_54 (by decide)]
              have g_77 : (oI S_71 o 0).toInt = (oI S_45 o 0).toInt := by rw [oX.i XS_71 t_67 (by decide)]
              have pk_78 : oP S_71 o 8 = some lw := by rw [oX.p XS_71 t_67 (by decide)]; exact pk_51
              have pk_79 : oP S_71 b_6 0 = some amb_6 := by rw [oX.p XS_71 t_54 (by decide)]; exact pk_52
              have pk_80 : oP S_71 b_6 1 = some avb_6 := by rw [oX.p XS_71 t_54 (by decide)]; exact pk_53
              have rf_81 : r_70.toInt = -6 := by rw [hx_73.1]; decide
              exact W.iret (v := r_70) hx hb hr (fun t ht hW => ⟨⟨r_70, S_71, rfl, ⟨hIS_71, X_74, ⟨by have kc0 : (0 : Int32).toInt = 0 := (by decide); have kc1 : (1 : Int32).toInt = 1 := (by decide); have kc2 : (2 : Int32).toInt = 2 := (by decide); have hgi := gonI_i v fa x1.toNatClampNeg; have eN : x_41 = v 38 := Int32.toInt_inj.mp (by omega); have hw9 := hx_46; rw [eN] at hw9; (try rw [show x_42.toInt = (v 38).toInt from (by omega)] at hw9); rw [show (3 : Int32).toInt = 3 from (by decide)] at hw9; have hi9 : r_44.toInt = alW v fa x1.toNatClampNeg x2 := congrArg Int32.toInt hw9; rw [hi9] at hal9; have hwg9 : x_56.toInt = (fa 22 x1.toNatClampNeg).toInt := (by omega); rw [hwg9] at hal9; unfold aAl; omega, Or.inl ⟨by omega, S_45, hIS_45, (oX.st oX.rf XS_45 (by decide)), by rw [hx_73.1]; exact hx_73.2⟩⟩⟩, ⟨by rw [ht]; exact hP, va_K.moved hW.alike hK, hD⟩⟩, hS.F ht⟩) hS.2.2 dX10_allot_106
          · have dc_40 := c_nle (a := x2.toInt) (b := 9999) rfl (by decide) c_40
            refine lv_aload_n hx hb dX10_allot_56 rfl (lv_at hl 1 rfl) ?_
            refine lv_bipush (v := (-6)) hx hb dX10_allot_57 (by decide) ?_
            have hFc := o_free hD hS hA
            refine va_calli (va_runV (As := [.int (-6)]) (rest := []) ⟨hx, hb, hml, hown, hts⟩ (c_X10_refuse_c l dC dI H.size cq Z gI o to (-6) (by decide)) (cwV 1 hts gX10_allot_X10_refuse rfl rfl rfl (by decide +kernel) ⟨(Nat.le_of_ble_eq_true rfl), (Nat.le_of_ble_eq_true rfl)⟩) (pr_V (r := (RX10, TX10, 16)) hP hK hD q_1 10 rfl hq_1) rfl rfl hl.1 rfl (lv_room (Nat.le_of_ble_eq_true rfl)) dX10_allot_59 ⟨(Nat.le_of_ble_eq_true rfl), (Nat.le_of_ble_eq_true rfl)⟩) hS (fun q _ h => hFc q h) hFc (fun r_83 u t H locs ht hvm w_82 hB hz1 hk1 hS => ?_)
            obtain ⟨S_84, rfl⟩ : ∃ z, z = u := ⟨_, rfl⟩
            obtain ⟨hP1, hK1, hD1⟩ := hB
            rw [ht] at hP1
            have hP : va_P (dC, dI) vwCl (oW cq S_84) H := hP1
            have hD : va_D A (oW cq S_84) := hD1.weaken (fun _ _ _ h => hFc _ h)
            clear hP1 hK1 hD1 hk1 hz1 hvm ht hFc
            obtain ⟨hIS_84, XS_84, hb_85, hx_86⟩ := w_82
            have X_87 : oX [111, 2107, 2108, 5001] Z S_84 := oX.st oX.rf XS_84 (by decide)
            have g_88 : (oI S_84 b_6 4).toInt = (oI Z b_6 4).toInt := by rw [oX.i XS_84 tb_6 (by decide)]
            have g_89 : (oI S_84 b_6 11).toInt = (oI Z b_6 11).toInt := by rw [oX.i XS_84 tb_6 (by decide)]
            have g_90 : (oI S_84 o 0).toInt = (oI Z o 0).toInt := by rw [oX.i XS_84 to (by decide)]
            have pk_91 : oP S_84 o 8 = some lw := by rw [oX.p XS_84 to (by decide)]; exact hlw0
            have pk_92 : oP S_84 b_6 0 = some amb_6 := by rw [oX.p XS_84 tb_6 (by decide)]; exact fm3b_6
            have pk_93 : oP S_84 b_6 1 = some avb_6 := by rw [oX.p XS_84 tb_6 (by decide)]; exact fv3b_6
            have rf_94 : r_83.toInt = -6 := by rw [hx_86.1]; decide
            exact W.iret (v := r_83) hx hb hr (fun t ht hW => ⟨⟨r_83, S_84, rfl, ⟨hIS_84, X_87, ⟨by have kc0 : (0 : Int32).toInt = 0 := (by decide); have kc1 : (1 : Int32).toInt = 1 := (by decide); have kc2 : (2 : Int32).toInt = 2 := (by decide); have hgi := gonI_i v fa x1.toNatClampNeg; unfold aAl; omega, Or.inl ⟨by omega, Z, gI, oX.rf, by rw [hx_86.1]; exact hx_86.2⟩⟩⟩, ⟨by rw [ht]; exact hP, va_K.moved hW.alike hK, hD⟩⟩, hS.F ht⟩) hS.2.2 dX10_allot_62
        · have dc_39 := c_nle (a := 1) (b := x2.toInt) (by decide) rfl c_39
          refine lv_aload_n hx hb dX10_allot_42 rfl (lv_at hl 1 rfl) ?_
          refine lv_bipush (v := (-4)) hx hb dX10_allot_43 (by decide) ?_
          have hFc := o_free hD hS hA
          refine va_calli (va_runV (As := [.int (-4)]) (rest := []) ⟨hx, hb, hml, hown, hts⟩ (c_X10_refuse_c l dC dI H.size cq Z gI o to (-4) (by decide)) (cwV 1 hts gX10_allot_X10_refuse rfl rfl rfl (by decide +kernel) ⟨(Nat.le_of_ble_eq_true rfl), (Nat.le_of_ble_eq_true rfl)⟩) (pr_V (r := (RX10, TX10, 16)) hP hK hD q_1 10 rfl hq_1) rfl rfl hl.1 rfl (lv_room (Nat.le_of_ble_eq_true rfl)) dX10_allot_45 ⟨(Nat.le_of_ble_eq_true rfl), (Nat.le_of_ble_eq_true rfl)⟩) hS (fun q _ h => hFc q h) hFc (fun r_96 u t H locs ht hvm w_95 hB hz1 hk1 hS => ?_)
          obtain ⟨S_97, rfl⟩ : ∃ z, z = u := ⟨_, rfl⟩
          obtain ⟨hP1, hK1, hD1⟩ := hB
          rw [ht] at hP1
          have hP : va_P (dC, dI) vwCl (oW cq S_97) H := hP1
          have hD : va_D A (oW cq S_97) := hD1.weaken (fun _ _ _ h => hFc _ h)
          clear hP1 hK1 hD1 hk1 hz1 hvm ht hFc
          obtain ⟨hIS_97, XS_97, hb_98, hx_99⟩ := w_95
          have X_100 : oX [111, 2107, 2108, 5001] Z S_97 := oX.st oX.rf XS_97 (by decide)
          have g_101 : (oI S_97 b_6 4).toInt = (oI Z b_6 4).toInt := by rw [oX.i XS_97 tb_6 (by decide)]
          have g_102 : (oI S_97 b_6 11).toInt = (oI Z b_6 11).toInt := by rw [oX.i XS_97 tb_6 (by decide)]
          have g_103 : (oI S_97 o 0).toInt = (oI Z o 0).toInt := by rw [oX.i XS_97 to (by decide)]
          have pk_104 : oP S_97 o 8 = some lw := by rw [oX.p XS_97 to (by decide)]; exact hlw0
          have pk_105 : oP S_97 b_6 0 = some amb_6 := by rw [oX.p XS_97 tb_6 (by decide)]; exact fm3b_6
          have pk_106 : oP S_97 b_6 1 = some avb_6 := by rw [oX.p XS_97 tb_6 (by decide)]; exact fv3b_6
          have rf_107 : r_96.toInt = -4 := by rw [hx_99.1]; decide
          exact W.iret (v := r_96) hx hb hr (fun t ht hW => ⟨⟨r_96, S_97, rfl, ⟨hIS_97, X_100, ⟨by have kc0 : (0 : Int32).toInt = 0 := (by decide); have kc1 : (1 : Int32).toInt = 1 := (by decide); have kc2 : (2 : Int32).toInt = 2 := (by decide); have hgi := gonI_i v fa x1.toNatClampNeg; unfold aAl; omega, Or.inl ⟨by omega, Z, gI, oX.rf, by rw [hx_99.1]; exact hx_99.2⟩⟩⟩, ⟨by rw [ht]; exact hP, va_K.moved hW.alike hK, hD⟩⟩, hS.F ht⟩) hS.2.2 dX10_allot_48
      · have dc_38 := c_eq (a := r_35.toInt) (b := 0) rfl (by decide) c_38
        refine lv_aload_n hx hb dX10_allot_30 rfl (lv_at hl 1 rfl) ?_
        refine lv_bipush (v := (-3)) hx hb dX10_allot_31 (by decide) ?_
        have hFc := o_free hD hS hA
        refine va_calli (va_runV (As := [.int (-3)]) (rest := []) ⟨hx, hb, hml, hown, hts⟩ (c_X10_refuse_c l dC dI H.size cq Z gI o to (-3) (by decide)) (cwV 1 hts gX10_allot_X10_refuse rfl rfl rfl (by decide +kernel) ⟨(Nat.le_of_ble_eq_true rfl), (Nat.le_of_ble_eq_true rfl)⟩) (pr_V (r := (RX10, TX10, 16)) hP hK hD q_1 10 rfl hq_1) rfl rfl hl.1 rfl (lv_room (Nat.le_of_ble_eq_true rfl)) dX10_allot_33 ⟨(Nat.le_of_ble_eq_true rfl), (Nat.le_of_ble_eq_true rfl)⟩) hS (fun q _ h => hFc q h) hFc (fun r_109 u t H locs ht hvm w_108 hB hz1 hk1 hS => ?_)
        obtain ⟨S_110, rfl⟩ : ∃ z, z = u := ⟨_, rfl⟩
        obtain ⟨hP1, hK1, hD1⟩ := hB
        rw [ht] at hP1
        have hP : va_P (dC, dI) vwCl (oW cq S_110) H := hP1
        have hD : va_D A (oW cq S_110) := hD1.weaken (fun _ _ _ h => hFc _ h)
        clear hP1 hK1 hD1 hk1 hz1 hvm ht hFc
        obtain ⟨hIS_110, XS_110, hb_111, hx_112⟩ := w_108
        have X_113 : oX [111, 2107, 2108, 5001] Z S_110 := oX.st oX.rf XS_110 (by decide)
        have g_114 : (oI S_110 b_6 4).toInt = (oI Z b_6 4).toInt := by rw [oX.i XS_110 tb_6 (by decide)]
        have g_115 : (oI S_110 b_6 11).toInt = (oI Z b_6 11).toInt := by rw [oX.i XS_110 tb_6 (by decide)]
        have g_116 : (oI S_110 o 0).toInt = (oI Z o 0).toInt := by rw [oX.i XS_110 to (by decide)]
        have pk_117 : oP S_110 o 8 = some lw := by rw [oX.p XS_110 to (by decide)]; exact hlw0
        have pk_118 : oP S_110 b_6 0 = some amb_6 := by rw [oX.p XS_110 tb_6 (by decide)]; exact fm3b_6
        have pk_119 : oP S_110 b_6 1 = some avb_6 := by rw [oX.p XS_110 tb_6 (by decide)]; exact fv3b_6
        have rf_120 : r_109.toInt = -3 := by rw [hx_112.1]; decide
        exact W.iret (v := r_109) hx hb hr (fun t ht hW => ⟨⟨r_109, S_110, rfl, ⟨hIS_110, X_113, ⟨by have kc0 : (0 : Int32).toInt = 0 := (by decide); have kc1 : (1 : Int32).toInt = 1 := (by decide); have kc2 : (2 : Int32).toInt = 2 := (by decide); have hgi := gonI_i v fa x1.toNatClampNeg; unfold aAl; omega, Or.inl ⟨by omega, Z, gI, oX.rf, by rw [hx_112.1]; exact hx_112.2⟩⟩⟩, ⟨by rw [ht]; exact hP, va_K.moved hW.alike hK, hD⟩⟩, hS.F ht⟩) hS.2.2 dX10_allot_36
