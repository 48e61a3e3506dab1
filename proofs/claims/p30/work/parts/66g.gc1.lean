


set_option maxHeartbeats 4000000 in
set_option maxRecDepth 100000 in
theorem c_X10_fine_c (l : Launch) (dC : Nat → ClassId) (dI : Nat → Nat → Nat) (sz : Nat) (cq : Nat → ClassId) (Z : oS) (gI : oInv Z) (o : Nat) (to : oty Z o 10) (x1 : Int32) (x2 : Int32) (x3 : Int32) (x4 : Int32) (hx4 : 0 ≤ x4.toInt ∧ x4.toInt ≤ 1) (v : Nat → Int32) (fa : Nat → Nat → Int32) (hR : RC Z o v fa) (hE : RX Z o v fa) : Met l yX10_fine wsX10_fine ({ frames := 2, cells := 1, slots := 3, locals := 37 }) (va_Pc [.ref o, .int x1, .int x2, .int x3, .int x4] (pcW (dC, dI) (oT cq) (oW cq Z) sz)) (va_Qi (fun (r : Int32) (u : oS) => oInv u ∧ oX [113, 2017, 2107] Z u ∧ (aFi (v 43).toInt x1.toInt (fa 26 x1.toNatClampNeg).toInt (fa 25 x1.toNatClampNeg).toInt x2.toInt x3.toInt (v 38).toInt (fa 30 x1.toNatClampNeg).toInt r.toInt ∧ rOo Z o u r (fiO Z (agA Z o x1.toNatClampNeg) x2 x3 x4 r u))) (fun u t => va_P (dC, dI) vwCl (oW cq u) t.heap ∧ va_K (dC, dI) vwCl (oT cq) t ∧ va_D (va_A (oW cq Z) sz) (oW cq u)) (va_A (oW cq Z) sz)) 1 3 (va_A (oW cq Z) sz) := by
  refine Met.ofW (cc := cX10_fine) (maxL := 6) (ret := (some .int)) (by decide) rfl ?_
  intro p e s m args below meth c s₁ B hml hv
  obtain ⟨rfl, hsz, hP, hK, hD0⟩ := hv
  have hx := B.exec
  have hb := B.bytes
  have hr := B.returns
  have hts := atoms_spec (ws := wsX10_fine) B.pre
  have hown : s.vm.findClass RX10 = some m.cls := findClass_of_methodNamed B.named
  have hlocks := B.notSynchronized
  subst hsz
  have hD := hD0.self (sz := s.heap.size)
  generalize hAe : va_A (oW cq Z) s.heap.size = A at hD ⊢
  have hA : ∀ q : Nat, s.heap.size ≤ q → A q := fun q h => by rw [← hAe]; exact Or.inr h
  have hS : va_S A s.heap s.heap [] := va_S.rf
  have hP : va_P (dC, dI) vwCl (oW cq Z) s.heap := hP
  have hl := lv_entry ([.ref o, .int x1, .int x2, .int x3, .int x4]) (n := 6) (Nat.le_of_ble_eq_true rfl)
  rw [lg_entry_eq]
  generalize (lg_sl ([.ref o, .int x1, .int x2, .int x3, .int x4]) ++ List.replicate (6 - (lg_sl ([.ref o, .int x1, .int x2, .int x3, .int x4])).length) Slot.unset).toArray = ls at hl ⊢
  have hl : lv_has ls 6 [(0, .ref o), (1, .int x1), (2, .int x2), (3, .int x3), (4, .int x4)] := hl
  obtain ⟨fn0, fn1, fn2, fn3, fn4⟩ := RC.n hR
  have fb38 : 0 ≤ (v 38).toInt ∧ (v 38).toInt ≤ 3000 := RC.V hR 38
  have fb39 : 0 ≤ (v 39).toInt ∧ (v 39).toInt ≤ 40 := RC.V hR 39
  have fb40 : 0 ≤ (v 40).toInt ∧ (v 40).toInt ≤ 20 := RC.V hR 40
  have fb43 : 0 ≤ (v 43).toInt ∧ (v 43).toInt ≤ 60 := RC.V hR 43
  have fb41 : 0 ≤ (v 41).toInt ∧ (v 41).toInt ≤ 200 := RC.V hR 41
  obtain ⟨lw, hlw0⟩ := oInv.nn (i := 8) gI to rfl
  have tlw : oty Z lw 5 := oInv.rd gI to.2 hlw0 rfl rfl
  have hLr : rLw Z lw v fa := by have q := RC.l hR; rw [oQ_e hlw0] at q; exact q
  refine lv_aload_n hx hb dX10_fine_0 rfl (lv_at hl 0 rfl) ?_
  refine lv_iload_n hx hb dX10_fine_1 rfl (lv_at hl 1 rfl) ?_
  have hFc : ∀ q, va_A [] s.heap.size q → A q := pu_free hS hA
  obtain ⟨q_1, hq_1⟩ := og (cq := cq) to.1 (oE_10 to.2)
  refine va_callq (va_runV (As := [.int x1]) (rest := []) ⟨hx, hb, hml, hown, hts⟩ (c_X10_agreementAt_c l dC dI s.heap.size cq Z gI o to x1 v fa hR) (cwV 1 hts gX10_fine_X10_agreementAt rfl rfl rfl (by decide +kernel) ⟨(Nat.le_of_ble_eq_true rfl), (Nat.le_of_ble_eq_true rfl)⟩) (pr_V (r := (RX10, TX10, 16)) hP hK hD q_1 10 rfl hq_1) rfl rfl hl.1 rfl (lv_room (Nat.le_of_ble_eq_true rfl)) dX10_fine_2 ⟨(Nat.le_of_ble_eq_true rfl), (Nat.le_of_ble_eq_true rfl)⟩) hS (fun q _ h => hFc q h) hFc (fun r_3 u t H locs ht hvm w_2 hB hz1 hk1 hS => ?_)
  have hP := pu_keep hP hk1
  clear hk1 hz1 hvm hB ht hFc
  obtain ⟨hk_4, hx_5⟩ := w_2
  rcases r_3 with _ | b_6
  · refine W.eq (g2 := F0 m 5 ls [.null]) rfl ?_
    have hnr_3 := atF_n hx_5
    refine lv_astoreN (lv' := [(5, .null), (0, .ref o), (1, .int x1), (2, .int x2), (3, .int x3), (4, .int x4)]) hx hb dX10_fine_5 hl (by decide) rfl (fun ls hl => ?_)
    refine lv_aloadN hx hb dX10_fine_7 (lv_at hl 0 rfl) ?_
    refine lv_ifnonnullN hx hb dX10_fine_9 ?_
    refine lv_aload_n hx hb dX10_fine_12 rfl (lv_at hl 1 rfl) ?_
    refine lv_iconst (v := (-1)) hx hb dX10_fine_13 (by decide) ?_
    have hFc := o_free hD hS hA
    refine va_calli (va_runV (As := [.int (-1)]) (rest := []) ⟨hx, hb, hml, hown, hts⟩ (c_X10_refuse_c l dC dI H.size cq Z gI o to (-1) (by decide)) (cwV 1 hts gX10_fine_X10_refuse rfl rfl rfl (by decide +kernel) ⟨(Nat.le_of_ble_eq_true rfl), (Nat.le_of_ble_eq_true rfl)⟩) (pr_V (r := (RX10, TX10, 16)) hP hK hD q_1 10 rfl hq_1) rfl rfl hl.1 rfl (lv_room (Nat.le_of_ble_eq_true rfl)) dX10_fine_14 ⟨(Nat.le_of_ble_eq_true rfl), (Nat.le_of_ble_eq_true rfl)⟩) hS (fun q _ h => hFc q h) hFc (fun r_8 u t H locs ht hvm w_7 hB hz1 hk1 hS => ?_)
    obtain ⟨S_9, rfl⟩ : ∃ z, z = u := ⟨_, rfl⟩
    obtain ⟨hP1, hK1, hD1⟩ := hB
    rw [ht] at hP1
    have hP : va_P (dC, dI) vwCl (oW cq S_9) H := hP1
    have hD : va_D A (oW cq S_9) := hD1.weaken (fun _ _ _ h => hFc _ h)
    clear hP1 hK1 hD1 hk1 hz1 hvm ht hFc
    obtain ⟨hIS_9, XS_9, hb_10, hx_11⟩ := w_7
    have X_12 : oX [113, 2017, 2107] Z S_9 := oX.st oX.rf XS_9 (by decide)
    have g_13 : (oI S_9 o 0).toInt = (oI Z o 0).toInt := by rw [oX.i XS_9 to (by decide)]
    have pk_14 : oP S_9 o 8 = some lw := by rw [oX.p XS_9 to (by decide)]; exact hlw0
    have rf_15 : r_8.toInt = -1 := by rw [hx_11.1]; decide
    refine W.widen (k := 1) (n := 3) (Nat.le_of_ble_eq_true rfl) (Nat.le_of_ble_eq_true rfl) ?_
    exact W.iret (v := r_8) hx hb hr (fun t ht hW => ⟨⟨r_8, S_9, rfl, ⟨hIS_9, X_12, ⟨by have kc0 : (0 : Int32).toInt = 0 := (by decide); have kc1 : (1 : Int32).toInt = 1 := (by decide); have kc2 : (2 : Int32).toInt = 2 := (by decide); (first | exact Or.inl ⟨by omega, by omega⟩ | (unfold aFi; omega)), (Or.inl ⟨by omega, by rw [hx_11.1]; exact hx_11.2⟩)⟩⟩, ⟨by rw [ht]; exact hP, va_K.moved hW.alike hK, hD⟩⟩, hS.F ht⟩) hS.2.2 dX10_fine_17
  · refine W.eq (g2 := F0 m 5 ls [.ref b_6]) rfl ?_
    have tb_6 : oty Z b_6 1 := hk_4 b_6 rfl
    obtain ⟨hjb_6, ejb_6⟩ := atF_s hx_5
    have ljb_6 := ni_lt hjb_6.1 hjb_6.2
    have njb_6 := tn_i hjb_6.1
    have fAb_6 := RC.a hR ljb_6
    rw [← ejb_6] at fAb_6
    obtain ⟨⟨fm1b_6, fm2b_6, fm3b_6⟩, ⟨fv1b_6, fv2b_6, fv3b_6⟩, fsib_6, fppb_6, fwgb_6, frkb_6, fofb_6, fdeb_6, fchb_6⟩ := fAb_6
    have fBb_6 : 0 ≤ (fa 25 x1.toNatClampNeg).toInt ∧ (fa 25 x1.toNatClampNeg).toInt ≤ 3000 := RC.A hR 25 _
    have lamb_6 : (fa 20 x1.toNatClampNeg).toNatClampNeg < (v 39).toNatClampNeg := ni_lt fm1b_6 fm2b_6
    have namb_6 : (((fa 20 x1.toNatClampNeg).toNatClampNeg : Nat) : Int) = (fa 20 x1.toNatClampNeg).toInt := tn_i fm1b_6
    obtain ⟨amb_6, eamb_6⟩ : ∃ z, z = mnA Z o (fa 20 x1.toNatClampNeg).toNatClampNeg := ⟨_, rfl⟩
    rw [← eamb_6] at fm3b_6
    have tamb_6 : oty Z amb_6 6 := by rw [eamb_6]; exact (RC.tm hR gI to lamb_6).2
    have fMamb_6 := RC.m hR lamb_6
    rw [← eamb_6] at fMamb_6
    obtain ⟨fz0amb_6, fz1amb_6, fz2amb_6, fz3amb_6⟩ := fMamb_6
    rw [namb_6] at fz0amb_6
    have lavb_6 : (fa 21 x1.toNatClampNeg).toNatClampNeg < (v 40).toNatClampNeg := ni_lt fv1b_6 fv2b_6
    have navb_6 : (((fa 21 x1.toNatClampNeg).toNatClampNeg : Nat) : Int) = (fa 21 x1.toNatClampNeg).toInt := tn_i fv1b_6
    obtain ⟨avb_6, eavb_6⟩ : ∃ z, z = voA Z o (fa 21 x1.toNatClampNeg).toNatClampNeg := ⟨_, rfl⟩
    rw [← eavb_6] at fv3b_6
    have tavb_6 : oty Z avb_6 9 := by rw [eavb_6]; exact (RC.tv hR gI to lavb_6).2
    have fVavb_6 := RC.vo hR lavb_6
    rw [← eavb_6] at fVavb_6
    obtain ⟨fy0avb_6, fy1avb_6, fy2avb_6, fy3avb_6, fy4avb_6, fySavb_6, fyLavb_6, fyhavb_6⟩ := fVavb_6
    have fBavb_6 : 0 ≤ (fa 7 ((fa 21 x1.toNatClampNeg).toNatClampNeg)).toInt ∧ (fa 7 ((fa 21 x1.toNatClampNeg).toNatClampNeg)).toInt ≤ 3000 := RC.A hR 7 _
    have fSavb_6 := onc_i fySavb_6
    have fLavb_6 := onc_i fyLavb_6
    rw [navb_6] at fy0avb_6 fSavb_6 fLavb_6
    have fEb_6 := hE.1 x1.toNatClampNeg ljb_6
    rw [← ejb_6] at fEb_6
    obtain ⟨⟨fn1b_6, fn2b_6, fn3b_6⟩, fgb_6, ⟨fl1b_6, fl2b_6, fl3b_6⟩, ⟨ff1b_6, ff2b_6⟩, ⟨fs1b_6, fs2b_6, fs3b_6, fs4b_6, fs5b_6⟩⟩ := fEb_6
    unfold rXg at fgb_6
    have fX_16 : 0 ≤ (fa 30 x1.toNatClampNeg).toInt ∧ (fa 30 x1.toNatClampNeg).toInt ≤ 6 := RC.A hR 30 _
    have fX_17 : 0 ≤ (fa 31 x1.toNatClampNeg).toInt ∧ (fa 31 x1.toNatClampNeg).toInt ≤ 20 := RC.A hR 31 _
    refine lv_astore (lv' := [(5, .ref b_6), (0, .ref o), (1, .int x1), (2, .int x2), (3, .int x3), (4, .int x4)]) hx hb dX10_fine_5 hl (by decide) rfl (fun ls hl => ?_)
    refine lv_aload hx hb dX10_fine_7 (lv_at hl 0 rfl) ?_
    refine lv_ifnonnull (tgt := 18) hx hb dX10_fine_9 (by decide) ?_
    refine lv_aload hx hb dX10_fine_18 (lv_at hl 0 rfl) ?_
    obtain ⟨q_18, hq_18⟩ := og (cq := cq) tb_6.1 (oE_1 tb_6.2)
    refine va_get (D := (dC, dI)) (ci := 1) (v := .int (oI Z b_6 6)) (C := RX1) (T := TX1) (N := 18) hx hb hts in_wsX10_fine_X1 hown hK hP q_18 hq_18 rfl 6 (by decide) (hts (.fieldLink RX10 126 "ShipOffice$Agreement" "offDay" "I") iw_X10_fine_1) (fun _ h9 => h9) rfl dX10_fine_20 ?_
    refine lv_topi (fun x_19 ex_19 => ?_)
    have gx_19 : x_19.toInt = (oI Z b_6 6).toInt := iv_to ex_19
    clear ex_19
    refine lv_ldc (v := 1000000) hx hb hown (hts (.constant RX10 114 (1000000)) (by decide +kernel)) dX10_fine_23 ?_
    refine lv_icmp_eq (tgt := 35) hx hb dX10_fine_25 (by decide) (fun c_20 => ?_) (fun c_20 => ?_)
    · have dc_20 := c_eq (a := x_19.toInt) (b := 1000000) rfl (by decide) c_20
      refine lv_iload_n hx hb dX10_fine_35 rfl (lv_at hl 3 rfl) ?_
      refine lv_aload hx hb dX10_fine_36 (lv_at hl 0 rfl) ?_
      refine va_get (D := (dC, dI)) (ci := 1) (v := .int (oI Z b_6 2)) (C := RX1) (T := TX1) (N := 18) hx hb hts in_wsX10_fine_X1 hown hK hP q_18 hq_18 rfl 2 (by decide) (hts (.fieldLink RX10 255 "ShipOffice$Agreement" "signedOn" "I") iw_X10_fine_2) (fun _ h9 => h9) rfl dX10_fine_38 ?_
      refine lv_topi (fun x_21 ex_21 => ?_)
      have gx_21 : x_21.toInt = (oI Z b_6 2).toInt := iv_to ex_21
      clear ex_21
      refine lv_icmp_lt (tgt := 49) hx hb dX10_fine_41 (by decide) (fun c_22 => ?_) (fun c_22 => ?_)
      · have dc_22 := c_lt (a := x2.toInt) (b := x_21.toInt) rfl rfl c_22
        refine lv_aload_n hx hb dX10_fine_49 rfl (lv_at hl 1 rfl) ?_
        refine lv_bipush (v := (-4)) hx hb dX10_fine_50 (by decide) ?_
        have hFc := o_free hD hS hA
        refine va_calli (va_runV (As := [.int (-4)]) (rest := []) ⟨hx, hb, hml, hown, hts⟩ (c_X10_refuse_c l dC dI H.size cq Z gI o to (-4) (by decide)) (cwV 1 hts gX10_fine_X10_refuse rfl rfl rfl (by decide +kernel) ⟨(Nat.le_of_ble_eq_true rfl), (Nat.le_of_ble_eq_true rfl)⟩) (pr_V (r := (RX10, TX10, 16)) hP hK hD q_1 10 rfl hq_1) rfl rfl hl.1 rfl (lv_room (Nat.le_of_ble_eq_true rfl)) dX10_fine_52 ⟨(Nat.le_of_ble_eq_true rfl), (Nat.le_of_ble_eq_true rfl)⟩) hS (fun q _ h => hFc q h) hFc (fun r_24 u t H locs ht hvm w_23 hB hz1 hk1 hS => ?_)
        obtain ⟨S_25, rfl⟩ : ∃ z, z = u := ⟨_, rfl⟩
        obtain ⟨hP1, hK1, hD1⟩ := hB
        rw [ht] at hP1
        have hP : va_P (dC, dI) vwCl (oW cq S_25) H := hP1
        have hD : va_D A (oW cq S_25) := hD1.weaken (fun _ _ _ h => hFc _ h)
        clear hP1 hK1 hD1 hk1 hz1 hvm ht hFc
        obtain ⟨hIS_25, XS_25, hb_26, hx_27⟩ := w_23
        have X_28 : oX [113, 2017, 2107] Z S_25 := oX.st oX.rf XS_25 (by decide)
        have g_29 : (oI S_25 b_6 2).toInt = (oI Z b_6 2).toInt := by rw [oX.i XS_25 tb_6 (by decide)]
        have g_30 : (oI S_25 b_6 6).toInt = (oI Z b_6 6).toInt := by rw [oX.i XS_25 tb_6 (by decide)]
        have g_31 : (oI S_25 o 0).toInt = (oI Z o 0).toInt := by rw [oX.i XS_25 to (by decide)]
        have pk_32 : oP S_25 o 8 = some lw := by rw [oX.p XS_25 to (by decide)]; exact hlw0
        have pk_33 : oP S_25 b_6 0 = some amb_6 := by rw [oX.p XS_25 tb_6 (by decide)]; exact fm3b_6
        have pk_34 : oP S_25 b_6 1 = some avb_6 := by rw [oX.p XS_25 tb_6 (by decide)]; exact fv3b_6
        have rf_35 : r_24.toInt = -4 := by rw [hx_27.1]; decide
        refine W.widen (k := 1) (n := 3) (Nat.le_of_ble_eq_true rfl) (Nat.le_of_ble_eq_true rfl) ?_
        exact W.iret (v := r_24) hx hb hr (fun t ht hW => ⟨⟨r_24, S_25, rfl, ⟨hIS_25, X_28, ⟨by try clear fppb_6; try clear fSavb_6; try clear fLavb_6; try clear fy4avb_6; have kc0 : (0 : Int32).toInt = 0 := (by decide); have kc1 : (1 : Int32).toInt = 1 := (by decide); have kc2 : (2 : Int32).toInt = 2 := (by decide); (first | exact Or.inr (Or.inr (Or.inl ⟨by omega, by omega, by omega, by omega⟩)) | (unfold aFi; omega)), (Or.inl ⟨by omega, by rw [hx_27.1]; exact hx_27.2⟩)⟩⟩, ⟨by rw [ht]; exact hP, va_K.moved hW.alike hK, hD⟩⟩, hS.F ht⟩) hS.2.2 dX10_fine_55
      · have dc_22 := c_nlt (a := x2.toInt) (b := x_21.toInt) rfl rfl c_22
        refine lv_iload_n hx hb dX10_fine_44 rfl (lv_at hl 4 rfl) ?_
        refine lv_iconst (v := 1) hx hb dX10_fine_45 (by decide) ?_
        refine lv_icmp_ge (tgt := 56) hx hb dX10_fine_46 (by decide) (fun c_36 => ?_) (fun c_36 => ?_)
        · have dc_36 := c_le (a := 1) (b := x3.toInt) (by decide) rfl c_36
          refine lv_iload_n hx hb dX10_fine_56 rfl (lv_at hl 3 rfl) ?_
          refine lv_aload_n hx hb dX10_fine_57 rfl (lv_at hl 1 rfl) ?_
          refine va_get (D := (dC, dI)) (ci := 10) (v := .int (oI Z o 0)) (C := RX10) (T := TX10) (N := 16) hx hb hts in_wsX10_fine_X10 hown hK hP q_1 hq_1 rfl 0 (by decide) (hts (.fieldLink RX10 73 "ShipOffice" "now" "I") iw_X10_fine_3) (fun _ h9 => h9) rfl dX10_fine_58 ?_
          refine lv_topi (fun x_37 ex_37 => ?_)
          have hx_37 : 0 ≤ x_37.toInt ∧ x_37.toInt ≤ 3000 := iv_of ex_37 (oInv.iv gI to.2 rfl rfl)
          have gx_37 : x_37.toInt = (oI Z o 0).toInt := iv_to ex_37
          clear ex_37
          refine lv_icmp_gt (tgt := 81) hx hb dX10_fine_61 (by decide) (fun c_38 => ?_) (fun c_38 => ?_)
          · have dc_38 := c_lt (a := x_37.toInt) (b := x2.toInt) rfl rfl c_38
            refine lv_aload_n hx hb dX10_fine_81 rfl (lv_at hl 1 rfl) ?_
            refine lv_bipush (v := (-6)) hx hb dX10_fine_82 (by decide) ?_
            have hFc := o_free hD hS hA
            refine va_calli (va_runV (As := [.int (-6)]) (rest := []) ⟨hx, hb, hml, hown, hts⟩ (c_X10_refuse_c l dC dI H.size cq Z gI o to (-6) (by decide)) (cwV 1 hts gX10_fine_X10_refuse rfl rfl rfl (by decide +kernel) ⟨(Nat.le_of_ble_eq_true rfl), (Nat.le_of_ble_eq_true rfl)⟩) (pr_V (r := (RX10, TX10, 16)) hP hK hD q_1 10 rfl hq_1) rfl rfl hl.1 rfl (lv_room (Nat.le_of_ble_eq_true rfl)) dX10_fine_84 ⟨(Nat.le_of_ble_eq_true rfl), (Nat.le_of_ble_eq_true rfl)⟩) hS (fun q _ h => hFc q h) hFc (fun r_40 u t H locs ht hvm w_39 hB hz1 hk1 hS => ?_)
            obtain ⟨S_41, rfl⟩ : ∃ z, z = u := ⟨_, rfl⟩
            obtain ⟨hP1, hK1, hD1⟩ := hB
            rw [ht] at hP1
            have hP : va_P (dC, dI) vwCl (oW cq S_41) H := hP1
            have hD : va_D A (oW cq S_41) := hD1.weaken (fun _ _ _ h => hFc _ h)
            clear hP1 hK1 hD1 hk1 hz1 hvm ht hFc
            obtain ⟨hIS_41, XS_41, hb_42, hx_43⟩ := w_39
            have X_44 : oX [113, 2017, 2107] Z S_41 := oX.st oX.rf XS_41 (by decide)
            have g_45 : (oI S_41 b_6 2).toInt = (oI Z b_6 2).toInt := by rw [oX.i XS_41 tb_6 (by decide)]
            have g_46 : (oI S_41 b_6 6).toInt = (oI Z b_6 6).toInt := by rw [oX.i XS_41 tb_6 (by decide)]
            have g_47 : (oI S_41 o 0).toInt = (oI Z o 0).toInt := by rw [oX.i XS_41 to (by decide)]
            have pk_48 : oP S_41 o 8 = some lw := by rw [oX.p XS_41 to (by decide)]; exact hlw0
            have pk_49 : oP S_41 b_6 0 = some amb_6 := by rw [oX.p XS_41 tb_6 (by decide)]; exact fm3b_6
            have pk_50 : oP S_41 b_6 1 = some avb_6 := by rw [oX.p XS_41 tb_6 (by decide)]; exact fv3b_6
            have rf_51 : r_40.toInt = -6 := by rw [hx_43.1]; decide
            refine W.widen (k := 1) (n := 3) (Nat.le_of_ble_eq_true rfl) (Nat.le_of_ble_eq_true rfl) ?_
            exact W.iret (v := r_40) hx hb hr (fun t ht hW => ⟨⟨r_40, S_41, rfl, ⟨hIS_41, X_44, ⟨by try clear fppb_6; try clear fSavb_6; try clear fLavb_6; try clear fy4avb_6; have kc0 : (0 : Int32).toInt = 0 := (by decide); have kc1 : (1 : Int32).toInt = 1 := (by decide); have kc2 : (2 : Int32).toInt = 2 := (by decide); (first | exact Or.inr (Or.inr (Or.inr (Or.inl ⟨by omega, by omega, by omega, by omega, by omega, by omega⟩))) | (unfold aFi; omega)), (Or.inl ⟨by omega, by rw [hx_43.1]; exact hx_43.2⟩)⟩⟩, ⟨by rw [ht]; exact hP, va_K.moved hW.alike hK, hD⟩⟩, hS.F ht⟩) hS.2.2 dX10_fine_87
          · have dc_38 := c_nlt (a := x_37.toInt) (b := x2.toInt) rfl rfl c_38
            refine lv_iload_n hx hb dX10_fine_64 rfl (lv_at hl 4 rfl) ?_
            refine lv_sipush (v := 9999) hx hb dX10_fine_65 (by decide) ?_
            refine lv_icmp_gt (tgt := 81) hx hb dX10_fine_68 (by decide) (fun c_52 => ?_) (fun c_52 => ?_)
            · have dc_52 := c_lt (a := 9999) (b := x3.toInt) (by decide) rfl c_52
              refine lv_aload_n hx hb dX10_fine_81 rfl (lv_at hl 1 rfl) ?_
              refine lv_bipush (v := (-6)) hx hb dX10_fine_82 (by decide) ?_
              have hFc := o_free hD hS hA
              refine va_calli (va_runV (As := [.int (-6)]) (rest := []) ⟨hx, hb, hml, hown, hts⟩ (c_X10_refuse_c l dC dI H.size cq Z gI o to (-6) (by decide)) (cwV 1 hts gX10_fine_X10_refuse rfl rfl rfl (by decide +kernel) ⟨(Nat.le_of_ble_eq_true rfl), (Nat.le_of_ble_eq_true rfl)⟩) (pr_V (r := (RX10, TX10, 16)) hP hK hD q_1 10 rfl hq_1) rfl rfl hl.1 rfl (lv_room (Nat.le_of_ble_eq_true rfl)) dX10_fine_84 ⟨(Nat.le_of_ble_eq_true rfl), (Nat.le_of_ble_eq_true rfl)⟩) hS (fun q _ h => hFc q h) hFc (fun r_54 u t H locs ht hvm w_53 hB hz1 hk1 hS => ?_)
              obtain ⟨S_55, rfl⟩ : ∃ z, z = u := ⟨_, rfl⟩
              obtain ⟨hP1, hK1, hD1⟩ := hB
              rw [ht] at hP1
              have hP : va_P (dC, dI) vwCl (oW cq S_55) H := hP1
              have hD : va_D A (oW cq S_55) := hD1.weaken (fun _ _ _ h => hFc _ h)
              clear hP1 hK1 hD1 hk1 hz1 hvm ht hFc
              obtain ⟨hIS_55, XS_55, hb_56, hx_57⟩ := w_53
              have X_58 : oX [113, 2017, 2107] Z S_55 := oX.st oX.rf XS_55 (by decide)
              have g_59 : (oI S_55 b_6 2).toInt = (oI Z b_6 2).toInt := by rw [oX.i XS_55 tb_6 (by decide)]
              have g_60 : (oI S_55 b_6 6).toInt = (oI Z b_6 6).toInt := by rw [oX.i XS_55 tb_6 (by decide)]
              have g_61 : (oI S_55 o 0).toInt = (oI Z o 0).toInt := by rw [oX.i XS_55 to (by decide)]
              have pk_62 : oP S_55 o 8 = some lw := by rw [oX.p XS_55 to (by decide)]; exact hlw0
              have pk_63 : oP S_55 b_6 0 = some amb_6 := by rw [oX.p XS_55 tb_6 (by decide)]; exact fm3b_6
              have pk_64 : oP S_55 b_6 1 = some avb_6 := by rw [oX.p XS_55 tb_6 (by decide)]; exact fv3b_6
              have rf_65 : r_54.toInt = -6 := by rw [hx_57.1]; decide
              refine W.widen (k := 1) (n := 3) (Nat.le_of_ble_eq_true rfl) (Nat.le_of_ble_eq_true rfl) ?_
              exact W.iret (v := r_54) hx hb hr (fun t ht hW => ⟨⟨r_54, S_55, rfl, ⟨hIS_55, X_58, ⟨by try clear fppb_6; try clear fSavb_6; try clear fLavb_6; try clear fy4avb_6; have kc0 : (0 : Int32).toInt = 0 := (by decide); have kc1 : (1 : Int32).toInt = 1 := (by decide); have kc2 : (2 : Int32).toInt = 2 := (by decide); (first | exact Or.inr (Or.inr (Or.inr (Or.inl ⟨by omega, by omega, by omega, by omega, by omega, by omega⟩))) | (unfold aFi; omega)), (Or.inl ⟨by omega, by rw [hx_57.1]; exact hx_57.2⟩)⟩⟩, ⟨by rw [ht]; exact hP, va_K.moved hW.alike hK, hD⟩⟩, hS.F ht⟩) hS.2.2 dX10_fine_87
            · have dc_52 := c_nlt (a := 9999) (b := x3.toInt) (by decide) rfl c_52
              refine lv_aload hx hb dX10_fine_71 (lv_at hl 0 rfl) ?_
              refine va_get (D := (dC, dI)) (ci := 1) (v := .int (oI Z b_6 13)) (C := RX1) (T := TX1) (N := 18) hx hb hts in_wsX10_fine_X1 hown hK hP q_18 hq_18 rfl 13 (by decide) (hts (.fieldLink RX10 258 "ShipOffice$Agreement" "fineCount" "I") iw_X10_fine_4) (fun _ h9 => h9) rfl dX10_fine_73 ?_
              refine lv_topi (fun x_66 ex_66 => ?_)
              have hx_66 : 0 ≤ x_66.toInt ∧ x_66.toInt ≤ 6 := iv_of ex_66 (oInv.iv gI tb_6.2 rfl rfl)
              have gx_66 : x_66.toInt = (oI Z b_6 13).toInt := iv_to ex_66
              clear ex_66
              refine lv_bipush (v := 6) hx hb dX10_fine_76 (by decide) ?_
              refine lv_icmp_lt (tgt := 88) hx hb dX10_fine_78 (by decide) (fun c_67 => ?_) (fun c_67 => ?_)
              · have dc_67 := c_lt (a := x_66.toInt) (b := 6) rfl (by decide) c_67
                refine lv_aload hx hb dX10_fine_88 (lv_at hl 0 rfl) ?_
                obtain ⟨b_68, hb_68⟩ := oInv.nn (i := 12) gI tb_6 rfl
                refine va_get (D := (dC, dI)) (ci := 1) (v := .ref b_68) (C := RX1) (T := TX1) (N := 18) hx hb hts in_wsX10_fine_X1 hown hK hP q_18 hq_18 rfl 12 (by decide) (hts (.fieldLink RX10 261 "ShipOffice$Agreement" "fines" "[LShipOffice$Fine;") iw_X10_fine_5) (fun _ h9 => h9) (o_rd hb_68) dX10_fine_90 ?_
                have tb_68 : oty Z b_68 17 := oInv.rd gI tb_6.2 hb_68 rfl rfl
                refine lv_aload hx hb dX10_fine_93 (lv_at hl 0 rfl) ?_
                refine va_get (D := (dC, dI)) (ci := 1) (v := .int (oI Z b_6 13)) (C := RX1) (T := TX1) (N := 18) hx hb hts in_wsX10_fine_X1 hown hK hP q_18 hq_18 rfl 13 (by decide) (hts (.fieldLink RX10 258 "ShipOffice$Agreement" "fineCount" "I") iw_X10_fine_4) (fun _ h9 => h9) rfl dX10_fine_95 ?_
                refine lv_topi (fun x_69 ex_69 => ?_)
                have hx_69 : 0 ≤ x_69.toInt ∧ x_69.toInt ≤ 6 := iv_of ex_69 (oInv.iv gI tb_6.2 rfl rfl)
                have gx_69 : x_69.toInt = (oI Z b_6 13).toInt := iv_to ex_69
                clear ex_69
                refine va_new (ci := 2) (fs := [.int 0, .int 0, .int 0]) (C := RX2) (T := TX2) (N := 3) hx hb hts in_wsX10_fine_X2 tyX2 tyX2_ok hown (hts (.classLink RX10 265 RX2) iw_X10_fine_6) (hts (.instantiable RX2 3) iw_X10_fine_7) (hts (.initialized RX2) iw_X10_fine_8) hK hP hD hS hA rfl (fun j hj => by rcases (show j = 0 ∨ j = 1 ∨ j = 2 by omega) with rfl | rfl | rfl <;> rfl) (Nat.le_of_ble_eq_true rfl) (Nat.le_of_ble_eq_true rfl) dX10_fine_98 (fun q_70 H hP1 hD1 hS => ?_)
                have hnq_70 := add_q hD1
                obtain ⟨S_71, eS_71⟩ : ∃ zq, zq = addO Z q_70 32 := ⟨_, rfl⟩
                have hP : va_P (dC, dI) vwCl (oW cq S_71) H := by rw [eS_71]; exact cP (onew hD1 (by rw [oE_32 add_K, add_I])) hP1
                have hD : va_D A (oW cq S_71) := by rw [eS_71]; exact cD (onew hD1 (by rw [oE_32 add_K, add_I])) hD1
                clear hP1 hD1
                have hIS_71 : oInv S_71 := by rw [eS_71]; exact oInv.add gI hnq_70 (by decide)
                have XS_71 : oX [] Z S_71 := by rw [eS_71]; exact oX.add hnq_70
                have nzq_70 : q_70 ∉ oL Z := hnq_70
                have pk_72 : oP S_71 o 8 = some lw := by rw [eS_71, add_Pn hnq_70 to.1]; exact hlw0
                have pk_73 : oP S_71 b_6 0 = some amb_6 := by rw [eS_71, add_Pn hnq_70 tb_6.1]; exact fm3b_6
                have pk_74 : oP S_71 b_6 1 = some avb_6 := by rw [eS_71, add_Pn hnq_70 tb_6.1]; exact fv3b_6
                have sr_75 : oP S_71 b_6 12 = some b_68 := by rw [eS_71, add_Pn hnq_70 tb_6.1]; exact hb_68
                have g_76 : (oI S_71 b_6 2).toInt = (oI Z b_6 2).toInt := by rw [eS_71, add_In hnq_70 tb_6.1]
                have g_77 : (oI S_71 b_6 6).toInt = (oI Z b_6 6).toInt := by rw [eS_71, add_In hnq_70 tb_6.1]
                have g_78 : (oI S_71 b_6 13).toInt = (oI Z b_6 13).toInt := by rw [eS_71, add_In hnq_70 tb_6.1]
                have g_79 : (oI S_71 o 0).toInt = (oI Z o 0).toInt := by rw [eS_71, add_In hnq_70 to.1]
                have X_80 : oX [113, 2017, 2107] Z S_71 := oX.st oX.rf XS_71 (by decide)
                have tq_70 : oty S_71 q_70 32 := by rw [eS_71]; exact add_ty
                refine W.widen (k := 1) (n := 3) (Nat.le_of_ble_eq_true rfl) (Nat.le_of_ble_eq_true rfl) ?_
                refine lv_dup hx hb dX10_fine_101 rfl ?_
                refine lv_iload_n hx hb dX10_fine_102 rfl (lv_at hl 3 rfl) ?_
                refine lv_iload_n hx hb dX10_fine_103 rfl (lv_at hl 4 rfl) ?_
                refine lv_iload hx hb dX10_fine_104 (lv_at hl 5 rfl) ?_
                have hFc := o_free hD hS hA
                refine va_callv (va_runI (As := [.int x2, .int x3, .int x4]) (rest := [.ref q_70, .int x_69, .ref b_68]) ⟨hx, hb, hml, hown, hts⟩ (c_X2_init_c l dC dI H.size cq S_71 hIS_71 q_70 tq_70 x2 x3 x4 (by omega) (fun j => by rw [eS_71, add_I]) (fun j => by rw [eS_71, add_P])) (cwI 3 hts gX10_fine_X2_init rfl rfl rfl (hts (.initialized RX2) iw_X10_fine_8) (hts (.methodLink RX10 267 yX2_init) iw_X10_fine_9) (hts (.instanceMethod yX2_init) iw_X10_fine_10) rfl (by decide +kernel) ⟨(Nat.le_of_ble_eq_true rfl), (Nat.le_of_ble_eq_true rfl)⟩) (pr_S hP hK hD) rfl rfl hl.1 rfl (lv_room (Nat.le_of_ble_eq_true rfl)) dX10_fine_106 ⟨(Nat.le_of_ble_eq_true rfl), (Nat.le_of_ble_eq_true rfl)⟩) hS (fun q _ h => hFc q h) hFc (fun u t H locs ht hvm w_81 hB hz1 hk1 hS => ?_)
                obtain ⟨S_83, rfl⟩ : ∃ z, z = u := ⟨_, rfl⟩
                obtain ⟨hP1, hK1, hD1⟩ := hB
                rw [ht] at hP1
                have hP : va_P (dC, dI) vwCl (oW cq S_83) H := hP1
                have hD : va_D A (oW cq S_83) := hD1.weaken (fun _ _ _ h => hFc _ h)
                clear hP1 hK1 hD1 hk1 hz1 hvm ht hFc
                obtain ⟨hIS_83, XS_83, hx_84⟩ := w_81
                obtain ⟨hxS_83, hcS_83⟩ := hx_84
                have X_85 : oX [113, 2017, 2107] Z S_83 := oX.c X_80 XS_83 nzq_70 (by decide)
                have sr_86 : oP S_83 b_6 12 = some b_68 := by rw [oXc.p XS_83 (ty_ne (oX.ty XS_71 tb_6) tq_70 (by decide)) (oX.ty XS_71 tb_6) (by decide)]; exact sr_75
                have g_87 : (oI S_83 b_6 2).toInt = (oI S_71 b_6 2).toInt := by rw [oXc.i XS_83 (ty_ne (oX.ty XS_71 tb_6) tq_70 (by decide)) (oX.ty XS_71 tb_6) (by decide)]
                have g_88 : (oI S_83 b_6 6).toInt = (oI S_71 b_6 6).toInt := by rw [oXc.i XS_83 (ty_ne (oX.ty XS_71 tb_6) tq_70 (by decide)) (oX.ty XS_71 tb_6) (by decide)]
                have g_89 : (oI S_83 b_6 13).toInt = (oI S_71 b_6 13).toInt := by rw [oXc.i XS_83 (ty_ne (oX.ty XS_71 tb_6) tq_70 (by decide)) (oX.ty XS_71 tb_6) (by decide)]
                have g_90 : (oI S_83 o 0).toInt = (oI S_71 o 0).toInt := by rw [oXc.i XS_83 (ty_ne (oX.ty XS_71 to) tq_70 (by decide)) (oX.ty XS_71 to) (by decide)]
                have pk_91 : oP S_83 o 8 = some lw := by rw [oXc.p XS_83 (ty_ne (oX.ty XS_71 to) tq_70 (by decide)) (oX.ty XS_71 to) (by decide)]; exact pk_72
                have pk_92 : oP S_83 b_6 0 = some amb_6 := by rw [oXc.p XS_83 (ty_ne (oX.ty XS_71 tb_6) tq_70 (by decide)) (oX.ty XS_71 tb_6) (by decide)]; exact pk_73
                have pk_93 : oP S_83 b_6 1 = some avb_6 := by rw [oXc.p XS_83 (ty_ne (oX.ty XS_71 tb_6) tq_70 (by decide)) (oX.ty XS_71 tb_6) (by decide)]; exact pk_74
                have fzS_83 : oX [] Z S_83 := oX.c (W := []) (oX.st oX.rf XS_71 (by decide)) XS_83 nzq_70 (by decide)
                have t_94 : oty S_83 b_68 17 := (oXc.ty XS_83 (ty_ne (oX.ty XS_71 tb_68) tq_70 (by decide)) (oX.ty XS_71 tb_68))
                obtain ⟨q_95, hq_95⟩ := og (cq := cq) t_94.1 (oE_17 t_94.2)
                obtain ⟨q_96, hq_96⟩ := og (cq := cq) hxS_83.1 (oE_2 hxS_83.2)
                refine va_astq (r := (RX2, TX2, 3)) hx hb hK hP hD hS q_95 6 q_96 2 hq_95 rfl hq_96 rfl (vp_in_iff.mpr (by omega)) dX10_fine_109 (fun H locs hP1 hD1 hS => ?_)
                obtain ⟨S_97, eS_97⟩ : ∃ zq, zq = setP S_83 b_68 (x_69 : Int32).toNatClampNeg (some q_70) := ⟨_, rfl⟩
                have hP : va_P (dC, dI) vwCl (oW cq S_97) H := by rw [eS_97]; exact cP (oset t_94.1 hq_95 hD rfl (he_17 t_94.2) neP) hP1
                have hD : va_D A (oW cq S_97) := by rw [eS_97]; exact cD (oset t_94.1 hq_95 hD rfl (he_17 t_94.2) neP) hD1
                clear hP1 hD1
                have hIS_97 : oInv S_97 := by rw [eS_97]; exact oInv.P (k := 17) hIS_83 t_94.2 (by decide) rfl (fun h => absurd h.1 (by decide)) hxS_83 (show 2 ≤ 2 ∧ 2 ≤ 2 from ⟨Nat.le_refl _, Nat.le_refl _⟩)
                have XS_97 : oX [2017] S_83 S_97 := by rw [eS_97]; exact oX.P (k := 17) (key := 2017) t_94.2 rfl (List.mem_singleton.mpr rfl)
                have pk_98 : oP S_97 o 8 = some lw := by rw [eS_97, setP_oth (ty_ne (oXc.ty XS_83 (ty_ne (oX.ty XS_71 to) tq_70 (by decide)) (oX.ty XS_71 to)) t_94 (by decide))]; exact pk_91
                have pk_99 : oP S_97 b_6 0 = some amb_6 := by rw [eS_97, setP_oth (ty_ne (oXc.ty XS_83 (ty_ne (oX.ty XS_71 tb_6) tq_70 (by decide)) (oX.ty XS_71 tb_6)) t_94 (by decide))]; exact pk_92
                have pk_100 : oP S_97 b_6 1 = some avb_6 := by rw [eS_97, setP_oth (ty_ne (oXc.ty XS_83 (ty_ne (oX.ty XS_71 tb_6) tq_70 (by decide)) (oX.ty XS_71 tb_6)) t_94 (by decide))]; exact pk_93
                have X_101 : oX [113, 2017, 2107] Z S_97 := oX.st X_85 XS_97 (by decide)
                have g_102 : (oI S_97 b_6 2).toInt = (oI S_83 b_6 2).toInt := by rw [eS_97]; rfl
                have g_103 : (oI S_97 b_6 6).toInt = (oI S_83 b_6 6).toInt := by rw [eS_97]; rfl
                have g_104 : (oI S_97 b_6 13).toInt = (oI S_83 b_6 13).toInt := by rw [eS_97]; rfl
                have g_105 : (oI S_97 o 0).toInt = (oI S_83 o 0).toInt := by rw [eS_97]; rfl
                have helS_97 : oP S_97 b_68 (x_69 : Int32).toNatClampNeg = some q_70 := by rw [eS_97, setP_same]
                have hsrS_97 : oP S_97 b_6 12 = some b_68 := by rw [eS_97, setP_oth (ty_ne (oXc.ty XS_83 (ty_ne (oX.ty XS_71 tb_6) tq_70 (by decide)) (oX.ty XS_71 tb_6)) t_94 (by decide))]; exact sr_86
                refine lv_aload hx hb dX10_fine_110 (lv_at hl 0 rfl) ?_
                refine lv_dup hx hb dX10_fine_112 rfl ?_
                have t_106 : oty S_97 b_6 1 := (oX.ty XS_97 (oXc.ty XS_83 (ty_ne (oX.ty XS_71 tb_6) tq_70 (by decide)) (oX.ty XS_71 tb_6)))
                obtain ⟨q_107, hq_107⟩ := og (cq := cq) t_106.1 (oE_1 t_106.2)
                refine va_get (D := (dC, dI)) (ci := 1) (v := .int (oI S_97 b_6 13)) (C := RX1) (T := TX1) (N := 18) hx hb hts in_wsX10_fine_X1 hown hK hP q_107 hq_107 rfl 13 (by decide) (hts (.fieldLink RX10 258 "ShipOffice$Agreement" "fineCount" "I") iw_X10_fine_4) (fun _ h9 => h9) rfl dX10_fine_113 ?_
                refine lv_topi (fun x_108 ex_108 => ?_)
                have hx_108 : 0 ≤ x_108.toInt ∧ x_108.toInt ≤ 6 := iv_of ex_108 (oInv.iv hIS_97 t_106.2 rfl rfl)
                have gx_108 : x_108.toInt = (oI S_97 b_6 13).toInt := iv_to ex_108
                clear ex_108
                refine lv_iconst (v := 1) hx hb dX10_fine_116 (by decide) ?_
                refine lv_iadd hx hb dX10_fine_117 ?_
                refine lv_topi (fun x_109 ex_109 => ?_)
                have hx_109 : x_109.toInt = x_108.toInt + 1 := (iv_to ex_109).trans (ad_i rfl (by decide) (by omega) (by omega))
                clear ex_109
                refine va_put (D := (dC, dI)) (ci := 1) (v := .int x_109) (ty := .int) (C := RX1) (T := TX1) (N := 18) hx hb hts in_wsX10_fine_X1 tyX1 tyX1_ok nmX1 hown hK hP hD hS q_107 hq_107 rfl 13 (by decide) (hts (.fieldLink RX10 258 "ShipOffice$Agreement" "fineCount" "I") iw_X10_fine_4) (fun _ h9 => h9) rfl (by decide +kernel) rfl rfl (Nat.le_of_ble_eq_true rfl) dX10_fine_118 (fun H locs hP1 hD1 hS => ?_)
                obtain ⟨S_110, eS_110⟩ : ∃ zq, zq = setI S_97 b_6 13 x_109 := ⟨_, rfl⟩
                have hP : va_P (dC, dI) vwCl (oW cq S_110) H := by rw [eS_110]; exact cP (oset t_106.1 hq_107 hD rfl (he_1_13 t_106.2) neI) hP1
                have hD : va_D A (oW cq S_110) := by rw [eS_110]; exact cD (oset t_106.1 hq_107 hD rfl (he_1_13 t_106.2) neI) hD1
                clear hP1 hD1
                have hIS_110 : oInv S_110 := by rw [eS_110]; exact oInv.I (k := 1) (lo := 0) (hi := 6) hIS_97 t_106.2 (by decide) rfl rfl (by omega) (inv_cnt hIS_97 t_106 rfl hsrS_97 (by omega) (by omega) ⟨_, by rw [← cnt_at (x := x_69) (S := S_97) (a := b_6) (i := 13) (by omega)]; exact helS_97⟩)
                have XS_110 : oX [113] S_97 S_110 := by rw [eS_110]; exact oX.I (k := 1) (key := 113) t_106.2 rfl (List.mem_singleton.mpr rfl)
                have pk_111 : oP S_110 o 8 = some lw := by rw [eS_110]; exact pk_98
                have pk_112 : oP S_110 b_6 0 = some amb_6 := by rw [eS_110]; exact pk_99
                have pk_113 : oP S_110 b_6 1 = some avb_6 := by rw [eS_110]; exact pk_100
                have X_114 : oX [113, 2017, 2107] Z S_110 := oX.st X_101 XS_110 (by decide)
                have g_115 : (oI S_110 b_6 2).toInt = (oI S_97 b_6 2).toInt := by rw [eS_110, setI_ne (by decide)]
                have g_116 : (oI S_110 b_6 6).toInt = (oI S_97 b_6 6).toInt := by rw [eS_110, setI_ne (by decide)]
                have g_117 : (oI S_110 b_6 13).toInt = x_109.toInt := by rw [eS_110, setI_same]
                have g_118 : (oI S_110 o 0).toInt = (oI S_97 o 0).toInt := by rw [eS_110, setI_oth (ty_ne (oX.ty XS_97 (oXc.ty XS_83 (ty_ne (oX.ty XS_71 to) tq_70 (by decide)) (oX.ty XS_71 to))) t_106 (by decide))]
                refine lv_aload hx hb dX10_fine_121 (lv_at hl 0 rfl) ?_
                have t_119 : oty S_110 b_6 1 := (oX.ty XS_110 t_106)
                obtain ⟨q_120, hq_120⟩ := og (cq := cq) t_119.1 (oE_1 t_119.2)
                refine va_get (D := (dC, dI)) (ci := 1) (v := .int (oI S_110 b_6 13)) (C := RX1) (T := TX1) (N := 18) hx hb hts in_wsX10_fine_X1 hown hK hP q_120 hq_120 rfl 13 (by decide) (hts (.fieldLink RX10 258 "ShipOffice$Agreement" "fineCount" "I") iw_X10_fine_4) (fun _ h9 => h9) rfl dX10_fine_123 ?_
                refine lv_topi (fun x_121 ex_121 => ?_)
                have hx_121 : 0 ≤ x_121.toInt ∧ x_121.toInt ≤ 6 := iv_of ex_121 (oInv.iv hIS_110 t_119.2 rfl rfl)
                have gx_121 : x_121.toInt = (oI S_110 b_6 13).toInt := iv_to ex_121
                clear ex_121
                exact W.iret (v := x_121) hx hb hr (fun t ht hW => ⟨⟨x_121, S_110, rfl, ⟨hIS_110, X_114, ⟨by try clear fppb_6; try clear fSavb_6; try clear fLavb_6; try clear fy4avb_6; have kc0 : (0 : Int32).toInt = 0 := (by decide); have kc1 : (1 : Int32).toInt = 1 := (by decide); have kc2 : (2 : Int32).toInt = 2 := (by decide); (first | exact Or.inr (Or.inr (Or.inr (Or.inr (⟨by omega, by omega, by omega, by omega, by omega, by omega, by omega, by omega⟩)))) | (unfold aFi; omega)), Or.inr ⟨by try clear fppb_6; try clear fSavb_6; try clear fLavb_6; try clear fy4avb_6; have kc0 : (0 : Int32).toInt = 0 := (by decide); have kc1 : (1 : Int32).toInt = 1 := (by decide); have kc2 : (2 : Int32).toInt = 2 := (by decide); omega, (by rw [← ejb_6]; refine ⟨q_70, S_83, nzq_70, fzS_83, hxS_83, hcS_83, by omega, ?_⟩; rw [eS_110, eS_97, oQ_e hb_68, (show x_69 = oI Z b_6 13 from Int32.toInt_inj.mp (by omega)), (show x_109 = x_121 from Int32.toInt_inj.mp (by omega))])⟩⟩⟩, ⟨by rw [ht]; exact hP, va_K.moved hW.alike hK, hD⟩⟩, hS.F ht⟩) hS.2.2 dX10_fine_126
              · have dc_67 := c_nlt (a := x_66.toInt) (b := 6) rfl (by decide) c_67
                refine lv_aload_n hx hb dX10_fine_81 rfl (lv_at hl 1 rfl) ?_
                refine lv_bipush (v := (-6)) hx hb dX10_fine_82 (by decide) ?_
                have hFc := o_free hD hS hA
                refine va_calli (va_runV (As := [.int (-6)]) (rest := []) ⟨hx, hb, hml, hown, hts⟩ (c_X10_refuse_c l dC dI H.size cq Z gI o to (-6) (by decide)) (cwV 1 hts gX10_fine_X10_refuse rfl rfl rfl (by decide +kernel) ⟨(Nat.le_of_ble_eq_true rfl), (Nat.le_of_ble_eq_true rfl)⟩) (pr_V (r := (RX10, TX10, 16)) hP hK hD q_1 10 rfl hq_1) rfl rfl hl.1 rfl (lv_room (Nat.le_of_ble_eq_true rfl)) dX10_fine_84 ⟨(Nat.le_of_ble_eq_true rfl), (Nat.le_of_ble_eq_true rfl)⟩) hS (fun q _ h => hFc q h) hFc (fun r_123 u t H locs ht hvm w_122 hB hz1 hk1 hS => ?_)
                obtain ⟨S_124, rfl⟩ : ∃ z, z = u := ⟨_, rfl⟩
                obtain ⟨hP1, hK1, hD1⟩ := hB
                rw [ht] at hP1
                have hP : va_P (dC, dI) vwCl (oW cq S_124) H := hP1
                have hD : va_D A (oW cq S_124) := hD1.weaken (fun _ _ _ h => hFc _ h)
                clear hP1 hK1 hD1 hk1 hz1 hvm ht hFc
                obtain ⟨hIS_124, XS_124, hb_125, hx_126⟩ := w_122
                have X_127 : oX [113, 2017, 2107] Z S_124 := oX.st oX.rf XS_124 (by decide)
                have g_128 : (oI S_124 b_6 2).toInt = (oI Z b_6 2).toInt := by rw [oX.i XS_124 tb_6 (by decide)]
                have g_129 : (oI S_124 b_6 6).toInt = (oI Z b_6 6).toInt := by rw [oX.i XS_124 tb_6 (by decide)]
                have g_130 : (oI S_124 b_6 13).toInt = (oI Z b_6 13).toInt := by rw [oX.i XS_124 tb_6 (by decide)]
                have g_131 : (oI S_124 o 0).toInt = (oI Z o 0).toInt := by rw [oX.i XS_124 to (by decide)]
                have pk_132 : oP S_124 o 8 = some lw := by rw [oX.p XS_124 to (by decide)]; exact hlw0
                have pk_133 : oP S_124 b_6 0 = some amb_6 := by rw [oX.p XS_124 tb_6 (by decide)]; exact fm3b_6
                have pk_134 : oP S_124 b_6 1 = some avb_6 := by rw [oX.p XS_124 tb_6 (by decide)]; exact fv3b_6
                have rf_135 : r_123.toInt = -6 := by rw [hx_126.1]; decide
                refine W.widen (k := 1) (n := 3) (Nat.le_of_ble_eq_true rfl) (Nat.le_of_ble_eq_true rfl) ?_
                exact W.iret (v := r_123) hx hb hr (fun t ht hW => ⟨⟨r_123, S_124, rfl, ⟨hIS_124, X_127, ⟨by try clear fppb_6; try clear fSavb_6; try clear fLavb_6; try clear fy4avb_6; have kc0 : (0 : Int32).toInt = 0 := (by decide); have kc1 : (1 : Int32).toInt = 1 := (by decide); have kc2 : (2 : Int32).toInt = 2 := (by decide); (first | exact Or.inr (Or.inr (Or.inr (Or.inl ⟨by omega, by omega, by omega, by omega, by omega, by omega⟩))) | (unfold aFi; omega)), (Or.inl ⟨by omega, by rw [hx_126.1]; exact hx_126.2⟩)⟩⟩, ⟨by rw [ht]; exact hP, va_K.moved hW.alike hK, hD⟩⟩, hS.F ht⟩) hS.2.2 dX10_fine_87
        · have dc_36 := c_nle (a := 1) (b := x3.toInt) (by decide) rfl c_36
          refine lv_aload_n hx hb dX10_fine_49 rfl (lv_at hl 1 rfl) ?_
          refine lv_bipush (v := (-4)) hx hb dX10_fine_50 (by decide) ?_
          have hFc := o_free hD hS hA
          refine va_calli (va_runV (As := [.int (-4)]) (rest := []) ⟨hx, hb, hml, hown, hts⟩ (c_X10_refuse_c l dC dI H.size cq Z gI o to (-4) (by decide)) (cwV 1 hts gX10_fine_X10_refuse rfl rfl rfl (by decide +kernel) ⟨(Nat.le_of_ble_eq_true rfl), (Nat.le_of_ble_eq_true rfl)⟩) (pr_V (r := (RX10, TX10, 16)) hP hK hD q_1 10 rfl hq_1) rfl rfl hl.1 rfl (lv_room (Nat.le_of_ble_eq_true rfl)) dX10_fine_52 ⟨(Nat.le_of_ble_eq_true rfl), (Nat.le_of_ble_eq_true rfl)⟩) hS (fun q _ h => hFc q h) hFc (fun r_137 u t H locs ht hvm w_136 hB hz1 hk1 hS => ?_)
          obtain ⟨S_138, rfl⟩ : ∃ z, z = u := ⟨_, rfl⟩
          obtain ⟨hP1, hK1, hD1⟩ := hB
          rw [ht] at hP1
          have hP : va_P (dC, dI) vwCl (oW cq S_138) H := hP1
          have hD : va_D A (oW cq S_138) := hD1.weaken (fun _ _ _ h => hFc _ h)
          clear hP1 hK1 hD1 hk1 hz1 hvm ht hFc
          obtain ⟨hIS_138, XS_138, hb_139, hx_140⟩ := w_136
          have X_141 : oX [113, 2017, 2107] Z S_138 := oX.st oX.rf XS_138 (by decide)
          have g_142 : (oI S_138 b_6 2).toInt = (oI Z b_6 2).toInt := by rw [oX.i XS_138 tb_6 (by decide)]
          have g_143 : (oI S_138 b_6 6).toInt = (oI Z b_6 6).toInt := by rw [oX.i XS_138 tb_6 (by decide)]
          have g_144 : (oI S_138 o 0).toInt = (oI Z o 0).toInt := by rw [oX.i XS_138 to (by decide)]
          have pk_145 : oP S_138 o 8 = some lw := by rw [oX.p XS_138 to (by decide)]; exact hlw0
          have pk_146 : oP S_138 b_6 0 = some amb_6 := by rw [oX.p XS_138 tb_6 (by decide)]; exact fm3b_6
          have pk_147 : oP S_138 b_6 1 = some avb_6 := by rw [oX.p XS_138 tb_6 (by decide)]; exact fv3b_6
          have rf_148 : r_137.toInt = -4 := by rw [hx_140.1]; decide
          refine W.widen (k := 1) (n := 3) (Nat.le_of_ble_eq_true rfl) (Nat.le_of_ble_eq_true rfl) ?_
          exact W.iret (v := r_137) hx hb hr (fun t ht hW => ⟨⟨r_137, S_138, rfl, ⟨hIS_138, X_141, ⟨by try clear fppb_6; try clear fSavb_6; try clear fLavb_6; try clear fy4avb_6; have kc0 : (0 : Int32).toInt = 0 := (by decide); have kc1 : (1 : Int32).toInt = 1 := (by decide); have kc2 : (2 : Int32).toInt = 2 := (by decide); (first | exact Or.inr (Or.inr (Or.inl ⟨by omega, by omega, by omega, by omega⟩)) | (unfold aFi; omega)), (Or.inl ⟨by omega, by rw [hx_140.1]; exact hx_140.2⟩)⟩⟩, ⟨by rw [ht]; exact hP, va_K.moved hW.alike hK, hD⟩⟩, hS.F ht⟩) hS.2.2 dX10_fine_55
    · have dc_20 := c_ne (a := x_19.toInt) (b := 1000000) rfl (by decide) c_20
      refine lv_aload_n hx hb dX10_fine_28 rfl (lv_at hl 1 rfl) ?_
      refine lv_bipush (v := (-3)) hx hb dX10_fine_29 (by decide) ?_
      have hFc := o_free hD hS hA
      refine va_calli (va_runV (As := [.int (-3)]) (rest := []) ⟨hx, hb, hml, hown, hts⟩ (c_X10_refuse_c l dC dI H.size cq Z gI o to (-3) (by decide)) (cwV 1 hts gX10_fine_X10_refuse rfl rfl rfl (by decide +kernel) ⟨(Nat.le_of_ble_eq_true rfl), (Nat.le_of_ble_eq_true rfl)⟩) (pr_V (r := (RX10, TX10, 16)) hP hK hD q_1 10 rfl hq_1) rfl rfl hl.1 rfl (lv_room (Nat.le_of_ble_eq_true rfl)) dX10_fine_31 ⟨(Nat.le_of_ble_eq_true rfl), (Nat.le_of_ble_eq_true rfl)⟩) hS (fun q _ h => hFc q h) hFc (fun r_150 u t H locs ht hvm w_149 hB hz1 hk1 hS => ?_)
      obtain ⟨S_151, rfl⟩ : ∃ z, z = u := ⟨_, rfl⟩
      obtain ⟨hP1, hK1, hD1⟩ := hB
      rw [ht] at hP1
      have hP : va_P (dC, dI) vwCl (oW cq S_151) H := hP1
      have hD : va_D A (oW cq S_151) := hD1.weaken (fun _ _ _ h => hFc _ h)
      clear hP1 hK1 hD1 hk1 hz1 hvm ht hFc
      obtain ⟨hIS_151, XS_151, hb_152, hx_153⟩ := w_149
      have X_154 : oX [113, 2017, 2107] Z S_151 := oX.st oX.rf XS_151 (by decide)
      have g_155 : (oI S_151 b_6 6).toInt = (oI Z b_6 6).toInt := by rw [oX.i XS_151 tb_6 (by decide)]
      have g_156 : (oI S_151 o 0).toInt = (oI Z o 0).toInt := by rw [oX.i XS_151 to (by decide)]
      have pk_157 : oP S_151 o 8 = some lw := by rw [oX.p XS_151 to (by decide)]; exact hlw0
      have pk_158 : oP S_151 b_6 0 = some amb_6 := by rw [oX.p XS_151 tb_6 (by decide)]; exact fm3b_6
      have pk_159 : oP S_151 b_6 1 = some avb_6 := by rw [oX.p XS_151 tb_6 (by decide)]; exact fv3b_6
      have rf_160 : r_150.toInt = -3 := by rw [hx_153.1]; decide
      refine W.widen (k := 1) (n := 3) (Nat.le_of_ble_eq_true rfl) (Nat.le_of_ble_eq_true rfl) ?_
      exact W.iret (v := r_150) hx hb hr (fun t ht hW => ⟨⟨r_150, S_151, rfl, ⟨hIS_151, X_154, ⟨by try clear fppb_6; try clear fSavb_6; try clear fLavb_6; try clear fy4avb_6; have kc0 : (0 : Int32).toInt = 0 := (by decide); have kc1 : (1 : Int32).toInt = 1 := (by decide); have kc2 : (2 : Int32).toInt = 2 := (by decide); (first | exact Or.inr (Or.inl ⟨by omega, by omega, by omega⟩) | (unfold aFi; omega)), (Or.inl ⟨by omega, by rw [hx_153.1]; exact hx_153.2⟩)⟩⟩, ⟨by rw [ht]; exact hP, va_K.moved hW.alike hK, hD⟩⟩, hS.F ht⟩) hS.2.2 dX10_fine_34
