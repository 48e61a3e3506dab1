


set_option maxHeartbeats 4000000 in
set_option maxRecDepth 100000 in
theorem c_X1_stateOn_c (l : Launch) (dC : Nat → ClassId) (dI : Nat → Nat → Nat) (sz : Nat) (cq : Nat → ClassId) (Z : oS) (gI : oInv Z) (o : Nat) (to : oty Z o 1) (x1 : Int32) (hx1 : 0 ≤ x1.toInt ∧ x1.toInt ≤ 3000) (x2 : Int32) (hx2 : 0 ≤ x2.toInt ∧ x2.toInt ≤ 3000) (a3 : Nat) (ta3 : oty Z a3 5) (h0 : Nat) (th : oty Z h0 10) (v : Nat → Int32) (fa : Nat → Nat → Int32) (hR : RC Z h0 v fa) (a : Nat) (ha : a < (v 43).toNatClampNeg) (ea : o = agA Z h0 a) (hLr : rLw Z a3 v fa) (hjk : x1.toInt ≤ x2.toInt) : Met l yX1_stateOn wsX1_stateOn ({ frames := 1, cells := 0, slots := 0, locals := 25 }) (va_Pc [.ref o, .int x1, .int x2, .ref a3] (pcW (dC, dI) (oT cq) (oW cq Z) sz)) (va_Qi (fun (r : Int32) (u : Unit) => (-9 ≤ r.toInt ∧ r.toInt ≤ 5) ∧ (r.toInt = stF v fa a x1.toInt x2.toInt)) (fun _ _ => True) (va_A [] sz)) 0 0 (va_A [] sz) := by
  refine Met.ofW (cc := cX1_stateOn) (maxL := 5) (ret := (some .int)) (by decide) rfl ?_
  intro p e s m args below meth c s₁ B hml hv
  obtain ⟨rfl, hsz, hP, hK, hD0⟩ := hv
  have hx := B.exec
  have hb := B.bytes
  have hr := B.returns
  have hts := atoms_spec (ws := wsX1_stateOn) B.pre
  have hown : s.vm.findClass RX1 = some m.cls := findClass_of_methodNamed B.named
  have hlocks := B.notSynchronized
  subst hsz
  have hD := hD0
  generalize hAe : va_A [] s.heap.size = A at ⊢
  have hA : ∀ q : Nat, s.heap.size ≤ q → A q := fun q h => by rw [← hAe]; exact Or.inr h
  have hS : va_S A s.heap s.heap [] := va_S.rf
  have hP : va_P (dC, dI) vwCl (oW cq Z) s.heap := hP
  have hl := lv_entry ([.ref o, .int x1, .int x2, .ref a3]) (n := 5) (Nat.le_of_ble_eq_true rfl)
  rw [lg_entry_eq]
  generalize (lg_sl ([.ref o, .int x1, .int x2, .ref a3]) ++ List.replicate (5 - (lg_sl ([.ref o, .int x1, .int x2, .ref a3])).length) Slot.unset).toArray = ls at hl ⊢
  have hl : lv_has ls 5 [(0, .ref o), (1, .int x1), (2, .int x2), (3, .ref a3)] := hl
  obtain ⟨fn0, fn1, fn2, fn3, fn4⟩ := RC.n hR
  have fb38 : 0 ≤ (v 38).toInt ∧ (v 38).toInt ≤ 3000 := RC.V hR 38
  have fb39 : 0 ≤ (v 39).toInt ∧ (v 39).toInt ≤ 40 := RC.V hR 39
  have fb40 : 0 ≤ (v 40).toInt ∧ (v 40).toInt ≤ 20 := RC.V hR 40
  have fb43 : 0 ≤ (v 43).toInt ∧ (v 43).toInt ≤ 60 := RC.V hR 43
  have fb41 : 0 ≤ (v 41).toInt ∧ (v 41).toInt ≤ 200 := RC.V hR 41
  have fAo := RC.a hR ha
  rw [← ea] at fAo
  obtain ⟨⟨fm1o, fm2o, fm3o⟩, ⟨fv1o, fv2o, fv3o⟩, fsio, fppo, fwgo, frko, fofo, fdeo, fcho⟩ := fAo
  have fBo : 0 ≤ (fa 25 a).toInt ∧ (fa 25 a).toInt ≤ 3000 := RC.A hR 25 _
  have lamo : (fa 20 a).toNatClampNeg < (v 39).toNatClampNeg := ni_lt fm1o fm2o
  have namo : (((fa 20 a).toNatClampNeg : Nat) : Int) = (fa 20 a).toInt := tn_i fm1o
  obtain ⟨amo, eamo⟩ : ∃ z, z = mnA Z h0 (fa 20 a).toNatClampNeg := ⟨_, rfl⟩
  rw [← eamo] at fm3o
  have tamo : oty Z amo 6 := by rw [eamo]; exact (RC.tm hR gI th lamo).2
  have fMamo := RC.m hR lamo
  rw [← eamo] at fMamo
  obtain ⟨fz0amo, fz1amo, fz2amo, fz3amo⟩ := fMamo
  rw [namo] at fz0amo
  have lavo : (fa 21 a).toNatClampNeg < (v 40).toNatClampNeg := ni_lt fv1o fv2o
  have navo : (((fa 21 a).toNatClampNeg : Nat) : Int) = (fa 21 a).toInt := tn_i fv1o
  obtain ⟨avo, eavo⟩ : ∃ z, z = voA Z h0 (fa 21 a).toNatClampNeg := ⟨_, rfl⟩
  rw [← eavo] at fv3o
  have tavo : oty Z avo 9 := by rw [eavo]; exact (RC.tv hR gI th lavo).2
  have fVavo := RC.vo hR lavo
  rw [← eavo] at fVavo
  obtain ⟨fy0avo, fy1avo, fy2avo, fy3avo, fy4avo, fySavo, fyLavo, fyhavo⟩ := fVavo
  have fBavo : 0 ≤ (fa 7 ((fa 21 a).toNatClampNeg)).toInt ∧ (fa 7 ((fa 21 a).toNatClampNeg)).toInt ≤ 3000 := RC.A hR 7 _
  have fSavo := onc_i fySavo
  have fLavo := onc_i fyLavo
  rw [navo] at fy0avo fSavo fLavo
  refine lv_iload_n hx hb dX1_stateOn_0 rfl (lv_at hl 1 rfl) ?_
  refine lv_aload_n hx hb dX1_stateOn_1 rfl (lv_at hl 0 rfl) ?_
  obtain ⟨q_1, hq_1⟩ := og (cq := cq) to.1 (oE_1 to.2)
  refine va_get (D := (dC, dI)) (ci := 1) (v := .int (oI Z o 2)) (C := RX1) (T := TX1) (N := 18) hx hb hts in_wsX1_stateOn_X1 hown hK hP q_1 hq_1 rfl 2 (by decide) (hts (.fieldLink RX1 37 "ShipOffice$Agreement" "signedOn" "I") iw_X1_stateOn_1) (fun _ h9 => h9) rfl dX1_stateOn_2 ?_
  refine lv_topi (fun x_2 ex_2 => ?_)
  have gx_2 : x_2.toInt = (oI Z o 2).toInt := iv_to ex_2
  clear ex_2
  refine lv_icmp_ge (tgt := 11) hx hb dX1_stateOn_5 (by decide) (fun c_3 => ?_) (fun c_3 => ?_)
  · have dc_3 := c_le (a := x_2.toInt) (b := x1.toInt) rfl rfl c_3
    refine lv_aload_n hx hb dX1_stateOn_11 rfl (lv_at hl 0 rfl) ?_
    refine va_get (D := (dC, dI)) (ci := 1) (v := .ref avo) (C := RX1) (T := TX1) (N := 18) hx hb hts in_wsX1_stateOn_X1 hown hK hP q_1 hq_1 rfl 1 (by decide) (hts (.fieldLink RX1 33 "ShipOffice$Agreement" "voyage" "LShipOffice$Voyage;") iw_X1_stateOn_2) (fun _ h9 => h9) (o_rd fv3o) dX1_stateOn_12 ?_
    refine lv_iload_n hx hb dX1_stateOn_15 rfl (lv_at hl 1 rfl) ?_
    refine lv_iload_n hx hb dX1_stateOn_16 rfl (lv_at hl 2 rfl) ?_
    have hFc : ∀ q, va_A [] s.heap.size q → A q := pu_free hS hA
    obtain ⟨q_4, hq_4⟩ := og (cq := cq) tavo.1 (oE_9 tavo.2)
    refine va_calli (va_runV (As := [.int x1, .int x2]) (rest := []) ⟨hx, hb, hml, hown, hts⟩ (c_X9_lostBy_c l dC dI s.heap.size cq Z gI avo tavo x1 x2 h0 th v fa hR ((fa 21 a).toNatClampNeg) lavo eavo (by omega)) (cwV 2 hts gX1_stateOn_X9_lostBy rfl rfl rfl (by decide +kernel) ⟨(Nat.le_of_ble_eq_true rfl), (Nat.le_of_ble_eq_true rfl)⟩) (pr_V (r := (RX9, TX9, 10)) hP hK hD q_4 9 rfl hq_4) rfl rfl hl.1 rfl (lv_room (Nat.le_of_ble_eq_true rfl)) dX1_stateOn_17 ⟨(Nat.le_of_ble_eq_true rfl), (Nat.le_of_ble_eq_true rfl)⟩) hS (fun q _ h => hFc q h) hFc (fun r_6 u t H locs ht hvm w_5 hB hz1 hk1 hS => ?_)
    have hP := pu_keep hP hk1
    clear hk1 hz1 hvm hB ht hFc
    obtain ⟨hb_7, hx_8⟩ := w_5
    refine lv_if_ne (tgt := 39) hx hb dX1_stateOn_20 (by decide) (fun c_9 => ?_) (fun c_9 => ?_)
    · have dc_9 := c_ne (a := r_6.toInt) (b := 0) rfl (by decide) c_9
      refine lv_iconst (v := 4) hx hb dX1_stateOn_39 (by decide) ?_
      exact W.iret (v := 4) hx hb hr (fun t ht hW => ⟨⟨4, (), rfl, ⟨(by decide), (by have rc : (4 : Int32).toInt = 4 := (by decide); have r_6n := hx_8; rw [navo] at r_6n; have hdd := ddI_e (v := v) (fa := fa) (a := (a : Int)) (x := (fa 21 a).toInt) (j := x1.toInt) (k := x2.toInt); have hdy := fun q => dyI_0 (v := v) (fa := fa) (x := a) (j := x1.toInt) (k := x2.toInt) q; (first | rw [if_pos (by omega)] at hdd | rw [if_neg (by omega)] at hdd); (try rw [hdy (by omega)] at hdd); clear hdy; unfold stF; (first | (rw [if_neg (by omega)]; rw [if_pos (by omega)]; omega) | (repeat (first | rw [if_pos (by omega)] | rw [if_neg (by omega)]); omega)))⟩, trivial⟩, hS.F ht⟩) hS.2.2 dX1_stateOn_40
    · have dc_9 := c_eq (a := r_6.toInt) (b := 0) rfl (by decide) c_9
      refine lv_aload_n hx hb dX1_stateOn_23 rfl (lv_at hl 0 rfl) ?_
      refine va_get (D := (dC, dI)) (ci := 1) (v := .int (oI Z o 7)) (C := RX1) (T := TX1) (N := 18) hx hb hts in_wsX1_stateOn_X1 hown hK hP q_1 hq_1 rfl 7 (by decide) (hts (.fieldLink RX1 44 "ShipOffice$Agreement" "isDead" "Z") iw_X1_stateOn_3) (fun _ h9 => h9) rfl dX1_stateOn_24 ?_
      refine lv_topi (fun x_10 ex_10 => ?_)
      have gx_10 : x_10.toInt = (oI Z o 7).toInt := iv_to ex_10
      clear ex_10
      refine lv_if_eq (tgt := 41) hx hb dX1_stateOn_27 (by decide) (fun c_11 => ?_) (fun c_11 => ?_)
      · have dc_11 := c_eq (a := x_10.toInt) (b := 0) rfl (by decide) c_11
        refine lv_aload_n hx hb dX1_stateOn_41 rfl (lv_at hl 0 rfl) ?_
        refine va_get (D := (dC, dI)) (ci := 1) (v := .int (oI Z o 6)) (C := RX1) (T := TX1) (N := 18) hx hb hts in_wsX1_stateOn_X1 hown hK hP q_1 hq_1 rfl 6 (by decide) (hts (.fieldLink RX1 10 "ShipOffice$Agreement" "offDay" "I") iw_X1_stateOn_4) (fun _ h9 => h9) rfl dX1_stateOn_42 ?_
        refine lv_topi (fun x_12 ex_12 => ?_)
        have gx_12 : x_12.toInt = (oI Z o 6).toInt := iv_to ex_12
        clear ex_12
        refine lv_iload_n hx hb dX1_stateOn_45 rfl (lv_at hl 1 rfl) ?_
        refine lv_icmp_gt (tgt := 59) hx hb dX1_stateOn_46 (by decide) (fun c_13 => ?_) (fun c_13 => ?_)
        · have dc_13 := c_lt (a := x1.toInt) (b := x_12.toInt) rfl rfl c_13
          refine lv_aload_n hx hb dX1_stateOn_59 rfl (lv_at hl 0 rfl) ?_
          refine lv_iload_n hx hb dX1_stateOn_60 rfl (lv_at hl 1 rfl) ?_
          refine lv_iload_n hx hb dX1_stateOn_61 rfl (lv_at hl 2 rfl) ?_
          have hFc : ∀ q, va_A [] H.size q → A q := pu_free hS hA
          refine va_callq (va_runV (As := [.int x1, .int x2]) (rest := []) ⟨hx, hb, hml, hown, hts⟩ (c_X1_lastMove_c l dC dI H.size cq Z gI o to x1 x2 h0 th v fa hR a ha ea) (cwV 2 hts gX1_stateOn_X1_lastMove rfl rfl rfl (by decide +kernel) ⟨(Nat.le_of_ble_eq_true rfl), (Nat.le_of_ble_eq_true rfl)⟩) (pr_V (r := (RX1, TX1, 18)) hP hK hD q_1 1 rfl hq_1) rfl rfl hl.1 rfl (lv_room (Nat.le_of_ble_eq_true rfl)) dX1_stateOn_62 ⟨(Nat.le_of_ble_eq_true rfl), (Nat.le_of_ble_eq_true rfl)⟩) hS (fun q _ h => hFc q h) hFc (fun r_15 u t H locs ht hvm w_14 hB hz1 hk1 hS => ?_)
          have hP := pu_keep hP hk1
          clear hk1 hz1 hvm hB ht hFc
          obtain ⟨hk_16, hx_17⟩ := w_14
          rcases r_15 with _ | b_18
          · refine W.eq (g2 := F0 m 65 ls [.null]) rfl ?_
            have hwr_15 := lmR_n hx_17
            refine lv_astoreN (lv' := [(4, .null), (0, .ref o), (1, .int x1), (2, .int x2), (3, .ref a3)]) hx hb dX1_stateOn_65 hl (by decide) rfl (fun ls hl => ?_)
            refine lv_aloadN hx hb dX1_stateOn_67 (lv_at hl 0 rfl) ?_
            refine lv_ifnullN (tgt := 82) hx hb dX1_stateOn_69 (by decide) ?_
            refine lv_aload_n hx hb dX1_stateOn_82 rfl (lv_at hl 1 rfl) ?_
            refine va_get (D := (dC, dI)) (ci := 1) (v := .ref avo) (C := RX1) (T := TX1) (N := 18) hx hb hts in_wsX1_stateOn_X1 hown hK hP q_1 hq_1 rfl 1 (by decide) (hts (.fieldLink RX1 33 "ShipOffice$Agreement" "voyage" "LShipOffice$Voyage;") iw_X1_stateOn_2) (fun _ h9 => h9) (o_rd fv3o) dX1_stateOn_83 ?_
            refine lv_iload_n hx hb dX1_stateOn_86 rfl (lv_at hl 2 rfl) ?_
            refine lv_iload_n hx hb dX1_stateOn_87 rfl (lv_at hl 3 rfl) ?_
            have hFc : ∀ q, va_A [] H.size q → A q := pu_free hS hA
            refine va_calli (va_runV (As := [.int x1, .int x2]) (rest := []) ⟨hx, hb, hml, hown, hts⟩ (c_X9_sailedBy_c l dC dI H.size cq Z gI avo tavo x1 x2 h0 th v fa hR ((fa 21 a).toNatClampNeg) lavo eavo (by omega)) (cwV 2 hts gX1_stateOn_X9_sailedBy rfl rfl rfl (by decide +kernel) ⟨(Nat.le_of_ble_eq_true rfl), (Nat.le_of_ble_eq_true rfl)⟩) (pr_V (r := (RX9, TX9, 10)) hP hK hD q_4 9 rfl hq_4) rfl rfl hl.1 rfl (lv_room (Nat.le_of_ble_eq_true rfl)) dX1_stateOn_88 ⟨(Nat.le_of_ble_eq_true rfl), (Nat.le_of_ble_eq_true rfl)⟩) hS (fun q _ h => hFc q h) hFc (fun r_20 u t H locs ht hvm w_19 hB hz1 hk1 hS => ?_)
            have hP := pu_keep hP hk1
            clear hk1 hz1 hvm hB ht hFc
            obtain ⟨hb_21, hx_22⟩ := w_19
            refine lv_if_ne (tgt := 96) hx hb dX1_stateOn_91 (by decide) (fun c_23 => ?_) (fun c_23 => ?_)
            · have dc_23 := c_ne (a := r_20.toInt) (b := 0) rfl (by decide) c_23
              refine lv_aload_n hx hb dX1_stateOn_96 rfl (lv_at hl 1 rfl) ?_
              refine va_get (D := (dC, dI)) (ci := 1) (v := .ref avo) (C := RX1) (T := TX1) (N := 18) hx hb hts in_wsX1_stateOn_X1 hown hK hP q_1 hq_1 rfl 1 (by decide) (hts (.fieldLink RX1 33 "ShipOffice$Agreement" "voyage" "LShipOffice$Voyage;") iw_X1_stateOn_2) (fun _ h9 => h9) (o_rd fv3o) dX1_stateOn_97 ?_
              refine lv_iload_n hx hb dX1_stateOn_100 rfl (lv_at hl 2 rfl) ?_
              refine lv_iload_n hx hb dX1_stateOn_101 rfl (lv_at hl 3 rfl) ?_
              have hFc : ∀ q, va_A [] H.size q → A q := pu_free hS hA
              refine va_calli (va_runV (As := [.int x1, .int x2]) (rest := []) ⟨hx, hb, hml, hown, hts⟩ (c_X9_lastHeard_c l dC dI H.size cq Z gI avo tavo x1 x2 h0 th v fa hR ((fa 21 a).toNatClampNeg) lavo eavo (by omega)) (cwV 2 hts gX1_stateOn_X9_lastHeard rfl rfl rfl (by decide +kernel) ⟨(Nat.le_of_ble_eq_true rfl), (Nat.le_of_ble_eq_true rfl)⟩) (pr_V (r := (RX9, TX9, 10)) hP hK hD q_4 9 rfl hq_4) rfl rfl hl.1 rfl (lv_room (Nat.le_of_ble_eq_true rfl)) dX1_stateOn_102 ⟨(Nat.le_of_ble_eq_true rfl), (Nat.le_of_ble_eq_true rfl)⟩) hS (fun q _ h => hFc q h) hFc (fun r_25 u t H locs ht hvm w_24 hB hz1 hk1 hS => ?_)
              have hP := pu_keep hP hk1
              clear hk1 hz1 hvm hB ht hFc
              obtain ⟨hb_26, hx_27⟩ := w_24
              refine lv_iload_n hx hb dX1_stateOn_105 rfl (lv_at hl 2 rfl) ?_
              refine lv_aload_n hx hb dX1_stateOn_106 rfl (lv_at hl 4 rfl) ?_
              refine lv_iconst (v := 4) hx hb dX1_stateOn_107 (by decide) ?_
              refine lv_iload_n hx hb dX1_stateOn_108 rfl (lv_at hl 2 rfl) ?_
              have hFc : ∀ q, va_A [] H.size q → A q := pu_free hS hA
              obtain ⟨q_28, hq_28⟩ := og (cq := cq) ta3.1 (oE_5 ta3.2)
              refine va_callq (va_runV (As := [.int 4, .int x1]) (rest := [.int x1, .int r_25]) ⟨hx, hb, hml, hown, hts⟩ (c_X5_inForce_c l dC dI H.size cq Z gI a3 ta3 4 (by decide) x1 v fa hLr) (cwV 2 hts gX1_stateOn_X5_inForce rfl rfl rfl (by decide +kernel) ⟨(Nat.le_of_ble_eq_true rfl), (Nat.le_of_ble_eq_true rfl)⟩) (pr_V (r := (RX5, TX5, 3)) hP hK hD q_28 5 rfl hq_28) rfl rfl hl.1 rfl (lv_room (Nat.le_of_ble_eq_true rfl)) dX1_stateOn_109 ⟨(Nat.le_of_ble_eq_true rfl), (Nat.le_of_ble_eq_true rfl)⟩) hS (fun q _ h => hFc q h) hFc (fun r_30 u t H locs ht hvm w_29 hB hz1 hk1 hS => ?_)
              have hP := pu_keep hP hk1
              clear hk1 hz1 hvm hB ht hFc
              obtain ⟨hk_31, hx_32⟩ := w_29
              obtain ⟨b_33, rfl, tb_33⟩ := hk_31
              refine W.eq (g2 := F0 m 112 ls [.ref b_33, .int x1, .int r_25]) rfl ?_
              have hpwb_33 : (oI Z b_33 2).toInt = wPr v fa x1.toInt := ifA_w hLr (by have q := hx_32; rw [show (4 : Int32).toInt = 4 from (by decide)] at q; exact Option.some.inj q)
              have hpbb_33 := wPr_b (d := x1.toInt) (rLw_wl hLr)
              obtain ⟨q_34, hq_34⟩ := og (cq := cq) tb_33.1 (oE_0 tb_33.2)
              refine va_get (D := (dC, dI)) (ci := 0) (v := .int (oI Z b_33 2)) (C := RX0) (T := TX0) (N := 5) hx hb hts in_wsX1_stateOn_X0 hown hK hP q_34 hq_34 rfl 2 (by decide) (hts (.fieldLink RX1 82 "ShipOffice$Act" "plainWorth" "I") iw_X1_stateOn_5) (fun _ h9 => h9) rfl dX1_stateOn_112 ?_
              refine lv_topi (fun x_35 ex_35 => ?_)
              have hx_35 : -1000000000 ≤ x_35.toInt ∧ x_35.toInt ≤ 1000000000 := iv_of ex_35 (by omega)
              have gx_35 : x_35.toInt = (oI Z b_33 2).toInt := iv_to ex_35
              clear ex_35
              refine lv_isub hx hb dX1_stateOn_115 ?_
              refine lv_topi (fun x_36 ex_36 => ?_)
              have hx_36 : x_36.toInt = x1.toInt - x_35.toInt := (iv_to ex_36).trans (sb_i rfl rfl (by omega) (by omega))
              clear ex_36
              refine lv_icmp_ge (tgt := 123) hx hb dX1_stateOn_116 (by decide) (fun c_37 => ?_) (fun c_37 => ?_)
              · have dc_37 := c_le (a := x_36.toInt) (b := r_25.toInt) rfl rfl c_37
                refine lv_iconst (v := 1) hx hb dX1_stateOn_123 (by decide) ?_
                exact W.iret (v := 1) hx hb hr (fun t ht hW => ⟨⟨1, (), rfl, ⟨(by decide), (by have rc : (1 : Int32).toInt = 1 := (by decide); have r_6n := hx_8; rw [navo] at r_6n; have r_20n := hx_22; rw [navo] at r_20n; have r_25n := hx_27; rw [navo] at r_25n; have hdd := ddI_e (v := v) (fa := fa) (a := (a : Int)) (x := (fa 21 a).toInt) (j := x1.toInt) (k := x2.toInt); have hdy := fun q => dyI_0 (v := v) (fa := fa) (x := a) (j := x1.toInt) (k := x2.toInt) q; (first | rw [if_pos (by omega)] at hdd | rw [if_neg (by omega)] at hdd); (try rw [hdy (by omega)] at hdd); clear hdy; have huk : ukO v fa (fa 21 a).toInt x1.toInt x2.toInt = 0 := (by unfold ukO; repeat (first | rw [if_pos (by omega)] | rw [if_neg (by omega)]); (try omega)); unfold stF; (first | (rw [if_neg (by omega)]; rw [if_neg (by omega)]; rw [if_neg (by omega)]; rw [if_neg (by omega)]; rw [if_neg (by omega)]; rw [if_neg (by omega)]; omega) | (repeat (first | rw [if_pos (by omega)] | rw [if_neg (by omega)]); omega)))⟩, trivial⟩, hS.F ht⟩) hS.2.2 dX1_stateOn_124
              · have dc_37 := c_nle (a := x_36.toInt) (b := r_25.toInt) rfl rfl c_37
                refine lv_iconst (v := 2) hx hb dX1_stateOn_119 (by decide) ?_
                refine lv_goto (tgt := 124) hx hb dX1_stateOn_120 (by decide) ?_
                exact W.iret (v := 2) hx hb hr (fun t ht hW => ⟨⟨2, (), rfl, ⟨(by decide), (by have rc : (2 : Int32).toInt = 2 := (by decide); have r_6n := hx_8; rw [navo] at r_6n; have r_20n := hx_22; rw [navo] at r_20n; have r_25n := hx_27; rw [navo] at r_25n; have hdd := ddI_e (v := v) (fa := fa) (a := (a : Int)) (x := (fa 21 a).toInt) (j := x1.toInt) (k := x2.toInt); have hdy := fun q => dyI_0 (v := v) (fa := fa) (x := a) (j := x1.toInt) (k := x2.toInt) q; (first | rw [if_pos (by omega)] at hdd | rw [if_neg (by omega)] at hdd); (try rw [hdy (by omega)] at hdd); clear hdy; have huk : ukO v fa (fa 21 a).toInt x1.toInt x2.toInt = 1 := (by unfold ukO; repeat (first | rw [if_pos (by omega)] | rw [if_neg (by omega)]); (try omega)); unfold stF; (first | (rw [if_neg (by omega)]; rw [if_neg (by omega)]; rw [if_neg (by omega)]; rw [if_neg (by omega)]; rw [if_neg (by omega)]; rw [if_pos (by omega)]; omega) | (repeat (first | rw [if_pos (by omega)] | rw [if_neg (by omega)]); omega)))⟩, trivial⟩, hS.F ht⟩) hS.2.2 dX1_stateOn_124
            · have dc_23 := c_eq (a := r_20.toInt) (b := 0) rfl (by decide) c_23
              refine lv_iconst (v := 0) hx hb dX1_stateOn_94 (by decide) ?_
              exact W.iret (v := 0) hx hb hr (fun t ht hW => ⟨⟨0, (), rfl, ⟨(by decide), (by have rc : (0 : Int32).toInt = 0 := (by decide); have r_6n := hx_8; rw [navo] at r_6n; have r_20n := hx_22; rw [navo] at r_20n; have hdd := ddI_e (v := v) (fa := fa) (a := (a : Int)) (x := (fa 21 a).toInt) (j := x1.toInt) (k := x2.toInt); have hdy := fun q => dyI_0 (v := v) (fa := fa) (x := a) (j := x1.toInt) (k := x2.toInt) q; (first | rw [if_pos (by omega)] at hdd | rw [if_neg (by omega)] at hdd); (try rw [hdy (by omega)] at hdd); clear hdy; unfold stF; (first | (rw [if_neg (by omega)]; rw [if_neg (by omega)]; rw [if_neg (by omega)]; rw [if_neg (by omega)]; rw [if_pos (by omega)]; omega) | (repeat (first | rw [if_pos (by omega)] | rw [if_neg (by omega)]); omega)))⟩, trivial⟩, hS.F ht⟩) hS.2.2 dX1_stateOn_95
          · refine W.eq (g2 := F0 m 65 ls [.ref b_18]) rfl ?_
            have tb_18 : oty Z b_18 3 := hk_16 b_18 rfl
            obtain ⟨hwb_18, ⟨hwab_18, hwbb_18, hwcb_18⟩, hwdb_18⟩ := lmR_s hx_17
            refine lv_astore (lv' := [(4, .ref b_18), (0, .ref o), (1, .int x1), (2, .int x2), (3, .ref a3)]) hx hb dX1_stateOn_65 hl (by decide) rfl (fun ls hl => ?_)
            refine lv_aload hx hb dX1_stateOn_67 (lv_at hl 0 rfl) ?_
            refine lv_ifnull hx hb dX1_stateOn_69 ?_
            refine lv_aload hx hb dX1_stateOn_72 (lv_at hl 0 rfl) ?_
            obtain ⟨q_38, hq_38⟩ := og (cq := cq) tb_18.1 (oE_3 tb_18.2)
            refine va_get (D := (dC, dI)) (ci := 3) (v := .int (oI Z b_18 0)) (C := RX3) (T := TX3) (N := 6) hx hb hts in_wsX1_stateOn_X3 hown hK hP q_38 hq_38 rfl 0 (by decide) (hts (.fieldLink RX1 64 "ShipOffice$Happening" "kind" "I") iw_X1_stateOn_6) (fun _ h9 => h9) rfl dX1_stateOn_74 ?_
            refine lv_topi (fun x_39 ex_39 => ?_)
            have gx_39 : x_39.toInt = (oI Z b_18 0).toInt := iv_to ex_39
            clear ex_39
            refine lv_if_ne (tgt := 82) hx hb dX1_stateOn_77 (by decide) (fun c_40 => ?_) (fun c_40 => ?_)
            · have dc_40 := c_ne (a := x_39.toInt) (b := 0) rfl (by decide) c_40
              refine lv_aload_n hx hb dX1_stateOn_82 rfl (lv_at hl 1 rfl) ?_
              refine va_get (D := (dC, dI)) (ci := 1) (v := .ref avo) (C := RX1) (T := TX1) (N := 18) hx hb hts in_wsX1_stateOn_X1 hown hK hP q_1 hq_1 rfl 1 (by decide) (hts (.fieldLink RX1 33 "ShipOffice$Agreement" "voyage" "LShipOffice$Voyage;") iw_X1_stateOn_2) (fun _ h9 => h9) (o_rd fv3o) dX1_stateOn_83 ?_
              refine lv_iload_n hx hb dX1_stateOn_86 rfl (lv_at hl 2 rfl) ?_
              refine lv_iload_n hx hb dX1_stateOn_87 rfl (lv_at hl 3 rfl) ?_
              have hFc : ∀ q, va_A [] H.size q → A q := pu_free hS hA
              refine va_calli (va_runV (As := [.int x1, .int x2]) (rest := []) ⟨hx, hb, hml, hown, hts⟩ (c_X9_sailedBy_c l dC dI H.size cq Z gI avo tavo x1 x2 h0 th v fa hR ((fa 21 a).toNatClampNeg) lavo eavo (by omega)) (cwV 2 hts gX1_stateOn_X9_sailedBy rfl rfl rfl (by decide +kernel) ⟨(Nat.le_of_ble_eq_true rfl), (Nat.le_of_ble_eq_true rfl)⟩) (pr_V (r := (RX9, TX9, 10)) hP hK hD q_4 9 rfl hq_4) rfl rfl hl.1 rfl (lv_room (Nat.le_of_ble_eq_true rfl)) dX1_stateOn_88 ⟨(Nat.le_of_ble_eq_true rfl), (Nat.le_of_ble_eq_true rfl)⟩) hS (fun q _ h => hFc q h) hFc (fun r_42 u t H locs ht hvm w_41 hB hz1 hk1 hS => ?_)
              have hP := pu_keep hP hk1
              clear hk1 hz1 hvm hB ht hFc
              obtain ⟨hb_43, hx_44⟩ := w_41
              refine lv_if_ne (tgt := 96) hx hb dX1_stateOn_91 (by decide) (fun c_45 => ?_) (fun c_45 => ?_)
              · have dc_45 := c_ne (a := r_42.toInt) (b := 0) rfl (by decide) c_45
                refine lv_aload_n hx hb dX1_stateOn_96 rfl (lv_at hl 1 rfl) ?_
                refine va_get (D := (dC, dI)) (ci := 1) (v := .ref avo) (C := RX1) (T := TX1) (N := 18) hx hb hts in_wsX1_stateOn_X1 hown hK hP q_1 hq_1 rfl 1 (by decide) (hts (.fieldLink RX1 33 "ShipOffice$Agreement" "voyage" "LShipOffice$Voyage;") iw_X1_stateOn_2) (fun _ h9 => h9) (o_rd fv3o) dX1_stateOn_97 ?_
                refine lv_iload_n hx hb dX1_stateOn_100 rfl (lv_at hl 2 rfl) ?_
                refine lv_iload_n hx hb dX1_stateOn_101 rfl (lv_at hl 3 rfl) ?_
                have hFc : ∀ q, va_A [] H.size q → A q := pu_free hS hA
                refine va_calli (va_runV (As := [.int x1, .int x2]) (rest := []) ⟨hx, hb, hml, hown, hts⟩ (c_X9_lastHeard_c l dC dI H.size cq Z gI avo tavo x1 x2 h0 th v fa hR ((fa 21 a).toNatClampNeg) lavo eavo (by omega)) (cwV 2 hts gX1_stateOn_X9_lastHeard rfl rfl rfl (by decide +kernel) ⟨(Nat.le_of_ble_eq_true rfl), (Nat.le_of_ble_eq_true rfl)⟩) (pr_V (r := (RX9, TX9, 10)) hP hK hD q_4 9 rfl hq_4) rfl rfl hl.1 rfl (lv_room (Nat.le_of_ble_eq_true rfl)) dX1_stateOn_102 ⟨(Nat.le_of_ble_eq_true rfl), (Nat.le_of_ble_eq_true rfl)⟩) hS (fun q _ h => hFc q h) hFc (fun r_47 u t H locs ht hvm w_46 hB hz1 hk1 hS => ?_)
                have hP := pu_keep hP hk1
                clear hk1 hz1 hvm hB ht hFc
                obtain ⟨hb_48, hx_49⟩ := w_46
                refine lv_iload_n hx hb dX1_stateOn_105 rfl (lv_at hl 2 rfl) ?_
                refine lv_aload_n hx hb dX1_stateOn_106 rfl (lv_at hl 4 rfl) ?_
                refine lv_iconst (v := 4) hx hb dX1_stateOn_107 (by decide) ?_
                refine lv_iload_n hx hb dX1_stateOn_108 rfl (lv_at hl 2 rfl) ?_
                have hFc : ∀ q, va_A [] H.size q → A q := pu_free hS hA
                obtain ⟨q_50, hq_50⟩ := og (cq := cq) ta3.1 (oE_5 ta3.2)
                refine va_callq (va_runV (As := [.int 4, .int x1]) (rest := [.int x1, .int r_47]) ⟨hx, hb, hml, hown, hts⟩ (c_X5_inForce_c l dC dI H.size cq Z gI a3 ta3 4 (by decide) x1 v fa hLr) (cwV 2 hts gX1_stateOn_X5_inForce rfl rfl rfl (by decide +kernel) ⟨(Nat.le_of_ble_eq_true rfl), (Nat.le_of_ble_eq_true rfl)⟩) (pr_V (r := (RX5, TX5, 3)) hP hK hD q_50 5 rfl hq_50) rfl rfl hl.1 rfl (lv_room (Nat.le_of_ble_eq_true rfl)) dX1_stateOn_109 ⟨(Nat.le_of_ble_eq_true rfl), (Nat.le_of_ble_eq_true rfl)⟩) hS (fun q _ h => hFc q h) hFc (fun r_52 u t H locs ht hvm w_51 hB hz1 hk1 hS => ?_)
                have hP := pu_keep hP hk1
                clear hk1 hz1 hvm hB ht hFc
                obtain ⟨hk_53, hx_54⟩ := w_51
                obtain ⟨b_55, rfl, tb_55⟩ := hk_53
                refine W.eq (g2 := F0 m 112 ls [.ref b_55, .int x1, .int r_47]) rfl ?_
                have hpwb_55 : (oI Z b_55 2).toInt = wPr v fa x1.toInt := ifA_w hLr (by have q := hx_54; rw [show (4 : Int32).toInt = 4 from (by decide)] at q; exact Option.some.inj q)
                have hpbb_55 := wPr_b (d := x1.toInt) (rLw_wl hLr)
                obtain ⟨q_56, hq_56⟩ := og (cq := cq) tb_55.1 (oE_0 tb_55.2)
                refine va_get (D := (dC, dI)) (ci := 0) (v := .int (oI Z b_55 2)) (C := RX0) (T := TX0) (N := 5) hx hb hts in_wsX1_stateOn_X0 hown hK hP q_56 hq_56 rfl 2 (by decide) (hts (.fieldLink RX1 82 "ShipOffice$Act" "plainWorth" "I") iw_X1_stateOn_5) (fun _ h9 => h9) rfl dX1_stateOn_112 ?_
                refine lv_topi (fun x_57 ex_57 => ?_)
                have hx_57 : -1000000000 ≤ x_57.toInt ∧ x_57.toInt ≤ 1000000000 := iv_of ex_57 (by omega)
                have gx_57 : x_57.toInt = (oI Z b_55 2).toInt := iv_to ex_57
                clear ex_57
                refine lv_isub hx hb dX1_stateOn_115 ?_
                refine lv_topi (fun x_58 ex_58 => ?_)
                have hx_58 : x_58.toInt = x1.toInt - x_57.toInt := (iv_to ex_58).trans (sb_i rfl rfl (by omega) (by omega))
                clear ex_58
                refine lv_icmp_ge (tgt := 123) hx hb dX1_stateOn_116 (by decide) (fun c_59 => ?_) (fun c_59 => ?_)
                · have dc_59 := c_le (a := x_58.toInt) (b := r_47.toInt) rfl rfl c_59
                  refine lv_iconst (v := 1) hx hb dX1_stateOn_123 (by decide) ?_
                  exact W.iret (v := 1) hx hb hr (fun t ht hW => ⟨⟨1, (), rfl, ⟨(by decide), (by have rc : (1 : Int32).toInt = 1 := (by decide); have r_6n := hx_8; rw [navo] at r_6n; have r_42n := hx_44; rw [navo] at r_42n; have r_47n := hx_49; rw [navo] at r_47n; have hdd := ddI_e (v := v) (fa := fa) (a := (a : Int)) (x := (fa 21 a).toInt) (j := x1.toInt) (k := x2.toInt); have hdy := fun q => dyI_0 (v := v) (fa := fa) (x := a) (j := x1.toInt) (k := x2.toInt) q; (first | rw [if_pos (by omega)] at hdd | rw [if_neg (by omega)] at hdd); (try rw [hdy (by omega)] at hdd); clear hdy; have huk : ukO v fa (fa 21 a).toInt x1.toInt x2.toInt = 0 := (by unfold ukO; repeat (first | rw [if_pos (by omega)] | rw [if_neg (by omega)]); (try omega)); unfold stF; (first | (rw [if_neg (by omega)]; rw [if_neg (by omega)]; rw [if_neg (by omega)]; rw [if_neg (by omega)]; rw [if_neg (by omega)]; rw [if_neg (by omega)]; omega) | (repeat (first | rw [if_pos (by omega)] | rw [if_neg (by omega)]); omega)))⟩, trivial⟩, hS.F ht⟩) hS.2.2 dX1_stateOn_124
                · have dc_59 := c_nle (a := x_58.toInt) (b := r_47.toInt) rfl rfl c_59
                  refine lv_iconst (v := 2) hx hb dX1_stateOn_119 (by decide) ?_
                  refine lv_goto (tgt := 124) hx hb dX1_stateOn_120 (by decide) ?_
                  exact W.iret (v := 2) hx hb hr (fun t ht hW => ⟨⟨2, (), rfl, ⟨(by decide), (by have rc : (2 : Int32).toInt = 2 := (by decide); have r_6n := hx_8; rw [navo] at r_6n; have r_42n := hx_44; rw [navo] at r_42n; have r_47n := hx_49; rw [navo] at r_47n; have hdd := ddI_e (v := v) (fa := fa) (a := (a : Int)) (x := (fa 21 a).toInt) (j := x1.toInt) (k := x2.toInt); have hdy := fun q => dyI_0 (v := v) (fa := fa) (x := a) (j := x1.toInt) (k := x2.toInt) q; (first | rw [if_pos (by omega)] at hdd | rw [if_neg (by omega)] at hdd); (try rw [hdy (by omega)] at hdd); clear hdy; have huk : ukO v fa (fa 21 a).toInt x1.toInt x2.toInt = 1 := (by unfold ukO; repeat (first | rw [if_pos (by omega)] | rw [if_neg (by omega)]); (try omega)); unfold stF; (first | (rw [if_neg (by omega)]; rw [if_neg (by omega)]; rw [if_neg (by omega)]; rw [if_neg (by omega)]; rw [if_neg (by omega)]; rw [if_pos (by omega)]; omega) | (repeat (first | rw [if_pos (by omega)] | rw [if_neg (by omega)]); omega)))⟩, trivial⟩, hS.F ht⟩) hS.2.2 dX1_stateOn_124
              · have dc_45 := c_eq (a := r_42.toInt) (b := 0) rfl (by decide) c_45
                refine lv_iconst (v := 0) hx hb dX1_stateOn_94 (by decide) ?_
                exact W.iret (v := 0) hx hb hr (fun t ht hW => ⟨⟨0, (), rfl, ⟨(by decide), (by have rc : (0 : Int32).toInt = 0 := (by decide); have r_6n := hx_8; rw [navo] at r_6n; have r_42n := hx_44; rw [navo] at r_42n; have hdd := ddI_e (v := v) (fa := fa) (a := (a : Int)) (x := (fa 21 a).toInt) (j := x1.toInt) (k := x2.toInt); have hdy := fun q => dyI_0 (v := v) (fa := fa) (x := a) (j := x1.toInt) (k := x2.toInt) q; (first | rw [if_pos (by omega)] at hdd | rw [if_neg (by omega)] at hdd); (try rw [hdy (by omega)] at hdd); clear hdy; unfold stF; (first | (rw [if_neg (by omega)]; rw [if_neg (by omega)]; rw [if_neg (by omega)]; rw [if_neg (by omega)]; rw [if_pos (by omega)]; omega) | (repeat (first | rw [if_pos (by omega)] | rw [if_neg (by omega)]); omega)))⟩, trivial⟩, hS.F ht⟩) hS.2.2 dX1_stateOn_95
            · have dc_40 := c_eq (a := x_39.toInt) (b := 0) rfl (by decide) c_40
              refine lv_iconst (v := 3) hx hb dX1_stateOn_80 (by decide) ?_
              exact W.iret (v := 3) hx hb hr (fun t ht hW => ⟨⟨3, (), rfl, ⟨(by decide), (by have rc : (3 : Int32).toInt = 3 := (by decide); have r_6n := hx_8; rw [navo] at r_6n; have hdd := ddI_e (v := v) (fa := fa) (a := (a : Int)) (x := (fa 21 a).toInt) (j := x1.toInt) (k := x2.toInt); have hdy := fun q => dyI_0 (v := v) (fa := fa) (x := a) (j := x1.toInt) (k := x2.toInt) q; (first | rw [if_pos (by omega)] at hdd | rw [if_neg (by omega)] at hdd); (try rw [hdy (by omega)] at hdd); clear hdy; unfold stF; (first | (rw [if_neg (by omega)]; rw [if_neg (by omega)]; rw [if_neg (by omega)]; rw [if_pos (by omega)]; omega) | (repeat (first | rw [if_pos (by omega)] | rw [if_neg (by omega)]); omega)))⟩, trivial⟩, hS.F ht⟩) hS.2.2 dX1_stateOn_81
        · have dc_13 := c_nlt (a := x1.toInt) (b := x_12.toInt) rfl rfl c_13
          refine lv_aload_n hx hb dX1_stateOn_49 rfl (lv_at hl 0 rfl) ?_
          refine va_get (D := (dC, dI)) (ci := 1) (v := .int (oI Z o 6)) (C := RX1) (T := TX1) (N := 18) hx hb hts in_wsX1_stateOn_X1 hown hK hP q_1 hq_1 rfl 6 (by decide) (hts (.fieldLink RX1 10 "ShipOffice$Agreement" "offDay" "I") iw_X1_stateOn_4) (fun _ h9 => h9) rfl dX1_stateOn_50 ?_
          refine lv_topi (fun x_60 ex_60 => ?_)
          have gx_60 : x_60.toInt = (oI Z o 6).toInt := iv_to ex_60
          clear ex_60
          refine lv_iload_n hx hb dX1_stateOn_53 rfl (lv_at hl 2 rfl) ?_
          refine lv_icmp_gt (tgt := 59) hx hb dX1_stateOn_54 (by decide) (fun c_61 => ?_) (fun c_61 => ?_)
          · have dc_61 := c_lt (a := x2.toInt) (b := x_60.toInt) rfl rfl c_61
            refine lv_aload_n hx hb dX1_stateOn_59 rfl (lv_at hl 0 rfl) ?_
            refine lv_iload_n hx hb dX1_stateOn_60 rfl (lv_at hl 1 rfl) ?_
            refine lv_iload_n hx hb dX1_stateOn_61 rfl (lv_at hl 2 rfl) ?_
            have hFc : ∀ q, va_A [] H.size q → A q := pu_free hS hA
            refine va_callq (va_runV (As := [.int x1, .int x2]) (rest := []) ⟨hx, hb, hml, hown, hts⟩ (c_X1_lastMove_c l dC dI H.size cq Z gI o to x1 x2 h0 th v fa hR a ha ea) (cwV 2 hts gX1_stateOn_X1_lastMove rfl rfl rfl (by decide +kernel) ⟨(Nat.le_of_ble_eq_true rfl), (Nat.le_of_ble_eq_true rfl)⟩) (pr_V (r := (RX1, TX1, 18)) hP hK hD q_1 1 rfl hq_1) rfl rfl hl.1 rfl (lv_room (Nat.le_of_ble_eq_true rfl)) dX1_stateOn_62 ⟨(Nat.le_of_ble_eq_true rfl), (Nat.le_of_ble_eq_true rfl)⟩) hS (fun q _ h => hFc q h) hFc (fun r_63 u t H locs ht hvm w_62 hB hz1 hk1 hS => ?_)
            have hP := pu_keep hP hk1
            clear hk1 hz1 hvm hB ht hFc
            obtain ⟨hk_64, hx_65⟩ := w_62
            rcases r_63 with _ | b_66
            · refine W.eq (g2 := F0 m 65 ls [.null]) rfl ?_
              have hwr_63 := lmR_n hx_65
              refine lv_astoreN (lv' := [(4, .null), (0, .ref o), (1, .int x1), (2, .int x2), (3, .ref a3)]) hx hb dX1_stateOn_65 hl (by decide) rfl (fun ls hl => ?_)
              refine lv_aloadN hx hb dX1_stateOn_67 (lv_at hl 0 rfl) ?_
              refine lv_ifnullN (tgt := 82) hx hb dX1_stateOn_69 (by decide) ?_
              refine lv_aload_n hx hb dX1_stateOn_82 rfl (lv_at hl 1 rfl) ?_
              refine va_get (D := (dC, dI)) (ci := 1) (v := .ref avo) (C := RX1) (T := TX1) (N := 18) hx hb hts in_wsX1_stateOn_X1 hown hK hP q_1 hq_1 rfl 1 (by decide) (hts (.fieldLink RX1 33 "ShipOffice$Agreement" "voyage" "LShipOffice$Voyage;") iw_X1_stateOn_2) (fun _ h9 => h9) (o_rd fv3o) dX1_stateOn_83 ?_
              refine lv_iload_n hx hb dX1_stateOn_86 rfl (lv_at hl 2 rfl) ?_
              refine lv_iload_n hx hb dX1_stateOn_87 rfl (lv_at hl 3 rfl) ?_
              have hFc : ∀ q, va_A [] H.size q → A q := pu_free hS hA
              refine va_calli (va_runV (As := [.int x1, .int x2]) (rest := []) ⟨hx, hb, hml, hown, hts⟩ (c_X9_sailedBy_c l dC dI H.size cq Z gI avo tavo x1 x2 h0 th v fa hR ((fa 21 a).toNatClampNeg) lavo eavo (by omega)) (cwV 2 hts gX1_stateOn_X9_sailedBy rfl rfl rfl (by decide +kernel) ⟨(Nat.le_of_ble_eq_true rfl), (Nat.le_of_ble_eq_true rfl)⟩) (pr_V (r := (RX9, TX9, 10)) hP hK hD q_4 9 rfl hq_4) rfl rfl hl.1 rfl (lv_room (Nat.le_of_ble_eq_true rfl)) dX1_stateOn_88 ⟨(Nat.le_of_ble_eq_true rfl), (Nat.le_of_ble_eq_true rfl)⟩) hS (fun q _ h => hFc q h) hFc (fun r_68 u t H locs ht hvm w_67 hB hz1 hk1 hS => ?_)
              have hP := pu_keep hP hk1
              clear hk1 hz1 hvm hB ht hFc
              obtain ⟨hb_69, hx_70⟩ := w_67
              refine lv_if_ne (tgt := 96) hx hb dX1_stateOn_91 (by decide) (fun c_71 => ?_) (fun c_71 => ?_)
              · have dc_71 := c_ne (a := r_68.toInt) (b := 0) rfl (by decide) c_71
                refine lv_aload_n hx hb dX1_stateOn_96 rfl (lv_at hl 1 rfl) ?_
                refine va_get (D := (dC, dI)) (ci := 1) (v := .ref avo) (C := RX1) (T := TX1) (N := 18) hx hb hts in_wsX1_stateOn_X1 hown hK hP q_1 hq_1 rfl 1 (by decide) (hts (.fieldLink RX1 33 "ShipOffice$Agreement" "voyage" "LShipOffice$Voyage;") iw_X1_stateOn_2) (fun _ h9 => h9) (o_rd fv3o) dX1_stateOn_97 ?_
                refine lv_iload_n hx hb dX1_stateOn_100 rfl (lv_at hl 2 rfl) ?_
                refine lv_iload_n hx hb dX1_stateOn_101 rfl (lv_at hl 3 rfl) ?_
                have hFc : ∀ q, va_A [] H.size q → A q := pu_free hS hA
                refine va_calli (va_runV (As := [.int x1, .int x2]) (rest := []) ⟨hx, hb, hml, hown, hts⟩ (c_X9_lastHeard_c l dC dI H.size cq Z gI avo tavo x1 x2 h0 th v fa hR ((fa 21 a).toNatClampNeg) lavo eavo (by omega)) (cwV 2 hts gX1_stateOn_X9_lastHeard rfl rfl rfl (by decide +kernel) ⟨(Nat.le_of_ble_eq_true rfl), (Nat.le_of_ble_eq_true rfl)⟩) (pr_V (r := (RX9, TX9, 10)) hP hK hD q_4 9 rfl hq_4) rfl rfl hl.1 rfl (lv_room (Nat.le_of_ble_eq_true rfl)) dX1_stateOn_102 ⟨(Nat.le_of_ble_eq_true rfl), (Nat.le_of_ble_eq_true rfl)⟩) hS (fun q _ h => hFc q h) hFc (fun r_73 u t H locs ht hvm w_72 hB hz1 hk1 hS => ?_)
                have hP := pu_keep hP hk1
                clear hk1 hz1 hvm hB ht hFc
                obtain ⟨hb_74, hx_75⟩ := w_72
                refine lv_iload_n hx hb dX1_stateOn_105 rfl (lv_at hl 2 rfl) ?_
                refine lv_aload_n hx hb dX1_stateOn_106 rfl (lv_at hl 4 rfl) ?_
                refine lv_iconst (v := 4) hx hb dX1_stateOn_107 (by decide) ?_
                refine lv_iload_n hx hb dX1_stateOn_108 rfl (lv_at hl 2 rfl) ?_
                have hFc : ∀ q, va_A [] H.size q → A q := pu_free hS hA
                obtain ⟨q_76, hq_76⟩ := og (cq := cq) ta3.1 (oE_5 ta3.2)
                refine va_callq (va_runV (As := [.int 4, .int x1]) (rest := [.int x1, .int r_73]) ⟨hx, hb, hml, hown, hts⟩ (c_X5_inForce_c l dC dI H.size cq Z gI a3 ta3 4 (by decide) x1 v fa hLr) (cwV 2 hts gX1_stateOn_X5_inForce rfl rfl rfl (by decide +kernel) ⟨(Nat.le_of_ble_eq_true rfl), (Nat.le_of_ble_eq_true rfl)⟩) (pr_V (r := (RX5, TX5, 3)) hP hK hD q_76 5 rfl hq_76) rfl rfl hl.1 rfl (lv_room (Nat.le_of_ble_eq_true rfl)) dX1_stateOn_109 ⟨(Nat.le_of_ble_eq_true rfl), (Nat.le_of_ble_eq_true rfl)⟩) hS (fun q _ h => hFc q h) hFc (fun r_78 u t H locs ht hvm w_77 hB hz1 hk1 hS => ?_)
                have hP := pu_keep hP hk1
                clear hk1 hz1 hvm hB ht hFc
                obtain ⟨hk_79, hx_80⟩ := w_77
                obtain ⟨b_81, rfl, tb_81⟩ := hk_79
                refine W.eq (g2 := F0 m 112 ls [.ref b_81, .int x1, .int r_73]) rfl ?_
                have hpwb_81 : (oI Z b_81 2).toInt = wPr v fa x1.toInt := ifA_w hLr (by have q := hx_80; rw [show (4 : Int32).toInt = 4 from (by decide)] at q; exact Option.some.inj q)
                have hpbb_81 := wPr_b (d := x1.toInt) (rLw_wl hLr)
                obtain ⟨q_82, hq_82⟩ := og (cq := cq) tb_81.1 (oE_0 tb_81.2)
                refine va_get (D := (dC, dI)) (ci := 0) (v := .int (oI Z b_81 2)) (C := RX0) (T := TX0) (N := 5) hx hb hts in_wsX1_stateOn_X0 hown hK hP q_82 hq_82 rfl 2 (by decide) (hts (.fieldLink RX1 82 "ShipOffice$Act" "plainWorth" "I") iw_X1_stateOn_5) (fun _ h9 => h9) rfl dX1_stateOn_112 ?_
                refine lv_topi (fun x_83 ex_83 => ?_)
                have hx_83 : -1000000000 ≤ x_83.toInt ∧ x_83.toInt ≤ 1000000000 := iv_of ex_83 (by omega)
                have gx_83 : x_83.toInt = (oI Z b_81 2).toInt := iv_to ex_83
                clear ex_83
                refine lv_isub hx hb dX1_stateOn_115 ?_
                refine lv_topi (fun x_84 ex_84 => ?_)
                have hx_84 : x_84.toInt = x1.toInt - x_83.toInt := (iv_to ex_84).trans (sb_i rfl rfl (by omega) (by omega))
                clear ex_84
                refine lv_icmp_ge (tgt := 123) hx hb dX1_stateOn_116 (by decide) (fun c_85 => ?_) (fun c_85 => ?_)
                · have dc_85 := c_le (a := x_84.toInt) (b := r_73.toInt) rfl rfl c_85
                  refine lv_iconst (v := 1) hx hb dX1_stateOn_123 (by decide) ?_
                  exact W.iret (v := 1) hx hb hr (fun t ht hW => ⟨⟨1, (), rfl, ⟨(by decide), (by have rc : (1 : Int32).toInt = 1 := (by decide); have r_6n := hx_8; rw [navo] at r_6n; have r_68n := hx_70; rw [navo] at r_68n; have r_73n := hx_75; rw [navo] at r_73n; have hdd := ddI_e (v := v) (fa := fa) (a := (a : Int)) (x := (fa 21 a).toInt) (j := x1.toInt) (k := x2.toInt); have hdy := fun q => dyI_0 (v := v) (fa := fa) (x := a) (j := x1.toInt) (k := x2.toInt) q; (first | rw [if_pos (by omega)] at hdd | rw [if_neg (by omega)] at hdd); (try rw [hdy (by omega)] at hdd); clear hdy; have huk : ukO v fa (fa 21 a).toInt x1.toInt x2.toInt = 0 := (by unfold ukO; repeat (first | rw [if_pos (by omega)] | rw [if_neg (by omega)]); (try omega)); unfold stF; (first | (rw [if_neg (by omega)]; rw [if_neg (by omega)]; rw [if_neg (by omega)]; rw [if_neg (by omega)]; rw [if_neg (by omega)]; rw [if_neg (by omega)]; omega) | (repeat (first | rw [if_pos (by omega)] | rw [if_neg (by omega)]); omega)))⟩, trivial⟩, hS.F ht⟩) hS.2.2 dX1_stateOn_124
                · have dc_85 := c_nle (a := x_84.toInt) (b := r_73.toInt) rfl rfl c_85
                  refine lv_iconst (v := 2) hx hb dX1_stateOn_119 (by decide) ?_
                  refine lv_goto (tgt := 124) hx hb dX1_stateOn_120 (by decide) ?_
                  exact W.iret (v := 2) hx hb hr (fun t ht hW => ⟨⟨2, (), rfl, ⟨(by decide), (by have rc : (2 : Int32).toInt = 2 := (by decide); have r_6n := hx_8; rw [navo] at r_6n; have r_68n := hx_70; rw [navo] at r_68n; have r_73n := hx_75; rw [navo] at r_73n; have hdd := ddI_e (v := v) (fa := fa) (a := (a : Int)) (x := (fa 21 a).toInt) (j := x1.toInt) (k := x2.toInt); have hdy := fun q => dyI_0 (v := v) (fa := fa) (x := a) (j := x1.toInt) (k := x2.toInt) q; (first | rw [if_pos (by omega)] at hdd | rw [if_neg (by omega)] at hdd); (try rw [hdy (by omega)] at hdd); clear hdy; have huk : ukO v fa (fa 21 a).toInt x1.toInt x2.toInt = 1 := (by unfold ukO; repeat (first | rw [if_pos (by omega)] | rw [if_neg (by omega)]); (try omega)); unfold stF; (first | (rw [if_neg (by omega)]; rw [if_neg (by omega)]; rw [if_neg (by omega)]; rw [if_neg (by omega)]; rw [if_neg (by omega)]; rw [if_pos (by omega)]; omega) | (repeat (first | rw [if_pos (by omega)] | rw [if_neg (by omega)]); omega)))⟩, trivial⟩, hS.F ht⟩) hS.2.2 dX1_stateOn_124
              · have dc_71 := c_eq (a := r_68.toInt) (b := 0) rfl (by decide) c_71
                refine lv_iconst (v := 0) hx hb dX1_stateOn_94 (by decide) ?_
                exact W.iret (v := 0) hx hb hr (fun t ht hW => ⟨⟨0, (), rfl, ⟨(by decide), (by have rc : (0 : Int32).toInt = 0 := (by decide); have r_6n := hx_8; rw [navo] at r_6n; have r_68n := hx_70; rw [navo] at r_68n; have hdd := ddI_e (v := v) (fa := fa) (a := (a : Int)) (x := (fa 21 a).toInt) (j := x1.toInt) (k := x2.toInt); have hdy := fun q => dyI_0 (v := v) (fa := fa) (x := a) (j := x1.toInt) (k := x2.toInt) q; (first | rw [if_pos (by omega)] at hdd | rw [if_neg (by omega)] at hdd); (try rw [hdy (by omega)] at hdd); clear hdy; unfold stF; (first | (rw [if_neg (by omega)]; rw [if_neg (by omega)]; rw [if_neg (by omega)]; rw [if_neg (by omega)]; rw [if_pos (by omega)]; omega) | (repeat (first | rw [if_pos (by omega)] | rw [if_neg (by omega)]); omega)))⟩, trivial⟩, hS.F ht⟩) hS.2.2 dX1_stateOn_95
            · refine W.eq (g2 := F0 m 65 ls [.ref b_66]) rfl ?_
              have tb_66 : oty Z b_66 3 := hk_64 b_66 rfl
              obtain ⟨hwb_66, ⟨hwab_66, hwbb_66, hwcb_66⟩, hwdb_66⟩ := lmR_s hx_65
              refine lv_astore (lv' := [(4, .ref b_66), (0, .ref o), (1, .int x1), (2, .int x2), (3, .ref a3)]) hx hb dX1_stateOn_65 hl (by decide) rfl (fun ls hl => ?_)
              refine lv_aload hx hb dX1_stateOn_67 (lv_at hl 0 rfl) ?_
              refine lv_ifnull hx hb dX1_stateOn_69 ?_
              refine lv_aload hx hb dX1_stateOn_72 (lv_at hl 0 rfl) ?_
              obtain ⟨q_86, hq_86⟩ := og (cq := cq) tb_66.1 (oE_3 tb_66.2)
              refine va_get (D := (dC, dI)) (ci := 3) (v := .int (oI Z b_66 0)) (C := RX3) (T := TX3) (N := 6) hx hb hts in_wsX1_stateOn_X3 hown hK hP q_86 hq_86 rfl 0 (by decide) (hts (.fieldLink RX1 64 "ShipOffice$Happening" "kind" "I") iw_X1_stateOn_6) (fun _ h9 => h9) rfl dX1_stateOn_74 ?_
              refine lv_topi (fun x_87 ex_87 => ?_)
              have gx_87 : x_87.toInt = (oI Z b_66 0).toInt := iv_to ex_87
              clear ex_87
              refine lv_if_ne (tgt := 82) hx hb dX1_stateOn_77 (by decide) (fun c_88 => ?_) (fun c_88 => ?_)
              · have dc_88 := c_ne (a := x_87.toInt) (b := 0) rfl (by decide) c_88
                refine lv_aload_n hx hb dX1_stateOn_82 rfl (lv_at hl 1 rfl) ?_
                refine va_get (D := (dC, dI)) (ci := 1) (v := .ref avo) (C := RX1) (T := TX1) (N := 18) hx hb hts in_wsX1_stateOn_X1 hown hK hP q_1 hq_1 rfl 1 (by decide) (hts (.fieldLink RX1 33 "ShipOffice$Agreement" "voyage" "LShipOffice$Voyage;") iw_X1_stateOn_2) (fun _ h9 => h9) (o_rd fv3o) dX1_stateOn_83 ?_
                refine lv_iload_n hx hb dX1_stateOn_86 rfl (lv_at hl 2 rfl) ?_
                refine lv_iload_n hx hb dX1_stateOn_87 rfl (lv_at hl 3 rfl) ?_
                have hFc : ∀ q, va_A [] H.size q → A q := pu_free hS hA
                refine va_calli (va_runV (As := [.int x1, .int x2]) (rest := []) ⟨hx, hb, hml, hown, hts⟩ (c_X9_sailedBy_c l dC dI H.size cq Z gI avo tavo x1 x2 h0 th v fa hR ((fa 21 a).toNatClampNeg) lavo eavo (by omega)) (cwV 2 hts gX1_stateOn_X9_sailedBy rfl rfl rfl (by decide +kernel) ⟨(Nat.le_of_ble_eq_true rfl), (Nat.le_of_ble_eq_true rfl)⟩) (pr_V (r := (RX9, TX9, 10)) hP hK hD q_4 9 rfl hq_4) rfl rfl hl.1 rfl (lv_room (Nat.le_of_ble_eq_true rfl)) dX1_stateOn_88 ⟨(Nat.le_of_ble_eq_true rfl), (Nat.le_of_ble_eq_true rfl)⟩) hS (fun q _ h => hFc q h) hFc (fun r_90 u t H locs ht hvm w_89 hB hz1 hk1 hS => ?_)
                have hP := pu_keep hP hk1
                clear hk1 hz1 hvm hB ht hFc
                obtain ⟨hb_91, hx_92⟩ := w_89
                refine lv_if_ne (tgt := 96) hx hb dX1_stateOn_91 (by decide) (fun c_93 => ?_) (fun c_93 => ?_)
                · have dc_93 := c_ne (a := r_90.toInt) (b := 0) rfl (by decide) c_93
                  refine lv_aload_n hx hb dX1_stateOn_96 rfl (lv_at hl 1 rfl) ?_
                  refine va_get (D := (dC, dI)) (ci := 1) (v := .ref avo) (C := RX1) (T := TX1) (N := 18) hx hb hts in_wsX1_stateOn_X1 hown hK hP q_1 hq_1 rfl 1 (by decide) (hts (.fieldLink RX1 33 "ShipOffice$Agreement" "voyage" "LShipOffice$Voyage;") iw_X1_stateOn_2) (fun _ h9 => h9) (o_rd fv3o) dX1_stateOn_97 ?_
                  refine lv_iload_n hx hb dX1_stateOn_100 rfl (lv_at hl 2 rfl) ?_
                  refine lv_iload_n hx hb dX1_stateOn_101 rfl (lv_at hl 3 rfl) ?_
                  have hFc : ∀ q, va_A [] H.size q → A q := pu_free hS hA
                  refine va_calli (va_runV (As := [.int x1, .int x2]) (rest := []) ⟨hx, hb, hml, hown, hts⟩ (c_X9_lastHeard_c l dC dI H.size cq Z gI avo tavo x1 x2 h0 th v fa hR ((fa 21 a).toNatClampNeg) lavo eavo (by omega)) (cwV 2 hts gX1_stateOn_X9_lastHeard rfl rfl rfl (by decide +kernel) ⟨(Nat.le_of_ble_eq_true rfl), (Nat.le_of_ble_eq_true rfl)⟩) (pr_V (r := (RX9, TX9, 10)) hP hK hD q_4 9 rfl hq_4) rfl rfl hl.1 rfl (lv_room (Nat.le_of_ble_eq_true rfl)) dX1_stateOn_102 ⟨(Nat.le_of_ble_eq_true rfl), (Nat.le_of_ble_eq_true rfl)⟩) hS (fun q _ h => hFc q h) hFc (fun r_95 u t H locs ht hvm w_94 hB hz1 hk1 hS => ?_)
                  have hP := pu_keep hP hk1
                  clear hk1 hz1 hvm hB ht hFc
                  obtain ⟨hb_96, hx_97⟩ := w_94
                  refine lv_iload_n hx hb dX1_stateOn_105 rfl (lv_at hl 2 rfl) ?_
                  refine lv_aload_n hx hb dX1_stateOn_106 rfl (lv_at hl 4 rfl) ?_
                  refine lv_iconst (v := 4) hx hb dX1_stateOn_107 (by decide) ?_
                  refine lv_iload_n hx hb dX1_stateOn_108 rfl (lv_at hl 2 rfl) ?_
                  have hFc : ∀ q, va_A [] H.size q → A q := pu_free hS hA
                  obtain ⟨q_98, hq_98⟩ := og (cq := cq) ta3.1 (oE_5 ta3.2)
                  refine va_callq (va_runV (As := [.int 4, .int x1]) (rest := [.int x1, .int r_95]) ⟨hx, hb, hml, hown, hts⟩ (c_X5_inForce_c l dC dI H.size cq Z gI a3 ta3 4 (by decide) x1 v fa hLr) (cwV 2 hts gX1_stateOn_X5_inForce rfl rfl rfl (by decide +kernel) ⟨(Nat.le_of_ble_eq_true rfl), (Nat.le_of_ble_eq_true rfl)⟩) (pr_V (r := (RX5, TX5, 3)) hP hK hD q_98 5 rfl hq_98) rfl rfl hl.1 rfl (lv_room (Nat.le_of_ble_eq_true rfl)) dX1_stateOn_109 ⟨(Nat.le_of_ble_eq_true rfl), (Nat.le_of_ble_eq_true rfl)⟩) hS (fun q _ h => hFc q h) hFc (fun r_100 u t H locs ht hvm w_99 hB hz1 hk1 hS => ?_)
                  have hP := pu_keep hP hk1
                  clear hk1 hz1 hvm hB ht hFc
                  obtain ⟨hk_101, hx_102⟩ := w_99
                  obtain ⟨b_103, rfl, tb_103⟩ := hk_101
                  refine W.eq (g2 := F0 m 112 ls [.ref b_103, .int x1, .int r_95]) rfl ?_
                  have hpwb_103 : (oI Z b_103 2).toInt = wPr v fa x1.toInt := ifA_w hLr (by have q := hx_102; rw [show (4 : Int32).toInt = 4 from (by decide)] at q; exact Option.some.inj q)
                  have hpbb_103 := wPr_b (d := x1.toInt) (rLw_wl hLr)
                  obtain ⟨q_104, hq_104⟩ := og (cq := cq) tb_103.1 (oE_0 tb_103.2)
                  refine va_get (D := (dC, dI)) (ci := 0) (v := .int (oI Z b_103 2)) (C := RX0) (T := TX0) (N := 5) hx hb hts in_wsX1_stateOn_X0 hown hK hP q_104 hq_104 rfl 2 (by decide) (hts (.fieldLink RX1 82 "ShipOffice$Act" "plainWorth" "I") iw_X1_stateOn_5) (fun _ h9 => h9) rfl dX1_stateOn_112 ?_
                  refine lv_topi (fun x_105 ex_105 => ?_)
                  have hx_105 : -1000000000 ≤ x_105.toInt ∧ x_105.toInt ≤ 1000000000 := iv_of ex_105 (by omega)
                  have gx_105 : x_105.toInt = (oI Z b_103 2).toInt := iv_to ex_105
                  clear ex_105
                  refine lv_isub hx hb dX1_stateOn_115 ?_
                  refine lv_topi (fun x_106 ex_106 => ?_)
                  have hx_106 : x_106.toInt = x1.toInt - x_105.toInt := (iv_to ex_106).trans (sb_i rfl rfl (by omega) (by omega))
                  clear ex_106
                  refine lv_icmp_ge (tgt := 123) hx hb dX1_stateOn_116 (by decide) (fun c_107 => ?_) (fun c_107 => ?_)
                  · have dc_107 := c_le (a := x_106.toInt) (b := r_95.toInt) rfl rfl c_107
                    refine lv_iconst (v := 1) hx hb dX1_stateOn_123 (by decide) ?_
                    exact W.iret (v := 1) hx hb hr (fun t ht hW => ⟨⟨1, (), rfl, ⟨(by decide), (by have rc : (1 : Int32).toInt = 1 := (by decide); have r_6n := hx_8; rw [navo] at r_6n; have r_90n := hx_92; rw [navo] at r_90n; have r_95n := hx_97; rw [navo] at r_95n; have hdd := ddI_e (v := v) (fa := fa) (a := (a : Int)) (x := (fa 21 a).toInt) (j := x1.toInt) (k := x2.toInt); have hdy := fun q => dyI_0 (v := v) (fa := fa) (x := a) (j := x1.toInt) (k := x2.toInt) q; (first | rw [if_pos (by omega)] at hdd | rw [if_neg (by omega)] at hdd); (try rw [hdy (by omega)] at hdd); clear hdy; have huk : ukO v fa (fa 21 a).toInt x1.toInt x2.toInt = 0 := (by unfold ukO; repeat (first | rw [if_pos (by omega)] | rw [if_neg (by omega)]); (try omega)); unfold stF; (first | (rw [if_neg (by omega)]; rw [if_neg (by omega)]; rw [if_neg (by omega)]; rw [if_neg (by omega)]; rw [if_neg (by omega)]; rw [if_neg (by omega)]; omega) | (repeat (first | rw [if_pos (by omega)] | rw [if_neg (by omega)]); omega)))⟩, trivial⟩, hS.F ht⟩) hS.2.2 dX1_stateOn_124
                  · have dc_107 := c_nle (a := x_106.toInt) (b := r_95.toInt) rfl rfl c_107
                    refine lv_iconst (v := 2) hx hb dX1_stateOn_119 (by decide) ?_
                    refine lv_goto (tgt := 124) hx hb dX1_stateOn_120 (by decide) ?_
                    exact W.iret (v := 2) hx hb hr (fun t ht hW => ⟨⟨2, (), rfl, ⟨(by decide), (by have rc : (2 : Int32).toInt = 2 := (by decide); have r_6n := hx_8; rw [navo] at r_6n; have r_90n := hx_92; rw [navo] at r_90n; have r_95n := hx_97; rw [navo] at r_95n; have hdd := ddI_e (v := v) (fa := fa) (a := (a : Int)) (x := (fa 21 a).toInt) (j := x1.toInt) (k := x2.toInt); have hdy := fun q => dyI_0 (v := v) (fa := fa) (x := a) (j := x1.toInt) (k := x2.toInt) q; (first | rw [if_pos (by omega)] at hdd | rw [if_neg (by omega)] at hdd); (try rw [hdy (by omega)] at hdd); clear hdy; have huk : ukO v fa (fa 21 a).toInt x1.toInt x2.toInt = 1 := (by unfold ukO; repeat (first | rw [if_pos (by omega)] | rw [if_neg (by omega)]); (try omega)); unfold stF; (first | (rw [if_neg (by omega)]; rw [if_neg (by omega)]; rw [if_neg (by omega)]; rw [if_neg (by omega)]; rw [if_neg (by omega)]; rw [if_pos (by omega)]; omega) | (repeat (first | rw [if_pos (by omega)] | rw [if_neg (by omega)]); omega)))⟩, trivial⟩, hS.F ht⟩) hS.2.2 dX1_stateOn_124
                · have dc_93 := c_eq (a := r_90.toInt) (b := 0) rfl (by decide) c_93
                  refine lv_iconst (v := 0) hx hb dX1_stateOn_94 (by decide) ?_
                  exact W.iret (v := 0) hx hb hr (fun t ht hW => ⟨⟨0, (), rfl, ⟨(by decide), (by have rc : (0 : Int32).toInt = 0 := (by decide); have r_6n := hx_8; rw [navo] at r_6n; have r_90n := hx_92; rw [navo] at r_90n; have hdd := ddI_e (v := v) (fa := fa) (a := (a : Int)) (x := (fa 21 a).toInt) (j := x1.toInt) (k := x2.toInt); have hdy := fun q => dyI_0 (v := v) (fa := fa) (x := a) (j := x1.toInt) (k := x2.toInt) q; (first | rw [if_pos (by omega)] at hdd | rw [if_neg (by omega)] at hdd); (try rw [hdy (by omega)] at hdd); clear hdy; unfold stF; (first | (rw [if_neg (by omega)]; rw [if_neg (by omega)]; rw [if_neg (by omega)]; rw [if_neg (by omega)]; rw [if_pos (by omega)]; omega) | (repeat (first | rw [if_pos (by omega)] | rw [if_neg (by omega)]); omega)))⟩, trivial⟩, hS.F ht⟩) hS.2.2 dX1_stateOn_95
              · have dc_88 := c_eq (a := x_87.toInt) (b := 0) rfl (by decide) c_88
                refine lv_iconst (v := 3) hx hb dX1_stateOn_80 (by decide) ?_
                exact W.iret (v := 3) hx hb hr (fun t ht hW => ⟨⟨3, (), rfl, ⟨(by decide), (by have rc : (3 : Int32).toInt = 3 := (by decide); have r_6n := hx_8; rw [navo] at r_6n; have hdd := ddI_e (v := v) (fa := fa) (a := (a : Int)) (x := (fa 21 a).toInt) (j := x1.toInt) (k := x2.toInt); have hdy := fun q => dyI_0 (v := v) (fa := fa) (x := a) (j := x1.toInt) (k := x2.toInt) q; (first | rw [if_pos (by omega)] at hdd | rw [if_neg (by omega)] at hdd); (try rw [hdy (by omega)] at hdd); clear hdy; unfold stF; (first | (rw [if_neg (by omega)]; rw [if_neg (by omega)]; rw [if_neg (by omega)]; rw [if_pos (by omega)]; omega) | (repeat (first | rw [if_pos (by omega)] | rw [if_neg (by omega)]); omega)))⟩, trivial⟩, hS.F ht⟩) hS.2.2 dX1_stateOn_81
          · have dc_61 := c_nlt (a := x2.toInt) (b := x_60.toInt) rfl rfl c_61
            refine lv_iconst (v := 5) hx hb dX1_stateOn_57 (by decide) ?_
            exact W.iret (v := 5) hx hb hr (fun t ht hW => ⟨⟨5, (), rfl, ⟨(by decide), (by have rc : (5 : Int32).toInt = 5 := (by decide); have r_6n := hx_8; rw [navo] at r_6n; have hdd := ddI_e (v := v) (fa := fa) (a := (a : Int)) (x := (fa 21 a).toInt) (j := x1.toInt) (k := x2.toInt); have hdy := fun q => dyI_0 (v := v) (fa := fa) (x := a) (j := x1.toInt) (k := x2.toInt) q; (first | rw [if_pos (by omega)] at hdd | rw [if_neg (by omega)] at hdd); (try rw [hdy (by omega)] at hdd); clear hdy; unfold stF; (first | (rw [if_neg (by omega)]; rw [if_neg (by omega)]; rw [if_pos (by omega)]; omega) | (repeat (first | rw [if_pos (by omega)] | rw [if_neg (by omega)]); omega)))⟩, trivial⟩, hS.F ht⟩) hS.2.2 dX1_stateOn_58
      · have dc_11 := c_ne (a := x_10.toInt) (b := 0) rfl (by decide) c_11
        refine lv_aload_n hx hb dX1_stateOn_30 rfl (lv_at hl 0 rfl) ?_
        refine lv_iload_n hx hb dX1_stateOn_31 rfl (lv_at hl 1 rfl) ?_
        refine lv_iload_n hx hb dX1_stateOn_32 rfl (lv_at hl 2 rfl) ?_
        have hFc : ∀ q, va_A [] H.size q → A q := pu_free hS hA
        refine va_calli (va_runV (As := [.int x1, .int x2]) (rest := []) ⟨hx, hb, hml, hown, hts⟩ (c_X1_diedBy_c l dC dI H.size cq Z gI o to x1 x2 h0 th v fa hR a ha ea) (cwV 2 hts gX1_stateOn_X1_diedBy rfl rfl rfl (by decide +kernel) ⟨(Nat.le_of_ble_eq_true rfl), (Nat.le_of_ble_eq_true rfl)⟩) (pr_V (r := (RX1, TX1, 18)) hP hK hD q_1 1 rfl hq_1) rfl rfl hl.1 rfl (lv_room (Nat.le_of_ble_eq_true rfl)) dX1_stateOn_33 ⟨(Nat.le_of_ble_eq_true rfl), (Nat.le_of_ble_eq_true rfl)⟩) hS (fun q _ h => hFc q h) hFc (fun r_109 u t H locs ht hvm w_108 hB hz1 hk1 hS => ?_)
        have hP := pu_keep hP hk1
        clear hk1 hz1 hvm hB ht hFc
        obtain ⟨hb_110, hx_111⟩ := w_108
        refine lv_if_eq (tgt := 41) hx hb dX1_stateOn_36 (by decide) (fun c_112 => ?_) (fun c_112 => ?_)
        · have dc_112 := c_eq (a := r_109.toInt) (b := 0) rfl (by decide) c_112
          refine lv_aload_n hx hb dX1_stateOn_41 rfl (lv_at hl 0 rfl) ?_
          refine va_get (D := (dC, dI)) (ci := 1) (v := .int (oI Z o 6)) (C := RX1) (T := TX1) (N := 18) hx hb hts in_wsX1_stateOn_X1 hown hK hP q_1 hq_1 rfl 6 (by decide) (hts (.fieldLink RX1 10 "ShipOffice$Agreement" "offDay" "I") iw_X1_stateOn_4) (fun _ h9 => h9) rfl dX1_stateOn_42 ?_
          refine lv_topi (fun x_113 ex_113 => ?_)
          have gx_113 : x_113.toInt = (oI Z o 6).toInt := iv_to ex_113
          clear ex_113
          refine lv_iload_n hx hb dX1_stateOn_45 rfl (lv_at hl 1 rfl) ?_
          refine lv_icmp_gt (tgt := 59) hx hb dX1_stateOn_46 (by decide) (fun c_114 => ?_) (fun c_114 => ?_)
          · have dc_114 := c_lt (a := x1.toInt) (b := x_113.toInt) rfl rfl c_114
            refine lv_aload_n hx hb dX1_stateOn_59 rfl (lv_at hl 0 rfl) ?_
            refine lv_iload_n hx hb dX1_stateOn_60 rfl (lv_at hl 1 rfl) ?_
            refine lv_iload_n hx hb dX1_stateOn_61 rfl (lv_at hl 2 rfl) ?_
            have hFc : ∀ q, va_A [] H.size q → A q := pu_free hS hA
            refine va_callq (va_runV (As := [.int x1, .int x2]) (rest := []) ⟨hx, hb, hml, hown, hts⟩ (c_X1_lastMove_c l dC dI H.size cq Z gI o to x1 x2 h0 th v fa hR a ha ea) (cwV 2 hts gX1_stateOn_X1_lastMove rfl rfl rfl (by decide +kernel) ⟨(Nat.le_of_ble_eq_true rfl), (Nat.le_of_ble_eq_true rfl)⟩) (pr_V (r := (RX1, TX1, 18)) hP hK hD q_1 1 rfl hq_1) rfl rfl hl.1 rfl (lv_room (Nat.le_of_ble_eq_true rfl)) dX1_stateOn_62 ⟨(Nat.le_of_ble_eq_true rfl), (Nat.le_of_ble_eq_true rfl)⟩) hS (fun q _ h => hFc q h) hFc (fun r_116 u t H locs ht hvm w_115 hB hz1 hk1 hS => ?_)
            have hP := pu_keep hP hk1
            clear hk1 hz1 hvm hB ht hFc
            obtain ⟨hk_117, hx_118⟩ := w_115
            rcases r_116 with _ | b_119
            · refine W.eq (g2 := F0 m 65 ls [.null]) rfl ?_
              have hwr_116 := lmR_n hx_118
              refine lv_astoreN (lv' := [(4, .null), (0, .ref o), (1, .int x1), (2, .int x2), (3, .ref a3)]) hx hb dX1_stateOn_65 hl (by decide) rfl (fun ls hl => ?_)
              refine lv_aloadN hx hb dX1_stateOn_67 (lv_at hl 0 rfl) ?_
              refine lv_ifnullN (tgt := 82) hx hb dX1_stateOn_69 (by decide) ?_
              refine lv_aload_n hx hb dX1_stateOn_82 rfl (lv_at hl 1 rfl) ?_
              refine va_get (D := (dC, dI)) (ci := 1) (v := .ref avo) (C := RX1) (T := TX1) (N := 18) hx hb hts in_wsX1_stateOn_X1 hown hK hP q_1 hq_1 rfl 1 (by decide) (hts (.fieldLink RX1 33 "ShipOffice$Agreement" "voyage" "LShipOffice$Voyage;") iw_X1_stateOn_2) (fun _ h9 => h9) (o_rd fv3o) dX1_stateOn_83 ?_
              refine lv_iload_n hx hb dX1_stateOn_86 rfl (lv_at hl 2 rfl) ?_
              refine lv_iload_n hx hb dX1_stateOn_87 rfl (lv_at hl 3 rfl) ?_
              have hFc : ∀ q, va_A [] H.size q → A q := pu_free hS hA
              refine va_calli (va_runV (As := [.int x1, .int x2]) (rest := []) ⟨hx, hb, hml, hown, hts⟩ (c_X9_sailedBy_c l dC dI H.size cq Z gI avo tavo x1 x2 h0 th v fa hR ((fa 21 a).toNatClampNeg) lavo eavo (by omega)) (cwV 2 hts gX1_stateOn_X9_sailedBy rfl rfl rfl (by decide +kernel) ⟨(Nat.le_of_ble_eq_true rfl), (Nat.le_of_ble_eq_true rfl)⟩) (pr_V (r := (RX9, TX9, 10)) hP hK hD q_4 9 rfl hq_4) rfl rfl hl.1 rfl (lv_room (Nat.le_of_ble_eq_true rfl)) dX1_stateOn_88 ⟨(Nat.le_of_ble_eq_true rfl), (Nat.le_of_ble_eq_true rfl)⟩) hS (fun q _ h => hFc q h) hFc (fun r_121 u t H locs ht hvm w_120 hB hz1 hk1 hS => ?_)
              have hP := pu_keep hP hk1
              clear hk1 hz1 hvm hB ht hFc
              obtain ⟨hb_122, hx_123⟩ := w_120
              refine lv_if_ne (tgt := 96) hx hb dX1_stateOn_91 (by decide) (fun c_124 => ?_) (fun c_124 => ?_)
              · have dc_124 := c_ne (a := r_121.toInt) (b := 0) rfl (by decide) c_124
                refine lv_aload_n hx hb dX1_stateOn_96 rfl (lv_at hl 1 rfl) ?_
                refine va_get (D := (dC, dI)) (ci := 1) (v := .ref avo) (C := RX1) (T := TX1) (N := 18) hx hb hts in_wsX1_stateOn_X1 hown hK hP q_1 hq_1 rfl 1 (by decide) (hts (.fieldLink RX1 33 "ShipOffice$Agreement" "voyage" "LShipOffice$Voyage;") iw_X1_stateOn_2) (fun _ h9 => h9) (o_rd fv3o) dX1_stateOn_97 ?_
                refine lv_iload_n hx hb dX1_stateOn_100 rfl (lv_at hl 2 rfl) ?_
                refine lv_iload_n hx hb dX1_stateOn_101 rfl (lv_at hl 3 rfl) ?_
                have hFc : ∀ q, va_A [] H.size q → A q := pu_free hS hA
                refine va_calli (va_runV (As := [.int x1, .int x2]) (rest := []) ⟨hx, hb, hml, hown, hts⟩ (c_X9_lastHeard_c l dC dI H.size cq Z gI avo tavo x1 x2 h0 th v fa hR ((fa 21 a).toNatClampNeg) lavo eavo (by omega)) (cwV 2 hts gX1_stateOn_X9_lastHeard rfl rfl rfl (by decide +kernel) ⟨(Nat.le_of_ble_eq_true rfl), (Nat.le_of_ble_eq_true rfl)⟩) (pr_V (r := (RX9, TX9, 10)) hP hK hD q_4 9 rfl hq_4) rfl rfl hl.1 rfl (lv_room (Nat.le_of_ble_eq_true rfl)) dX1_stateOn_102 ⟨(Nat.le_of_ble_eq_true rfl), (Nat.le_of_ble_eq_true rfl)⟩) hS (fun q _ h => hFc q h) hFc (fun r_126 u t H locs ht hvm w_125 hB hz1 hk1 hS => ?_)
                have hP := pu_keep hP hk1
                clear hk1 hz1 hvm hB ht hFc
                obtain ⟨hb_127, hx_128⟩ := w_125
                refine lv_iload_n hx hb dX1_stateOn_105 rfl (lv_at hl 2 rfl) ?_
                refine lv_aload_n hx hb dX1_stateOn_106 rfl (lv_at hl 4 rfl) ?_
                refine lv_iconst (v := 4) hx hb dX1_stateOn_107 (by decide) ?_
                refine lv_iload_n hx hb dX1_stateOn_108 rfl (lv_at hl 2 rfl) ?_
                have hFc : ∀ q, va_A [] H.size q → A q := pu_free hS hA
                obtain ⟨q_129, hq_129⟩ := og (cq := cq) ta3.1 (oE_5 ta3.2)
                refine va_callq (va_runV (As := [.int 4, .int x1]) (rest := [.int x1, .int r_126]) ⟨hx, hb, hml, hown, hts⟩ (c_X5_inForce_c l dC dI H.size cq Z gI a3 ta3 4 (by decide) x1 v fa hLr) (cwV 2 hts gX1_stateOn_X5_inForce rfl rfl rfl (by decide +kernel) ⟨(Nat.le_of_ble_eq_true rfl), (Nat.le_of_ble_eq_true rfl)⟩) (pr_V (r := (RX5, TX5, 3)) hP hK hD q_129 5 rfl hq_129) rfl rfl hl.1 rfl (lv_room (Nat.le_of_ble_eq_true rfl)) dX1_stateOn_109 ⟨(Nat.le_of_ble_eq_true rfl), (Nat.le_of_ble_eq_true rfl)⟩) hS (fun q _ h => hFc q h) hFc (fun r_131 u t H locs ht hvm w_130 hB hz1 hk1 hS => ?_)
                have hP := pu_keep hP hk1
                clear hk1 hz1 hvm hB ht hFc
                obtain ⟨hk_132, hx_133⟩ := w_130
                obtain ⟨b_134, rfl, tb_134⟩ := hk_132
                refine W.eq (g2 := F0 m 112 ls [.ref b_134, .int x1, .int r_126]) rfl ?_
                have hpwb_134 : (oI Z b_134 2).toInt = wPr v fa x1.toInt := ifA_w hLr (by have q := hx_133; rw [show (4 : Int32).toInt = 4 from (by decide)] at q; exact Option.some.inj q)
                have hpbb_134 := wPr_b (d := x1.toInt) (rLw_wl hLr)
                obtain ⟨q_135, hq_135⟩ := og (cq := cq) tb_134.1 (oE_0 tb_134.2)
                refine va_get (D := (dC, dI)) (ci := 0) (v := .int (oI Z b_134 2)) (C := RX0) (T := TX0) (N := 5) hx hb hts in_wsX1_stateOn_X0 hown hK hP q_135 hq_135 rfl 2 (by decide) (hts (.fieldLink RX1 82 "ShipOffice$Act" "plainWorth" "I") iw_X1_stateOn_5) (fun _ h9 => h9) rfl dX1_stateOn_112 ?_
                refine lv_topi (fun x_136 ex_136 => ?_)
                have hx_136 : -1000000000 ≤ x_136.toInt ∧ x_136.toInt ≤ 1000000000 := iv_of ex_136 (by omega)
                have gx_136 : x_136.toInt = (oI Z b_134 2).toInt := iv_to ex_136
                clear ex_136
                refine lv_isub hx hb dX1_stateOn_115 ?_
                refine lv_topi (fun x_137 ex_137 => ?_)
                have hx_137 : x_137.toInt = x1.toInt - x_136.toInt := (iv_to ex_137).trans (sb_i rfl rfl (by omega) (by omega))
                clear ex_137
                refine lv_icmp_ge (tgt := 123) hx hb dX1_stateOn_116 (by decide) (fun c_138 => ?_) (fun c_138 => ?_)
                · have dc_138 := c_le (a := x_137.toInt) (b := r_126.toInt) rfl rfl c_138
                  refine lv_iconst (v := 1) hx hb dX1_stateOn_123 (by decide) ?_
                  exact W.iret (v := 1) hx hb hr (fun t ht hW => ⟨⟨1, (), rfl, ⟨(by decide), (by have rc : (1 : Int32).toInt = 1 := (by decide); have r_6n := hx_8; rw [navo] at r_6n; have r_121n := hx_123; rw [navo] at r_121n; have r_126n := hx_128; rw [navo] at r_126n; have hdd := ddI_e (v := v) (fa := fa) (a := (a : Int)) (x := (fa 21 a).toInt) (j := x1.toInt) (k := x2.toInt); (first | rw [if_pos (by omega)] at hdd | rw [if_neg (by omega)] at hdd); have huk : ukO v fa (fa 21 a).toInt x1.toInt x2.toInt = 0 := (by unfold ukO; repeat (first | rw [if_pos (by omega)] | rw [if_neg (by omega)]); (try omega)); unfold stF; (first | (rw [if_neg (by omega)]; rw [if_neg (by omega)]; rw [if_neg (by omega)]; rw [if_neg (by omega)]; rw [if_neg (by omega)]; rw [if_neg (by omega)]; omega) | (repeat (first | rw [if_pos (by omega)] | rw [if_neg (by omega)]); omega)))⟩, trivial⟩, hS.F ht⟩) hS.2.2 dX1_stateOn_124
                · have dc_138 := c_nle (a := x_137.toInt) (b := r_126.toInt) rfl rfl c_138
                  refine lv_iconst (v := 2) hx hb dX1_stateOn_119 (by decide) ?_
                  refine lv_goto (tgt := 124) hx hb dX1_stateOn_120 (by decide) ?_
                  exact W.iret (v := 2) hx hb hr (fun t ht hW => ⟨⟨2, (), rfl, ⟨(by decide), (by have rc : (2 : Int32).toInt = 2 := (by decide); have r_6n := hx_8; rw [navo] at r_6n; have r_121n := hx_123; rw [navo] at r_121n; have r_126n := hx_128; rw [navo] at r_126n; have hdd := ddI_e (v := v) (fa := fa) (a := (a : Int)) (x := (fa 21 a).toInt) (j := x1.toInt) (k := x2.toInt); (first | rw [if_pos (by omega)] at hdd | rw [if_neg (by omega)] at hdd); have huk : ukO v fa (fa 21 a).toInt x1.toInt x2.toInt = 1 := (by unfold ukO; repeat (first | rw [if_pos (by omega)] | rw [if_neg (by omega)]); (try omega)); unfold stF; (first | (rw [if_neg (by omega)]; rw [if_neg (by omega)]; rw [if_neg (by omega)]; rw [if_neg (by omega)]; rw [if_neg (by omega)]; rw [if_pos (by omega)]; omega) | (repeat (first | rw [if_pos (by omega)] | rw [if_neg (by omega)]); omega)))⟩, trivial⟩, hS.F ht⟩) hS.2.2 dX1_stateOn_124
              · have dc_124 := c_eq (a := r_121.toInt) (b := 0) rfl (by decide) c_124
                refine lv_iconst (v := 0) hx hb dX1_stateOn_94 (by decide) ?_
                exact W.iret (v := 0) hx hb hr (fun t ht hW => ⟨⟨0, (), rfl, ⟨(by decide), (by have rc : (0 : Int32).toInt = 0 := (by decide); have r_6n := hx_8; rw [navo] at r_6n; have r_121n := hx_123; rw [navo] at r_121n; have hdd := ddI_e (v := v) (fa := fa) (a := (a : Int)) (x := (fa 21 a).toInt) (j := x1.toInt) (k := x2.toInt); (first | rw [if_pos (by omega)] at hdd | rw [if_neg (by omega)] at hdd); unfold stF; (first | (rw [if_neg (by omega)]; rw [if_neg (by omega)]; rw [if_neg (by omega)]; rw [if_neg (by omega)]; rw [if_pos (by omega)]; omega) | (repeat (first | rw [if_pos (by omega)] | rw [if_neg (by omega)]); omega)))⟩, trivial⟩, hS.F ht⟩) hS.2.2 dX1_stateOn_95
            · refine W.eq (g2 := F0 m 65 ls [.ref b_119]) rfl ?_
              have tb_119 : oty Z b_119 3 := hk_117 b_119 rfl
              obtain ⟨hwb_119, ⟨hwab_119, hwbb_119, hwcb_119⟩, hwdb_119⟩ := lmR_s hx_118
              refine lv_astore (lv' := [(4, .ref b_119), (0, .ref o), (1, .int x1), (2, .int x2), (3, .ref a3)]) hx hb dX1_stateOn_65 hl (by decide) rfl (fun ls hl => ?_)
              refine lv_aload hx hb dX1_stateOn_67 (lv_at hl 0 rfl) ?_
              refine lv_ifnull hx hb dX1_stateOn_69 ?_
              refine lv_aload hx hb dX1_stateOn_72 (lv_at hl 0 rfl) ?_
              obtain ⟨q_139, hq_139⟩ := og (cq := cq) tb_119.1 (oE_3 tb_119.2)
              refine va_get (D := (dC, dI)) (ci := 3) (v := .int (oI Z b_119 0)) (C := RX3) (T := TX3) (N := 6) hx hb hts in_wsX1_stateOn_X3 hown hK hP q_139 hq_139 rfl 0 (by decide) (hts (.fieldLink RX1 64 "ShipOffice$Happening" "kind" "I") iw_X1_stateOn_6) (fun _ h9 => h9) rfl dX1_stateOn_74 ?_
              refine lv_topi (fun x_140 ex_140 => ?_)
              have gx_140 : x_140.toInt = (oI Z b_119 0).toInt := iv_to ex_140
              clear ex_140
              refine lv_if_ne (tgt := 82) hx hb dX1_stateOn_77 (by decide) (fun c_141 => ?_) (fun c_141 => ?_)
              · have dc_141 := c_ne (a := x_140.toInt) (b := 0) rfl (by decide) c_141
                refine lv_aload_n hx hb dX1_stateOn_82 rfl (lv_at hl 1 rfl) ?_
                refine va_get (D := (dC, dI)) (ci := 1) (v := .ref avo) (C := RX1) (T := TX1) (N := 18) hx hb hts in_wsX1_stateOn_X1 hown hK hP q_1 hq_1 rfl 1 (by decide) (hts (.fieldLink RX1 33 "ShipOffice$Agreement" "voyage" "LShipOffice$Voyage;") iw_X1_stateOn_2) (fun _ h9 => h9) (o_rd fv3o) dX1_stateOn_83 ?_
                refine lv_iload_n hx hb dX1_stateOn_86 rfl (lv_at hl 2 rfl) ?_
                refine lv_iload_n hx hb dX1_stateOn_87 rfl (lv_at hl 3 rfl) ?_
                have hFc : ∀ q, va_A [] H.size q → A q := pu_free hS hA
                refine va_calli (va_runV (As := [.int x1, .int x2]) (rest := []) ⟨hx, hb, hml, hown, hts⟩ (c_X9_sailedBy_c l dC dI H.size cq Z gI avo tavo x1 x2 h0 th v fa hR ((fa 21 a).toNatClampNeg) lavo eavo (by omega)) (cwV 2 hts gX1_stateOn_X9_sailedBy rfl rfl rfl (by decide +kernel) ⟨(Nat.le_of_ble_eq_true rfl), (Nat.le_of_ble_eq_true rfl)⟩) (pr_V (r := (RX9, TX9, 10)) hP hK hD q_4 9 rfl hq_4) rfl rfl hl.1 rfl (lv_room (Nat.le_of_ble_eq_true rfl)) dX1_stateOn_88 ⟨(Nat.le_of_ble_eq_true rfl), (Nat.le_of_ble_eq_true rfl)⟩) hS (fun q _ h => hFc q h) hFc (fun r_143 u t H locs ht hvm w_142 hB hz1 hk1 hS => ?_)
                have hP := pu_keep hP hk1
                clear hk1 hz1 hvm hB ht hFc
                obtain ⟨hb_144, hx_145⟩ := w_142
                refine lv_if_ne (tgt := 96) hx hb dX1_stateOn_91 (by decide) (fun c_146 => ?_) (fun c_146 => ?_)
                · have dc_146 := c_ne (a := r_143.toInt) (b := 0) rfl (by decide) c_146
                  refine lv_aload_n hx hb dX1_stateOn_96 rfl (lv_at hl 1 rfl) ?_
                  refine va_get (D := (dC, dI)) (ci := 1) (v := .ref avo) (C := RX1) (T := TX1) (N := 18) hx hb hts in_wsX1_stateOn_X1 hown hK hP q_1 hq_1 rfl 1 (by decide) (hts (.fieldLink RX1 33 "ShipOffice$Agreement" "voyage" "LShipOffice$Voyage;") iw_X1_stateOn_2) (fun _ h9 => h9) (o_rd fv3o) dX1_stateOn_97 ?_
                  refine lv_iload_n hx hb dX1_stateOn_100 rfl (lv_at hl 2 rfl) ?_
                  refine lv_iload_n hx hb dX1_stateOn_101 rfl (lv_at hl 3 rfl) ?_
                  have hFc : ∀ q, va_A [] H.size q → A q := pu_free hS hA
                  refine va_calli (va_runV (As := [.int x1, .int x2]) (rest := []) ⟨hx, hb, hml, hown, hts⟩ (c_X9_lastHeard_c l dC dI H.size cq Z gI avo tavo x1 x2 h0 th v fa hR ((fa 21 a).toNatClampNeg) lavo eavo (by omega)) (cwV 2 hts gX1_stateOn_X9_lastHeard rfl rfl rfl (by decide +kernel) ⟨(Nat.le_of_ble_eq_true rfl), (Nat.le_of_ble_eq_true rfl)⟩) (pr_V (r := (RX9, TX9, 10)) hP hK hD q_4 9 rfl hq_4) rfl rfl hl.1 rfl (lv_room (Nat.le_of_ble_eq_true rfl)) dX1_stateOn_102 ⟨(Nat.le_of_ble_eq_true rfl), (Nat.le_of_ble_eq_true rfl)⟩) hS (fun q _ h => hFc q h) hFc (fun r_148 u t H locs ht hvm w_147 hB hz1 hk1 hS => ?_)
                  have hP := pu_keep hP hk1
                  clear hk1 hz1 hvm hB ht hFc
                  obtain ⟨hb_149, hx_150⟩ := w_147
                  refine lv_iload_n hx hb dX1_stateOn_105 rfl (lv_at hl 2 rfl) ?_
                  refine lv_aload_n hx hb dX1_stateOn_106 rfl (lv_at hl 4 rfl) ?_
                  refine lv_iconst (v := 4) hx hb dX1_stateOn_107 (by decide) ?_
                  refine lv_iload_n hx hb dX1_stateOn_108 rfl (lv_at hl 2 rfl) ?_
                  have hFc : ∀ q, va_A [] H.size q → A q := pu_free hS hA
                  obtain ⟨q_151, hq_151⟩ := og (cq := cq) ta3.1 (oE_5 ta3.2)
                  refine va_callq (va_runV (As := [.int 4, .int x1]) (rest := [.int x1, .int r_148]) ⟨hx, hb, hml, hown, hts⟩ (c_X5_inForce_c l dC dI H.size cq Z gI a3 ta3 4 (by decide) x1 v fa hLr) (cwV 2 hts gX1_stateOn_X5_inForce rfl rfl rfl (by decide +kernel) ⟨(Nat.le_of_ble_eq_true rfl), (Nat.le_of_ble_eq_true rfl)⟩) (pr_V (r := (RX5, TX5, 3)) hP hK hD q_151 5 rfl hq_151) rfl rfl hl.1 rfl (lv_room (Nat.le_of_ble_eq_true rfl)) dX1_stateOn_109 ⟨(Nat.le_of_ble_eq_true rfl), (Nat.le_of_ble_eq_true rfl)⟩) hS (fun q _ h => hFc q h) hFc (fun r_153 u t H locs ht hvm w_152 hB hz1 hk1 hS => ?_)
                  have hP := pu_keep hP hk1
                  clear hk1 hz1 hvm hB ht hFc
                  obtain ⟨hk_154, hx_155⟩ := w_152
                  obtain ⟨b_156, rfl, tb_156⟩ := hk_154
                  refine W.eq (g2 := F0 m 112 ls [.ref b_156, .int x1, .int r_148]) rfl ?_
                  have hpwb_156 : (oI Z b_156 2).toInt = wPr v fa x1.toInt := ifA_w hLr (by have q := hx_155; rw [show (4 : Int32).toInt = 4 from (by decide)] at q; exact Option.some.inj q)
                  have hpbb_156 := wPr_b (d := x1.toInt) (rLw_wl hLr)
                  obtain ⟨q_157, hq_157⟩ := og (cq := cq) tb_156.1 (oE_0 tb_156.2)
                  refine va_get (D := (dC, dI)) (ci := 0) (v := .int (oI Z b_156 2)) (C := RX0) (T := TX0) (N := 5) hx hb hts in_wsX1_stateOn_X0 hown hK hP q_157 hq_157 rfl 2 (by decide) (hts (.fieldLink RX1 82 "ShipOffice$Act" "plainWorth" "I") iw_X1_stateOn_5) (fun _ h9 => h9) rfl dX1_stateOn_112 ?_
                  refine lv_topi (fun x_158 ex_158 => ?_)
                  have hx_158 : -1000000000 ≤ x_158.toInt ∧ x_158.toInt ≤ 1000000000 := iv_of ex_158 (by omega)
                  have gx_158 : x_158.toInt = (oI Z b_156 2).toInt := iv_to ex_158
                  clear ex_158
                  refine lv_isub hx hb dX1_stateOn_115 ?_
                  refine lv_topi (fun x_159 ex_159 => ?_)
                  have hx_159 : x_159.toInt = x1.toInt - x_158.toInt := (iv_to ex_159).trans (sb_i rfl rfl (by omega) (by omega))
                  clear ex_159
                  refine lv_icmp_ge (tgt := 123) hx hb dX1_stateOn_116 (by decide) (fun c_160 => ?_) (fun c_160 => ?_)
                  · have dc_160 := c_le (a := x_159.toInt) (b := r_148.toInt) rfl rfl c_160
                    refine lv_iconst (v := 1) hx hb dX1_stateOn_123 (by decide) ?_
                    exact W.iret (v := 1) hx hb hr (fun t ht hW => ⟨⟨1, (), rfl, ⟨(by decide), (by have rc : (1 : Int32).toInt = 1 := (by decide); have r_6n := hx_8; rw [navo] at r_6n; have r_143n := hx_145; rw [navo] at r_143n; have r_148n := hx_150; rw [navo] at r_148n; have hdd := ddI_e (v := v) (fa := fa) (a := (a : Int)) (x := (fa 21 a).toInt) (j := x1.toInt) (k := x2.toInt); (first | rw [if_pos (by omega)] at hdd | rw [if_neg (by omega)] at hdd); have huk : ukO v fa (fa 21 a).toInt x1.toInt x2.toInt = 0 := (by unfold ukO; repeat (first | rw [if_pos (by omega)] | rw [if_neg (by omega)]); (try omega)); unfold stF; (first | (rw [if_neg (by omega)]; rw [if_neg (by omega)]; rw [if_neg (by omega)]; rw [if_neg (by omega)]; rw [if_neg (by omega)]; rw [if_neg (by omega)]; omega) | (repeat (first | rw [if_pos (by omega)] | rw [if_neg (by omega)]); omega)))⟩, trivial⟩, hS.F ht⟩) hS.2.2 dX1_stateOn_124
                  · have dc_160 := c_nle (a := x_159.toInt) (b := r_148.toInt) rfl rfl c_160
                    refine lv_iconst (v := 2) hx hb dX1_stateOn_119 (by decide) ?_
                    refine lv_goto (tgt := 124) hx hb dX1_stateOn_120 (by decide) ?_
                    exact W.iret (v := 2) hx hb hr (fun t ht hW => ⟨⟨2, (), rfl, ⟨(by decide), (by have rc : (2 : Int32).toInt = 2 := (by decide); have r_6n := hx_8; rw [navo] at r_6n; have r_143n := hx_145; rw [navo] at r_143n; have r_148n := hx_150; rw [navo] at r_148n; have hdd := ddI_e (v := v) (fa := fa) (a := (a : Int)) (x := (fa 21 a).toInt) (j := x1.toInt) (k := x2.toInt); (first | rw [if_pos (by omega)] at hdd | rw [if_neg (by omega)] at hdd); have huk : ukO v fa (fa 21 a).toInt x1.toInt x2.toInt = 1 := (by unfold ukO; repeat (first | rw [if_pos (by omega)] | rw [if_neg (by omega)]); (try omega)); unfold stF; (first | (rw [if_neg (by omega)]; rw [if_neg (by omega)]; rw [if_neg (by omega)]; rw [if_neg (by omega)]; rw [if_neg (by omega)]; rw [if_pos (by omega)]; omega) | (repeat (first | rw [if_pos (by omega)] | rw [if_neg (by omega)]); omega)))⟩, trivial⟩, hS.F ht⟩) hS.2.2 dX1_stateOn_124
                · have dc_146 := c_eq (a := r_143.toInt) (b := 0) rfl (by decide) c_146
                  refine lv_iconst (v := 0) hx hb dX1_stateOn_94 (by decide) ?_
                  exact W.iret (v := 0) hx hb hr (fun t ht hW => ⟨⟨0, (), rfl, ⟨(by decide), (by have rc : (0 : Int32).toInt = 0 := (by decide); have r_6n := hx_8; rw [navo] at r_6n; have r_143n := hx_145; rw [navo] at r_143n; have hdd := ddI_e (v := v) (fa := fa) (a := (a : Int)) (x := (fa 21 a).toInt) (j := x1.toInt) (k := x2.toInt); (first | rw [if_pos (by omega)] at hdd | rw [if_neg (by omega)] at hdd); unfold stF; (first | (rw [if_neg (by omega)]; rw [if_neg (by omega)]; rw [if_neg (by omega)]; rw [if_neg (by omega)]; rw [if_pos (by omega)]; omega) | (repeat (first | rw [if_pos (by omega)] | rw [if_neg (by omega)]); omega)))⟩, trivial⟩, hS.F ht⟩) hS.2.2 dX1_stateOn_95
              · have dc_141 := c_eq (a := x_140.toInt) (b := 0) rfl (by decide) c_141
                refine lv_iconst (v := 3) hx hb dX1_stateOn_80 (by decide) ?_
                exact W.iret (v := 3) hx hb hr (fun t ht hW => ⟨⟨3, (), rfl, ⟨(by decide), (by have rc : (3 : Int32).toInt = 3 := (by decide); have r_6n := hx_8; rw [navo] at r_6n; have hdd := ddI_e (v := v) (fa := fa) (a := (a : Int)) (x := (fa 21 a).toInt) (j := x1.toInt) (k := x2.toInt); (first | rw [if_pos (by omega)] at hdd | rw [if_neg (by omega)] at hdd); unfold stF; (first | (rw [if_neg (by omega)]; rw [if_neg (by omega)]; rw [if_neg (by omega)]; rw [if_pos (by omega)]; omega) | (repeat (first | rw [if_pos (by omega)] | rw [if_neg (by omega)]); omega)))⟩, trivial⟩, hS.F ht⟩) hS.2.2 dX1_stateOn_81
          · have dc_114 := c_nlt (a := x1.toInt) (b := x_113.toInt) rfl rfl c_114
            refine lv_aload_n hx hb dX1_stateOn_49 rfl (lv_at hl 0 rfl) ?_
            refine va_get (D := (dC, dI)) (ci := 1) (v := .int (oI Z o 6)) (C := RX1) (T := TX1) (N := 18) hx hb hts in_wsX1_stateOn_X1 hown hK hP q_1 hq_1 rfl 6 (by decide) (hts (.fieldLink RX1 10 "ShipOffice$Agreement" "offDay" "I") iw_X1_stateOn_4) (fun _ h9 => h9) rfl dX1_stateOn_50 ?_
            refine lv_topi (fun x_161 ex_161 => ?_)
            have gx_161 : x_161.toInt = (oI Z o 6).toInt := iv_to ex_161
            clear ex_161
            refine lv_iload_n hx hb dX1_stateOn_53 rfl (lv_at hl 2 rfl) ?_
            refine lv_icmp_gt (tgt := 59) hx hb dX1_stateOn_54 (by decide) (fun c_162 => ?_) (fun c_162 => ?_)
            · have dc_162 := c_lt (a := x2.toInt) (b := x_161.toInt) rfl rfl c_162
              refine lv_aload_n hx hb dX1_stateOn_59 rfl (lv_at hl 0 rfl) ?_
              refine lv_iload_n hx hb dX1_stateOn_60 rfl (lv_at hl 1 rfl) ?_
              refine lv_iload_n hx hb dX1_stateOn_61 rfl (lv_at hl 2 rfl) ?_
              have hFc : ∀ q, va_A [] H.size q → A q := pu_free hS hA
              refine va_callq (va_runV (As := [.int x1, .int x2]) (rest := []) ⟨hx, hb, hml, hown, hts⟩ (c_X1_lastMove_c l dC dI H.size cq Z gI o to x1 x2 h0 th v fa hR a ha ea) (cwV 2 hts gX1_stateOn_X1_lastMove rfl rfl rfl (by decide +kernel) ⟨(Nat.le_of_ble_eq_true rfl), (Nat.le_of_ble_eq_true rfl)⟩) (pr_V (r := (RX1, TX1, 18)) hP hK hD q_1 1 rfl hq_1) rfl rfl hl.1 rfl (lv_room (Nat.le_of_ble_eq_true rfl)) dX1_stateOn_62 ⟨(Nat.le_of_ble_eq_true rfl), (Nat.le_of_ble_eq_true rfl)⟩) hS (fun q _ h => hFc q h) hFc (fun r_164 u t H locs ht hvm w_163 hB hz1 hk1 hS => ?_)
              have hP := pu_keep hP hk1
              clear hk1 hz1 hvm hB ht hFc
              obtain ⟨hk_165, hx_166⟩ := w_163
              rcases r_164 with _ | b_167
              · refine W.eq (g2 := F0 m 65 ls [.null]) rfl ?_
                have hwr_164 := lmR_n hx_166
                refine lv_astoreN (lv' := [(4, .null), (0, .ref o), (1, .int x1), (2, .int x2), (3, .ref a3)]) hx hb dX1_stateOn_65 hl (by decide) rfl (fun ls hl => ?_)
                refine lv_aloadN hx hb dX1_stateOn_67 (lv_at hl 0 rfl) ?_
                refine lv_ifnullN (tgt := 82) hx hb dX1_stateOn_69 (by decide) ?_
                refine lv_aload_n hx hb dX1_stateOn_82 rfl (lv_at hl 1 rfl) ?_
                refine va_get (D := (dC, dI)) (ci := 1) (v := .ref avo) (C := RX1) (T := TX1) (N := 18) hx hb hts in_wsX1_stateOn_X1 hown hK hP q_1 hq_1 rfl 1 (by decide) (hts (.fieldLink RX1 33 "ShipOffice$Agreement" "voyage" "LShipOffice$Voyage;") iw_X1_stateOn_2) (fun _ h9 => h9) (o_rd fv3o) dX1_stateOn_83 ?_
                refine lv_iload_n hx hb dX1_stateOn_86 rfl (lv_at hl 2 rfl) ?_
                refine lv_iload_n hx hb dX1_stateOn_87 rfl (lv_at hl 3 rfl) ?_
                have hFc : ∀ q, va_A [] H.size q → A q := pu_free hS hA
                refine va_calli (va_runV (As := [.int x1, .int x2]) (rest := []) ⟨hx, hb, hml, hown, hts⟩ (c_X9_sailedBy_c l dC dI H.size cq Z gI avo tavo x1 x2 h0 th v fa hR ((fa 21 a).toNatClampNeg) lavo eavo (by omega)) (cwV 2 hts gX1_stateOn_X9_sailedBy rfl rfl rfl (by decide +kernel) ⟨(Nat.le_of_ble_eq_true rfl), (Nat.le_of_ble_eq_true rfl)⟩) (pr_V (r := (RX9, TX9, 10)) hP hK hD q_4 9 rfl hq_4) rfl rfl hl.1 rfl (lv_room (Nat.le_of_ble_eq_true rfl)) dX1_stateOn_88 ⟨(Nat.le_of_ble_eq_true rfl), (Nat.le_of_ble_eq_true rfl)⟩) hS (fun q _ h => hFc q h) hFc (fun r_169 u t H locs ht hvm w_168 hB hz1 hk1 hS => ?_)
                have hP := pu_keep hP hk1
                clear hk1 hz1 hvm hB ht hFc
                obtain ⟨hb_170, hx_171⟩ := w_168
                refine lv_if_ne (tgt := 96) hx hb dX1_stateOn_91 (by decide) (fun c_172 => ?_) (fun c_172 => ?_)
                · have dc_172 := c_ne (a := r_169.toInt) (b := 0) rfl (by decide) c_172
                  refine lv_aload_n hx hb dX1_stateOn_96 rfl (lv_at hl 1 rfl) ?_
                  refine va_get (D := (dC, dI)) (ci := 1) (v := .ref avo) (C := RX1) (T := TX1) (N := 18) hx hb hts in_wsX1_stateOn_X1 hown hK hP q_1 hq_1 rfl 1 (by decide) (hts (.fieldLink RX1 33 "ShipOffice$Agreement" "voyage" "LShipOffice$Voyage;") iw_X1_stateOn_2) (fun _ h9 => h9) (o_rd fv3o) dX1_stateOn_97 ?_
                  refine lv_iload_n hx hb dX1_stateOn_100 rfl (lv_at hl 2 rfl) ?_
                  refine lv_iload_n hx hb dX1_stateOn_101 rfl (lv_at hl 3 rfl) ?_
                  have hFc : ∀ q, va_A [] H.size q → A q := pu_free hS hA
                  refine va_calli (va_runV (As := [.int x1, .int x2]) (rest := []) ⟨hx, hb, hml, hown, hts⟩ (c_X9_lastHeard_c l dC dI H.size cq Z gI avo tavo x1 x2 h0 th v fa hR ((fa 21 a).toNatClampNeg) lavo eavo (by omega)) (cwV 2 hts gX1_stateOn_X9_lastHeard rfl rfl rfl (by decide +kernel) ⟨(Nat.le_of_ble_eq_true rfl), (Nat.le_of_ble_eq_true rfl)⟩) (pr_V (r := (RX9, TX9, 10)) hP hK hD q_4 9 rfl hq_4) rfl rfl hl.1 rfl (lv_room (Nat.le_of_ble_eq_true rfl)) dX1_stateOn_102 ⟨(Nat.le_of_ble_eq_true rfl), (Nat.le_of_ble_eq_true rfl)⟩) hS (fun q _ h => hFc q h) hFc (fun r_174 u t H locs ht hvm w_173 hB hz1 hk1 hS => ?_)
                  have hP := pu_keep hP hk1
                  clear hk1 hz1 hvm hB ht hFc
                  obtain ⟨hb_175, hx_176⟩ := w_173
                  refine lv_iload_n hx hb dX1_stateOn_105 rfl (lv_at hl 2 rfl) ?_
                  refine lv_aload_n hx hb dX1_stateOn_106 rfl (lv_at hl 4 rfl) ?_
                  refine lv_iconst (v := 4) hx hb dX1_stateOn_107 (by decide) ?_
                  refine lv_iload_n hx hb dX1_stateOn_108 rfl (lv_at hl 2 rfl) ?_
                  have hFc : ∀ q, va_A [] H.size q → A q := pu_free hS hA
                  obtain ⟨q_177, hq_177⟩ := og (cq := cq) ta3.1 (oE_5 ta3.2)
                  refine va_callq (va_runV (As := [.int 4, .int x1]) (rest := [.int x1, .int r_174]) ⟨hx, hb, hml, hown, hts⟩ (c_X5_inForce_c l dC dI H.size cq Z gI a3 ta3 4 (by decide) x1 v fa hLr) (cwV 2 hts gX1_stateOn_X5_inForce rfl rfl rfl (by decide +kernel) ⟨(Nat.le_of_ble_eq_true rfl), (Nat.le_of_ble_eq_true rfl)⟩) (pr_V (r := (RX5, TX5, 3)) hP hK hD q_177 5 rfl hq_177) rfl rfl hl.1 rfl (lv_room (Nat.le_of_ble_eq_true rfl)) dX1_stateOn_109 ⟨(Nat.le_of_ble_eq_true rfl), (Nat.le_of_ble_eq_true rfl)⟩) hS (fun q _ h => hFc q h) hFc (fun r_179 u t H locs ht hvm w_178 hB hz1 hk1 hS => ?_)
                  have hP := pu_keep hP hk1
                  clear hk1 hz1 hvm hB ht hFc
                  obtain ⟨hk_180, hx_181⟩ := w_178
                  obtain ⟨b_182, rfl, tb_182⟩ := hk_180
                  refine W.eq (g2 := F0 m 112 ls [.ref b_182, .int x1, .int r_174]) rfl ?_
                  have hpwb_182 : (oI Z b_182 2).toInt = wPr v fa x1.toInt := ifA_w hLr (by have q := hx_181; rw [show (4 : Int32).toInt = 4 from (by decide)] at q; exact Option.some.inj q)
                  have hpbb_182 := wPr_b (d := x1.toInt) (rLw_wl hLr)
                  obtain ⟨q_183, hq_183⟩ := og (cq := cq) tb_182.1 (oE_0 tb_182.2)
                  refine va_get (D := (dC, dI)) (ci := 0) (v := .int (oI Z b_182 2)) (C := RX0) (T := TX0) (N := 5) hx hb hts in_wsX1_stateOn_X0 hown hK hP q_183 hq_183 rfl 2 (by decide) (hts (.fieldLink RX1 82 "ShipOffice$Act" "plainWorth" "I") iw_X1_stateOn_5) (fun _ h9 => h9) rfl dX1_stateOn_112 ?_
                  refine lv_topi (fun x_184 ex_184 => ?_)
                  have hx_184 : -1000000000 ≤ x_184.toInt ∧ x_184.toInt ≤ 1000000000 := iv_of ex_184 (by omega)
                  have gx_184 : x_184.toInt = (oI Z b_182 2).toInt := iv_to ex_184
                  clear ex_184
                  refine lv_isub hx hb dX1_stateOn_115 ?_
                  refine lv_topi (fun x_185 ex_185 => ?_)
                  have hx_185 : x_185.toInt = x1.toInt - x_184.toInt := (iv_to ex_185).trans (sb_i rfl rfl (by omega) (by omega))
                  clear ex_185
                  refine lv_icmp_ge (tgt := 123) hx hb dX1_stateOn_116 (by decide) (fun c_186 => ?_) (fun c_186 => ?_)
                  · have dc_186 := c_le (a := x_185.toInt) (b := r_174.toInt) rfl rfl c_186
                    refine lv_iconst (v := 1) hx hb dX1_stateOn_123 (by decide) ?_
                    exact W.iret (v := 1) hx hb hr (fun t ht hW => ⟨⟨1, (), rfl, ⟨(by decide), (by have rc : (1 : Int32).toInt = 1 := (by decide); have r_6n := hx_8; rw [navo] at r_6n; have r_169n := hx_171; rw [navo] at r_169n; have r_174n := hx_176; rw [navo] at r_174n; have hdd := ddI_e (v := v) (fa := fa) (a := (a : Int)) (x := (fa 21 a).toInt) (j := x1.toInt) (k := x2.toInt); (first | rw [if_pos (by omega)] at hdd | rw [if_neg (by omega)] at hdd); have huk : ukO v fa (fa 21 a).toInt x1.toInt x2.toInt = 0 := (by unfold ukO; repeat (first | rw [if_pos (by omega)] | rw [if_neg (by omega)]); (try omega)); unfold stF; (first | (rw [if_neg (by omega)]; rw [if_neg (by omega)]; rw [if_neg (by omega)]; rw [if_neg (by omega)]; rw [if_neg (by omega)]; rw [if_neg (by omega)]; omega) | (repeat (first | rw [if_pos (by omega)] | rw [if_neg (by omega)]); omega)))⟩, trivial⟩, hS.F ht⟩) hS.2.2 dX1_stateOn_124
                  · have dc_186 := c_nle (a := x_185.toInt) (b := r_174.toInt) rfl rfl c_186
                    refine lv_iconst (v := 2) hx hb dX1_stateOn_119 (by decide) ?_
                    refine lv_goto (tgt := 124) hx hb dX1_stateOn_120 (by decide) ?_
                    exact W.iret (v := 2) hx hb hr (fun t ht hW => ⟨⟨2, (), rfl, ⟨(by decide), (by have rc : (2 : Int32).toInt = 2 := (by decide); have r_6n := hx_8; rw [navo] at r_6n; have r_169n := hx_171; rw [navo] at r_169n; have r_174n := hx_176; rw [navo] at r_174n; have hdd := ddI_e (v := v) (fa := fa) (a := (a : Int)) (x := (fa 21 a).toInt) (j := x1.toInt) (k := x2.toInt); (first | rw [if_pos (by omega)] at hdd | rw [if_neg (by omega)] at hdd); have huk : ukO v fa (fa 21 a).toInt x1.toInt x2.toInt = 1 := (by unfold ukO; repeat (first | rw [if_pos (by omega)] | rw [if_neg (by omega)]); (try omega)); unfold stF; (first | (rw [if_neg (by omega)]; rw [if_neg (by omega)]; rw [if_neg (by omega)]; rw [if_neg (by omega)]; rw [if_neg (by omega)]; rw [if_pos (by omega)]; omega) | (repeat (first | rw [if_pos (by omega)] | rw [if_neg (by omega)]); omega)))⟩, trivial⟩, hS.F ht⟩) hS.2.2 dX1_stateOn_124
                · have dc_172 := c_eq (a := r_169.toInt) (b := 0) rfl (by decide) c_172
                  refine lv_iconst (v := 0) hx hb dX1_stateOn_94 (by decide) ?_
                  exact W.iret (v := 0) hx hb hr (fun t ht hW => ⟨⟨0, (), rfl, ⟨(by decide), (by have rc : (0 : Int32).toInt = 0 := (by decide); have r_6n := hx_8; rw [navo] at r_6n; have r_169n := hx_171; rw [navo] at r_169n; have hdd := ddI_e (v := v) (fa := fa) (a := (a : Int)) (x := (fa 21 a).toInt) (j := x1.toInt) (k := x2.toInt); (first | rw [if_pos (by omega)] at hdd | rw [if_neg (by omega)] at hdd); unfold stF; (first | (rw [if_neg (by omega)]; rw [if_neg (by omega)]; rw [if_neg (by omega)]; rw [if_neg (by omega)]; rw [if_pos (by omega)]; omega) | (repeat (first | rw [if_pos (by omega)] | rw [if_neg (by omega)]); omega)))⟩, trivial⟩, hS.F ht⟩) hS.2.2 dX1_stateOn_95
              · refine W.eq (g2 := F0 m 65 ls [.ref b_167]) rfl ?_
                have tb_167 : oty Z b_167 3 := hk_165 b_167 rfl
                obtain ⟨hwb_167, ⟨hwab_167, hwbb_167, hwcb_167⟩, hwdb_167⟩ := lmR_s hx_166
                refine lv_astore (lv' := [(4, .ref b_167), (0, .ref o), (1, .int x1), (2, .int x2), (3, .ref a3)]) hx hb dX1_stateOn_65 hl (by decide) rfl (fun ls hl => ?_)
                refine lv_aload hx hb dX1_stateOn_67 (lv_at hl 0 rfl) ?_
                refine lv_ifnull hx hb dX1_stateOn_69 ?_
                refine lv_aload hx hb dX1_stateOn_72 (lv_at hl 0 rfl) ?_
                obtain ⟨q_187, hq_187⟩ := og (cq := cq) tb_167.1 (oE_3 tb_167.2)
                refine va_get (D := (dC, dI)) (ci := 3) (v := .int (oI Z b_167 0)) (C := RX3) (T := TX3) (N := 6) hx hb hts in_wsX1_stateOn_X3 hown hK hP q_187 hq_187 rfl 0 (by decide) (hts (.fieldLink RX1 64 "ShipOffice$Happening" "kind" "I") iw_X1_stateOn_6) (fun _ h9 => h9) rfl dX1_stateOn_74 ?_
                refine lv_topi (fun x_188 ex_188 => ?_)
                have gx_188 : x_188.toInt = (oI Z b_167 0).toInt := iv_to ex_188
                clear ex_188
                refine lv_if_ne (tgt := 82) hx hb dX1_stateOn_77 (by decide) (fun c_189 => ?_) (fun c_189 => ?_)
                · have dc_189 := c_ne (a := x_188.toInt) (b := 0) rfl (by decide) c_189
                  refine lv_aload_n hx hb dX1_stateOn_82 rfl (lv_at hl 1 rfl) ?_
                  refine va_get (D := (dC, dI)) (ci := 1) (v := .ref avo) (C := RX1) (T := TX1) (N := 18) hx hb hts in_wsX1_stateOn_X1 hown hK hP q_1 hq_1 rfl 1 (by decide) (hts (.fieldLink RX1 33 "ShipOffice$Agreement" "voyage" "LShipOffice$Voyage;") iw_X1_stateOn_2) (fun _ h9 => h9) (o_rd fv3o) dX1_stateOn_83 ?_
                  refine lv_iload_n hx hb dX1_stateOn_86 rfl (lv_at hl 2 rfl) ?_
                  refine lv_iload_n hx hb dX1_stateOn_87 rfl (lv_at hl 3 rfl) ?_
                  have hFc : ∀ q, va_A [] H.size q → A q := pu_free hS hA
                  refine va_calli (va_runV (As := [.int x1, .int x2]) (rest := []) ⟨hx, hb, hml, hown, hts⟩ (c_X9_sailedBy_c l dC dI H.size cq Z gI avo tavo x1 x2 h0 th v fa hR ((fa 21 a).toNatClampNeg) lavo eavo (by omega)) (cwV 2 hts gX1_stateOn_X9_sailedBy rfl rfl rfl (by decide +kernel) ⟨(Nat.le_of_ble_eq_true rfl), (Nat.le_of_ble_eq_true rfl)⟩) (pr_V (r := (RX9, TX9, 10)) hP hK hD q_4 9 rfl hq_4) rfl rfl hl.1 rfl (lv_room (Nat.le_of_ble_eq_true rfl)) dX1_stateOn_88 ⟨(Nat.le_of_ble_eq_true rfl), (Nat.le_of_ble_eq_true rfl)⟩) hS (fun q _ h => hFc q h) hFc (fun r_191 u t H locs ht hvm w_190 hB hz1 hk1 hS => ?_)
                  have hP := pu_keep hP hk1
                  clear hk1 hz1 hvm hB ht hFc
                  obtain ⟨hb_192, hx_193⟩ := w_190
                  refine lv_if_ne (tgt := 96) hx hb dX1_stateOn_91 (by decide) (fun c_194 => ?_) (fun c_194 => ?_)
                  · have dc_194 := c_ne (a := r_191.toInt) (b := 0) rfl (by decide) c_194
                    refine lv_aload_n hx hb dX1_stateOn_96 rfl (lv_at hl 1 rfl) ?_
                    refine va_get (D := (dC, dI)) (ci := 1) (v := .ref avo) (C := RX1) (T := TX1) (N := 18) hx hb hts in_wsX1_stateOn_X1 hown hK hP q_1 hq_1 rfl 1 (by decide) (hts (.fieldLink RX1 33 "ShipOffice$Agreement" "voyage" "LShipOffice$Voyage;") iw_X1_stateOn_2) (fun _ h9 => h9) (o_rd fv3o) dX1_stateOn_97 ?_
                    refine lv_iload_n hx hb dX1_stateOn_100 rfl (lv_at hl 2 rfl) ?_
                    refine lv_iload_n hx hb dX1_stateOn_101 rfl (lv_at hl 3 rfl) ?_
                    have hFc : ∀ q, va_A [] H.size q → A q := pu_free hS hA
                    refine va_calli (va_runV (As := [.int x1, .int x2]) (rest := []) ⟨hx, hb, hml, hown, hts⟩ (c_X9_lastHeard_c l dC dI H.size cq Z gI avo tavo x1 x2 h0 th v fa hR ((fa 21 a).toNatClampNeg) lavo eavo (by omega)) (cwV 2 hts gX1_stateOn_X9_lastHeard rfl rfl rfl (by decide +kernel) ⟨(Nat.le_of_ble_eq_true rfl), (Nat.le_of_ble_eq_true rfl)⟩) (pr_V (r := (RX9, TX9, 10)) hP hK hD q_4 9 rfl hq_4) rfl rfl hl.1 rfl (lv_room (Nat.le_of_ble_eq_true rfl)) dX1_stateOn_102 ⟨(Nat.le_of_ble_eq_true rfl), (Nat.le_of_ble_eq_true rfl)⟩) hS (fun q _ h => hFc q h) hFc (fun r_196 u t H locs ht hvm w_195 hB hz1 hk1 hS => ?_)
                    have hP := pu_keep hP hk1
                    clear hk1 hz1 hvm hB ht hFc
                    obtain ⟨hb_197, hx_198⟩ := w_195
                    refine lv_iload_n hx hb dX1_stateOn_105 rfl (lv_at hl 2 rfl) ?_
                    refine lv_aload_n hx hb dX1_stateOn_106 rfl (lv_at hl 4 rfl) ?_
                    refine lv_iconst (v := 4) hx hb dX1_stateOn_107 (by decide) ?_
                    refine lv_iload_n hx hb dX1_stateOn_108 rfl (lv_at hl 2 rfl) ?_
                    have hFc : ∀ q, va_A [] H.size q → A q := pu_free hS hA
                    obtain ⟨q_199, hq_199⟩ := og (cq := cq) ta3.1 (oE_5 ta3.2)
                    refine va_callq (va_runV (As := [.int 4, .int x1]) (rest := [.int x1, .int r_196]) ⟨hx, hb, hml, hown, hts⟩ (c_X5_inForce_c l dC dI H.size cq Z gI a3 ta3 4 (by decide) x1 v fa hLr) (cwV 2 hts gX1_stateOn_X5_inForce rfl rfl rfl (by decide +kernel) ⟨(Nat.le_of_ble_eq_true rfl), (Nat.le_of_ble_eq_true rfl)⟩) (pr_V (r := (RX5, TX5, 3)) hP hK hD q_199 5 rfl hq_199) rfl rfl hl.1 rfl (lv_room (Nat.le_of_ble_eq_true rfl)) dX1_stateOn_109 ⟨(Nat.le_of_ble_eq_true rfl), (Nat.le_of_ble_eq_true rfl)⟩) hS (fun q _ h => hFc q h) hFc (fun r_201 u t H locs ht hvm w_200 hB hz1 hk1 hS => ?_)
                    have hP := pu_keep hP hk1
                    clear hk1 hz1 hvm hB ht hFc
                    obtain ⟨hk_202, hx_203⟩ := w_200
                    obtain ⟨b_204, rfl, tb_204⟩ := hk_202
                    refine W.eq (g2 := F0 m 112 ls [.ref b_204, .int x1, .int r_196]) rfl ?_
                    have hpwb_204 : (oI Z b_204 2).toInt = wPr v fa x1.toInt := ifA_w hLr (by have q := hx_203; rw [show (4 : Int32).toInt = 4 from (by decide)] at q; exact Option.some.inj q)
                    have hpbb_204 := wPr_b (d := x1.toInt) (rLw_wl hLr)
                    obtain ⟨q_205, hq_205⟩ := og (cq := cq) tb_204.1 (oE_0 tb_204.2)
                    refine va_get (D := (dC, dI)) (ci := 0) (v := .int (oI Z b_204 2)) (C := RX0) (T := TX0) (N := 5) hx hb hts in_wsX1_stateOn_X0 hown hK hP q_205 hq_205 rfl 2 (by decide) (hts (.fieldLink RX1 82 "ShipOffice$Act" "plainWorth" "I") iw_X1_stateOn_5) (fun _ h9 => h9) rfl dX1_stateOn_112 ?_
                    refine lv_topi (fun x_206 ex_206 => ?_)
                    have hx_206 : -1000000000 ≤ x_206.toInt ∧ x_206.toInt ≤ 1000000000 := iv_of ex_206 (by omega)
                    have gx_206 : x_206.toInt = (oI Z b_204 2).toInt := iv_to ex_206
                    clear ex_206
                    refine lv_isub hx hb dX1_stateOn_115 ?_
                    refine lv_topi (fun x_207 ex_207 => ?_)
                    have hx_207 : x_207.toInt = x1.toInt - x_206.toInt := (iv_to ex_207).trans (sb_i rfl rfl (by omega) (by omega))
                    clear ex_207
                    refine lv_icmp_ge (tgt := 123) hx hb dX1_stateOn_116 (by decide) (fun c_208 => ?_) (fun c_208 => ?_)
                    · have dc_208 := c_le (a := x_207.toInt) (b := r_196.toInt) rfl rfl c_208
                      refine lv_iconst (v := 1) hx hb dX1_stateOn_123 (by decide) ?_
                      exact W.iret (v := 1) hx hb hr (fun t ht hW => ⟨⟨1, (), rfl, ⟨(by decide), (by have rc : (1 : Int32).toInt = 1 := (by decide); have r_6n := hx_8; rw [navo] at r_6n; have r_191n := hx_193; rw [navo] at r_191n; have r_196n := hx_198; rw [navo] at r_196n; have hdd := ddI_e (v := v) (fa := fa) (a := (a : Int)) (x := (fa 21 a).toInt) (j := x1.toInt) (k := x2.toInt); (first | rw [if_pos (by omega)] at hdd | rw [if_neg (by omega)] at hdd); have huk : ukO v fa (fa 21 a).toInt x1.toInt x2.toInt = 0 := (by unfold ukO; repeat (first | rw [if_pos (by omega)] | rw [if_neg (by omega)]); (try omega)); unfold stF; (first | (rw [if_neg (by omega)]; rw [if_neg (by omega)]; rw [if_neg (by omega)]; rw [if_neg (by omega)]; rw [if_neg (by omega)]; rw [if_neg (by omega)]; omega) | (repeat (first | rw [if_pos (by omega)] | rw [if_neg (by omega)]); omega)))⟩, trivial⟩, hS.F ht⟩) hS.2.2 dX1_stateOn_124
                    · have dc_208 := c_nle (a := x_207.toInt) (b := r_196.toInt) rfl rfl c_208
                      refine lv_iconst (v := 2) hx hb dX1_stateOn_119 (by decide) ?_
                      refine lv_goto (tgt := 124) hx hb dX1_stateOn_120 (by decide) ?_
                      exact W.iret (v := 2) hx hb hr (fun t ht hW => ⟨⟨2, (), rfl, ⟨(by decide), (by have rc : (2 : Int32).toInt = 2 := (by decide); have r_6n := hx_8; rw [navo] at r_6n; have r_191n := hx_193; rw [navo] at r_191n; have r_196n := hx_198; rw [navo] at r_196n; have hdd := ddI_e (v := v) (fa := fa) (a := (a : Int)) (x := (fa 21 a).toInt) (j := x1.toInt) (k := x2.toInt); (first | rw [if_pos (by omega)] at hdd | rw [if_neg (by omega)] at hdd); have huk : ukO v fa (fa 21 a).toInt x1.toInt x2.toInt = 1 := (by unfold ukO; repeat (first | rw [if_pos (by omega)] | rw [if_neg (by omega)]); (try omega)); unfold stF; (first | (rw [if_neg (by omega)]; rw [if_neg (by omega)]; rw [if_neg (by omega)]; rw [if_neg (by omega)]; rw [if_neg (by omega)]; rw [if_pos (by omega)]; omega) | (repeat (first | rw [if_pos (by omega)] | rw [if_neg (by omega)]); omega)))⟩, trivial⟩, hS.F ht⟩) hS.2.2 dX1_stateOn_124
                  · have dc_194 := c_eq (a := r_191.toInt) (b := 0) rfl (by decide) c_194
                    refine lv_iconst (v := 0) hx hb dX1_stateOn_94 (by decide) ?_
                    exact W.iret (v := 0) hx hb hr (fun t ht hW => ⟨⟨0, (), rfl, ⟨(by decide), (by have rc : (0 : Int32).toInt = 0 := (by decide); have r_6n := hx_8; rw [navo] at r_6n; have r_191n := hx_193; rw [navo] at r_191n; have hdd := ddI_e (v := v) (fa := fa) (a := (a : Int)) (x := (fa 21 a).toInt) (j := x1.toInt) (k := x2.toInt); (first | rw [if_pos (by omega)] at hdd | rw [if_neg (by omega)] at hdd); unfold stF; (first | (rw [if_neg (by omega)]; rw [if_neg (by omega)]; rw [if_neg (by omega)]; rw [if_neg (by omega)]; rw [if_pos (by omega)]; omega) | (repeat (first | rw [if_pos (by omega)] | rw [if_neg (by omega)]); omega)))⟩, trivial⟩, hS.F ht⟩) hS.2.2 dX1_stateOn_95
                · have dc_189 := c_eq (a := x_188.toInt) (b := 0) rfl (by decide) c_189
                  refine lv_iconst (v := 3) hx hb dX1_stateOn_80 (by decide) ?_
                  exact W.iret (v := 3) hx hb hr (fun t ht hW => ⟨⟨3, (), rfl, ⟨(by decide), (by have rc : (3 : Int32).toInt = 3 := (by decide); have r_6n := hx_8; rw [navo] at r_6n; have hdd := ddI_e (v := v) (fa := fa) (a := (a : Int)) (x := (fa 21 a).toInt) (j := x1.toInt) (k := x2.toInt); (first | rw [if_pos (by omega)] at hdd | rw [if_neg (by omega)] at hdd); unfold stF; (first | (rw [if_neg (by omega)]; rw [if_neg (by omega)]; rw [if_neg (by omega)]; rw [if_pos (by omega)]; omega) | (repeat (first | rw [if_pos (by omega)] | rw [if_neg (by omega)]); omega)))⟩, trivial⟩, hS.F ht⟩) hS.2.2 dX1_stateOn_81
            · have dc_162 := c_nlt (a := x2.toInt) (b := x_161.toInt) rfl rfl c_162
              refine lv_iconst (v := 5) hx hb dX1_stateOn_57 (by decide) ?_
              exact W.iret (v := 5) hx hb hr (fun t ht hW => ⟨⟨5, (), rfl, ⟨(by decide), (by have rc : (5 : Int32).toInt = 5 := (by decide); have r_6n := hx_8; rw [navo] at r_6n; have hdd := ddI_e (v := v) (fa := fa) (a := (a : Int)) (x := (fa 21 a).toInt) (j := x1.toInt) (k := x2.toInt); (first | rw [if_pos (by omega)] at hdd | rw [if_neg (by omega)] at hdd); unfold stF; (first | (rw [if_neg (by omega)]; rw [if_neg (by omega)]; rw [if_pos (by omega)]; omega) | (repeat (first | rw [if_pos (by omega)] | rw [if_neg (by omega)]); omega)))⟩, trivial⟩, hS.F ht⟩) hS.2.2 dX1_stateOn_58
        · have dc_112 := c_ne (a := r_109.toInt) (b := 0) rfl (by decide) c_112
          refine lv_iconst (v := 4) hx hb dX1_stateOn_39 (by decide) ?_
          exact W.iret (v := 4) hx hb hr (fun t ht hW => ⟨⟨4, (), rfl, ⟨(by decide), (by have rc : (4 : Int32).toInt = 4 := (by decide); have r_6n := hx_8; rw [navo] at r_6n; have hdd := ddI_e (v := v) (fa := fa) (a := (a : Int)) (x := (fa 21 a).toInt) (j := x1.toInt) (k := x2.toInt); (first | rw [if_pos (by omega)] at hdd | rw [if_neg (by omega)] at hdd); unfold stF; (first | (rw [if_neg (by omega)]; rw [if_pos (by omega)]; omega) | (repeat (first | rw [if_pos (by omega)] | rw [if_neg (by omega)]); omega)))⟩, trivial⟩, hS.F ht⟩) hS.2.2 dX1_stateOn_40
  · have dc_3 := c_nle (a := x_2.toInt) (b := x1.toInt) rfl rfl c_3
    refine lv_bipush (v := (-9)) hx hb dX1_stateOn_8 (by decide) ?_
    exact W.iret (v := (-9)) hx hb hr (fun t ht hW => ⟨⟨(-9), (), rfl, ⟨(by decide), (by have rc : ((-9) : Int32).toInt = -9 := (by decide); unfold stF; (first | (rw [if_pos (by omega)]; omega) | (repeat (first | rw [if_pos (by omega)] | rw [if_neg (by omega)]); omega)))⟩, trivial⟩, hS.F ht⟩) hS.2.2 dX1_stateOn_10
set_option maxHeartbeats 4000000 in
set_option maxRecDepth 100000 in
theorem c_X10_menAboard_c (l : Launch) (dC : Nat → ClassId) (dI : Nat → Nat → Nat) (sz : Nat) (cq : Nat → ClassId) (Z : oS) (gI : oInv Z) (o : Nat) (to : oty Z o 10) (a1 : Nat) (ta1 : oty Z a1 9) (x2 : Int32) (hx2 : 0 ≤ x2.toInt ∧ x2.toInt ≤ 3000) (x3 : Int32) (hx3 : 0 ≤ x3.toInt ∧ x3.toInt ≤ 3000) (v : Nat → Int32) (fa : Nat → Nat → Int32) (hR : RC Z o v fa) (hjk : x2.toInt ≤ x3.toInt) (xv : Nat) (hxv : xv < (v 40).toNatClampNeg) (exv : a1 = voA Z o xv) : Met l yX10_menAboard wsX10_menAboard ({ frames := 2, cells := 0, slots := 0, locals := 49 }) (va_Pc [.ref o, .ref a1, .int x2, .int x3] (pcW (dC, dI) (oT cq) (oW cq Z) sz)) (va_Qi (fun (r : Int32) (u : Unit) => (0 ≤ r.toInt ∧ r.toInt ≤ 60) ∧ (r.toInt = abF v fa (xv : Int) x2.toInt x3.toInt)) (fun _ _ => True) (va_A [] sz)) 0 0 (va_A [] sz) := by
  refine Met.ofW (cc := cX10_menAboard) (maxL := 6) (ret := (some .int)) (by decide) rfl ?_
  intro p e s m args below meth c s₁ B hml hv
  obtain ⟨rfl, hsz, hP, hK, hD0⟩ := hv
  have hx := B.exec
  have hb := B.bytes
  have hr := B.returns
  have hts := atoms_spec (ws := wsX10_menAboard) B.pre
  have hown : s.vm.findClass RX10 = some m.cls := findClass_of_methodNamed B.named
  have hlocks := B.notSynchronized
  subst hsz
  have hD := hD0
  generalize hAe : va_A [] s.heap.size = A at ⊢
  have hA : ∀ q : Nat, s.heap.size ≤ q → A q := fun q h => by rw [← hAe]; exact Or.inr h
  have hS : va_S A s.heap s.heap [] := va_S.rf
  have hP : va_P (dC, dI) vwCl (oW cq Z) s.heap := hP
  have hl := lv_entry ([.ref o, .ref a1, .int x2, .int x3]) (n := 6) (Nat.le_of_ble_eq_true rfl)
  rw [lg_entry_eq]
  generalize (lg_sl ([.ref o, .ref a1, .int x2, .int x3]) ++ List.replicate (6 - (lg_sl ([.ref o, .ref a1, .int x2, .int x3])).length) Slot.unset).toArray = ls at hl ⊢
  have hl : lv_has ls 6 [(0, .ref o), (1, .ref a1), (2, .int x2), (3, .int x3)] := hl
  obtain ⟨fn0, fn1, fn2, fn3, fn4⟩ := RC.n hR
  have fb38 : 0 ≤ (v 38).toInt ∧ (v 38).toInt ≤ 3000 := RC.V hR 38
  have fb39 : 0 ≤ (v 39).toInt ∧ (v 39).toInt ≤ 40 := RC.V hR 39
  have fb40 : 0 ≤ (v 40).toInt ∧ (v 40).toInt ≤ 20 := RC.V hR 40
  have fb43 : 0 ≤ (v 43).toInt ∧ (v 43).toInt ≤ 60 := RC.V hR 43
  have fb41 : 0 ≤ (v 41).toInt ∧ (v 41).toInt ≤ 200 := RC.V hR 41
  have fVa1 := RC.vo hR hxv
  rw [← exv] at fVa1
  obtain ⟨fy0a1, fy1a1, fy2a1, fy3a1, fy4a1, fySa1, fyLa1, fyha1⟩ := fVa1
  have fBa1 : 0 ≤ (fa 7 xv).toInt ∧ (fa 7 xv).toInt ≤ 3000 := RC.A hR 7 _
  have fSa1 := onc_i fySa1
  have fLa1 := onc_i fyLa1
  obtain ⟨lw, hlw0⟩ := oInv.nn (i := 8) gI to rfl
  have tlw : oty Z lw 5 := oInv.rd gI to.2 hlw0 rfl rfl
  have hLr : rLw Z lw v fa := by have q := RC.l hR; rw [oQ_e hlw0] at q; exact q
  refine lv_iconst (v := 0) hx hb dX10_menAboard_0 (by decide) ?_
  refine lv_istore (lv' := [(4, .int 0), (0, .ref o), (1, .ref a1), (2, .int x2), (3, .int x3)]) hx hb dX10_menAboard_1 hl (by decide) rfl (fun ls hl => ?_)
  refine lv_iconst (v := 0) hx hb dX10_menAboard_3 (by decide) ?_
  refine lv_istore (lv' := [(5, .int 0), (4, .int 0), (0, .ref o), (1, .ref a1), (2, .int x2), (3, .int x3)]) hx hb dX10_menAboard_4 hl (by decide) rfl (fun ls hl => ?_)
  have cut_1 : ∀ (n : Nat) (y_2 : Int32) (y_3 : Int32) (H : Heap) (locs : List Loc) (ls : Array Slot), 60 - y_2.toInt ≤ (n : Int) → (0 ≤ y_2.toInt ∧ y_2.toInt ≤ 60) → (0 ≤ y_3.toInt ∧ y_3.toInt ≤ 60) → (y_3.toInt = smN (fun a => if (fa 21 a).toInt = (xv : Int) ∧ stF v fa a x2.toInt x3.toInt = 1 then 1 else 0) y_2.toNatClampNeg) → y_3.toInt ≤ y_2.toInt → y_2.toInt ≤ (v 43).toInt → va_P (dC, dI) vwCl (oW cq Z) H → va_S A s.heap H locs → lv_has ls 6 [(5, .int y_2), (4, .int y_3), (0, .ref o), (1, .ref a1), (2, .int x2), (3, .int x3)] → W p l e (headSpec wsX10_menAboard { frames := 2, cells := 0, slots := 0, locals := 49 }).room s m #[Value.ref o, Value.ref a1, Value.int x2, Value.int x3] below meth c H locs 0 0 (MQ below (va_Qi (fun (r : Int32) (u : Unit) => (0 ≤ r.toInt ∧ r.toInt ≤ 60) ∧ (r.toInt = abF v fa (xv : Int) x2.toInt x3.toInt)) (fun _ _ => True) A) #[Value.ref o, Value.ref a1, Value.int x2, Value.int x3] s 0 0 A) (F0 m 6 ls []) := by
    intro n
    induction n using Nat.strongRecOn with
    | ind n ih =>
      intro y_2 y_3 H locs ls hm hy_2 hy_3 hq0_cut_1 hq1_cut_1 hq2_cut_1 hP hS hl
      refine lv_iload hx hb dX10_menAboard_6 (lv_at hl 0 rfl) ?_
      refine lv_aload_n hx hb dX10_menAboard_8 rfl (lv_at hl 2 rfl) ?_
      obtain ⟨q_4, hq_4⟩ := og (cq := cq) to.1 (oE_10 to.2)
      refine va_get (D := (dC, dI)) (ci := 10) (v := .int (oI Z o 6)) (C := RX10) (T := TX10) (N := 16) hx hb hts in_wsX10_menAboard_X10 hown hK hP q_4 hq_4 rfl 6 (by decide) (hts (.fieldLink RX10 115 "ShipOffice" "agreementCount" "I") iw_X10_menAboard_1) (fun _ h9 => h9) rfl dX10_menAboard_9 ?_
      refine lv_topi (fun x_5 ex_5 => ?_)
      have hx_5 : 0 ≤ x_5.toInt ∧ x_5.toInt ≤ 60 := iv_of ex_5 (oInv.iv gI to.2 rfl rfl)
      have gx_5 : x_5.toInt = (oI Z o 6).toInt := iv_to ex_5
      clear ex_5
      refine lv_icmp_ge (tgt := 58) hx hb dX10_menAboard_12 (by decide) (fun c_6 => ?_) (fun c_6 => ?_)
      · have dc_6 := c_le (a := x_5.toInt) (b := y_2.toInt) rfl rfl c_6
        refine lv_iload hx hb dX10_menAboard_58 (lv_at hl 1 rfl) ?_
        exact W.iret (v := y_3) hx hb hr (fun t ht hW => ⟨⟨y_3, (), rfl, ⟨(by omega), (by unfold abF; rw [hq0_cut_1, show y_2.toNatClampNeg = (v 43).toNatClampNeg from (show y_2.toInt.toNat = (v 43).toInt.toNat by omega)])⟩, trivial⟩, hS.F ht⟩) hS.2.2 dX10_menAboard_60
      · have dc_6 := c_nle (a := x_5.toInt) (b := y_2.toInt) rfl rfl c_6
        refine lv_aload_n hx hb dX10_menAboard_15 rfl (lv_at hl 2 rfl) ?_
        obtain ⟨b_7, hb_7⟩ := oInv.nn (i := 5) gI to rfl
        refine va_get (D := (dC, dI)) (ci := 10) (v := .ref b_7) (C := RX10) (T := TX10) (N := 16) hx hb hts in_wsX10_menAboard_X10 hown hK hP q_4 hq_4 rfl 5 (by decide) (hts (.fieldLink RX10 23 "ShipOffice" "agreements" "[LShipOffice$Agreement;") iw_X10_menAboard_2) (fun _ h9 => h9) (o_rd hb_7) dX10_menAboard_16 ?_
        have tb_7 : oty Z b_7 16 := oInv.rd gI to.2 hb_7 rfl rfl
        refine lv_iload hx hb dX10_menAboard_19 (lv_at hl 0 rfl) ?_
        obtain ⟨q_8, hq_8⟩ := og (cq := cq) tb_7.1 (oE_16 tb_7.2)
        refine va_aldq hx hb hK hP q_8 5 hq_8 rfl (vp_in_iff.mpr (by omega)) dX10_menAboard_21 ?_
        obtain ⟨b_9, hb_9⟩ := oInv.el (i := 6) (x := y_2) gI to rfl hb_7 (by omega) (by omega)
        refine W.eq (g2 := F0 m 22 ls [.ref b_9]) (congrArg (fun z => F0 m 22 ls [va_rf z]) hb_9) ?_
        have tb_9 : oty Z b_9 1 := oInv.rd gI tb_7.2 hb_9 rfl rfl
        have ejb_9 : b_9 = agA Z o y_2.toNatClampNeg := by unfold agA; rw [oQ_e hb_7, oQ_e hb_9]
        have ljb_9 : y_2.toNatClampNeg < (v 43).toNatClampNeg := ni_lt (by omega) (by omega)
        have njb_9 : ((y_2.toNatClampNeg : Nat) : Int) = y_2.toInt := tn_i (by omega)
        have fAb_9 := RC.a hR ljb_9
        rw [← ejb_9] at fAb_9
        obtain ⟨⟨fm1b_9, fm2b_9, fm3b_9⟩, ⟨fv1b_9, fv2b_9, fv3b_9⟩, fsib_9, fppb_9, fwgb_9, frkb_9, fofb_9, fdeb_9, fchb_9⟩ := fAb_9
        have fBb_9 : 0 ≤ (fa 25 y_2.toNatClampNeg).toInt ∧ (fa 25 y_2.toNatClampNeg).toInt ≤ 3000 := RC.A hR 25 _
        have lamb_9 : (fa 20 y_2.toNatClampNeg).toNatClampNeg < (v 39).toNatClampNeg := ni_lt fm1b_9 fm2b_9
        have namb_9 : (((fa 20 y_2.toNatClampNeg).toNatClampNeg : Nat) : Int) = (fa 20 y_2.toNatClampNeg).toInt := tn_i fm1b_9
        obtain ⟨amb_9, eamb_9⟩ : ∃ z, z = mnA Z o (fa 20 y_2.toNatClampNeg).toNatClampNeg := ⟨_, rfl⟩
        rw [← eamb_9] at fm3b_9
        have tamb_9 : oty Z amb_9 6 := by rw [eamb_9]; exact (RC.tm hR gI to lamb_9).2
        have fMamb_9 := RC.m hR lamb_9
        rw [← eamb_9] at fMamb_9
        obtain ⟨fz0amb_9, fz1amb_9, fz2amb_9, fz3amb_9⟩ := fMamb_9
        rw [namb_9] at fz0amb_9
        have lavb_9 : (fa 21 y_2.toNatClampNeg).toNatClampNeg < (v 40).toNatClampNeg := ni_lt fv1b_9 fv2b_9
        have navb_9 : (((fa 21 y_2.toNatClampNeg).toNatClampNeg : Nat) : Int) = (fa 21 y_2.toNatClampNeg).toInt := tn_i fv1b_9
        obtain ⟨avb_9, eavb_9⟩ : ∃ z, z = voA Z o (fa 21 y_2.toNatClampNeg).toNatClampNeg := ⟨_, rfl⟩
        rw [← eavb_9] at fv3b_9
        have tavb_9 : oty Z avb_9 9 := by rw [eavb_9]; exact (RC.tv hR gI to lavb_9).2
        have fVavb_9 := RC.vo hR lavb_9
        rw [← eavb_9] at fVavb_9
        obtain ⟨fy0avb_9, fy1avb_9, fy2avb_9, fy3avb_9, fy4avb_9, fySavb_9, fyLavb_9, fyhavb_9⟩ := fVavb_9
        have fBavb_9 : 0 ≤ (fa 7 ((fa 21 y_2.toNatClampNeg).toNatClampNeg)).toInt ∧ (fa 7 ((fa 21 y_2.toNatClampNeg).toNatClampNeg)).toInt ≤ 3000 := RC.A hR 7 _
        have fSavb_9 := onc_i fySavb_9
        have fLavb_9 := onc_i fyLavb_9
        rw [navb_9] at fy0avb_9 fSavb_9 fLavb_9
        obtain ⟨q_10, hq_10⟩ := og (cq := cq) tb_9.1 (oE_1 tb_9.2)
        refine va_get (D := (dC, dI)) (ci := 1) (v := .ref avb_9) (C := RX1) (T := TX1) (N := 18) hx hb hts in_wsX10_menAboard_X1 hown hK hP q_10 hq_10 rfl 1 (by decide) (hts (.fieldLink RX10 118 "ShipOffice$Agreement" "voyage" "LShipOffice$Voyage;") iw_X10_menAboard_3) (fun _ h9 => h9) (o_rd fv3b_9) dX10_menAboard_22 ?_
        refine lv_aload_n hx hb dX10_menAboard_25 rfl (lv_at hl 3 rfl) ?_
        refine lv_acmp_ne (rx := (some avb_9)) (ry := (some a1)) (tgt := 52) hx hb dX10_menAboard_26 (by decide) (fun c_11 => ?_) (fun c_11 => ?_)
        · have _ := c_11
          have ac_12 : ¬ (fa 21 y_2.toNatClampNeg).toNatClampNeg = xv := fun q => c_11 (congrArg some (eavb_9.trans ((congrArg (voA Z o) q).trans exv.symm)))
          obtain ⟨x_13, ex_13⟩ : ∃ zq : Int32, y_2 + 1 = zq := ⟨_, rfl⟩
          have hx_13 : x_13.toInt = y_2.toInt + 1 := (iv_to ex_13).symm.trans (ad_i rfl (by decide) (by omega) (by omega))
          refine lv_iinc (v := x_13) (lv' := [(5, .int x_13), (4, .int y_3), (0, .ref o), (1, .ref a1), (2, .int x2), (3, .int x3)]) hx hb dX10_menAboard_52 hl (k := 0) rfl ex_13 (by decide) rfl (fun ls hl => ?_)
          clear ex_13
          refine lv_goto (tgt := 6) hx hb dX10_menAboard_55 (by decide) ?_
          exact ih (n - 1) (by omega) x_13 y_3 _ _ ls (by omega) (by omega) (by omega) (ab_s hq0_cut_1 (by omega) (by omega) (by show _ = _ + (if _ then _ else _); repeat (first | rw [if_pos (by omega)] | rw [if_neg (by omega)]); omega)) (by omega) (by omega) hP hS (lv_sub hl [0, 1, 2, 3, 4, 5] rfl)
        · have _ := c_11
          have ac_14 : (fa 21 y_2.toNatClampNeg).toNatClampNeg = xv := RC.vi hR lavb_9 hxv (eavb_9.symm.trans ((Option.some.inj c_11).trans exv))
          refine lv_aload_n hx hb dX10_menAboard_29 rfl (lv_at hl 2 rfl) ?_
          refine va_get (D := (dC, dI)) (ci := 10) (v := .ref b_7) (C := RX10) (T := TX10) (N := 16) hx hb hts in_wsX10_menAboard_X10 hown hK hP q_4 hq_4 rfl 5 (by decide) (hts (.fieldLink RX10 23 "ShipOffice" "agreements" "[LShipOffice$Agreement;") iw_X10_menAboard_2) (fun _ h9 => h9) (o_rd hb_7) dX10_menAboard_30 ?_
          refine lv_iload hx hb dX10_menAboard_33 (lv_at hl 0 rfl) ?_
          refine va_aldq hx hb hK hP q_8 5 hq_8 rfl (vp_in_iff.mpr (by omega)) dX10_menAboard_35 ?_
          obtain ⟨b_15, hb_15⟩ := oInv.el (i := 6) (x := y_2) gI to rfl hb_7 (by omega) (by omega)
          refine W.eq (g2 := F0 m 36 ls [.ref b_15]) (congrArg (fun z => F0 m 36 ls [va_rf z]) hb_15) ?_
          have tb_15 : oty Z b_15 1 := oInv.rd gI tb_7.2 hb_15 rfl rfl
          have ejb_15 : b_15 = agA Z o y_2.toNatClampNeg := by unfold agA; rw [oQ_e hb_7, oQ_e hb_15]
          have ljb_15 : y_2.toNatClampNeg < (v 43).toNatClampNeg := ni_lt (by omega) (by omega)
          have njb_15 : ((y_2.toNatClampNeg : Nat) : Int) = y_2.toInt := tn_i (by omega)
          have fAb_15 := RC.a hR ljb_15
          rw [← ejb_15] at fAb_15
          obtain ⟨⟨fm1b_15, fm2b_15, fm3b_15⟩, ⟨fv1b_15, fv2b_15, fv3b_15⟩, fsib_15, fppb_15, fwgb_15, frkb_15, fofb_15, fdeb_15, fchb_15⟩ := fAb_15
          have fBb_15 : 0 ≤ (fa 25 y_2.toNatClampNeg).toInt ∧ (fa 25 y_2.toNatClampNeg).toInt ≤ 3000 := RC.A hR 25 _
          have lamb_15 : (fa 20 y_2.toNatClampNeg).toNatClampNeg < (v 39).toNatClampNeg := ni_lt fm1b_15 fm2b_15
          have namb_15 : (((fa 20 y_2.toNatClampNeg).toNatClampNeg : Nat) : Int) = (fa 20 y_2.toNatClampNeg).toInt := tn_i fm1b_15
          obtain ⟨amb_15, eamb_15⟩ : ∃ z, z = mnA Z o (fa 20 y_2.toNatClampNeg).toNatClampNeg := ⟨_, rfl⟩
          rw [← eamb_15] at fm3b_15
          have tamb_15 : oty Z amb_15 6 := by rw [eamb_15]; exact (RC.tm hR gI to lamb_15).2
          have fMamb_15 := RC.m hR lamb_15
          rw [← eamb_15] at fMamb_15
          obtain ⟨fz0amb_15, fz1amb_15, fz2amb_15, fz3amb_15⟩ := fMamb_15
          rw [namb_15] at fz0amb_15
          have lavb_15 : (fa 21 y_2.toNatClampNeg).toNatClampNeg < (v 40).toNatClampNeg := ni_lt fv1b_15 fv2b_15
          have navb_15 : (((fa 21 y_2.toNatClampNeg).toNatClampNeg : Nat) : Int) = (fa 21 y_2.toNatClampNeg).toInt := tn_i fv1b_15
          obtain ⟨avb_15, eavb_15⟩ : ∃ z, z = voA Z o (fa 21 y_2.toNatClampNeg).toNatClampNeg := ⟨_, rfl⟩
          rw [← eavb_15] at fv3b_15
          have tavb_15 : oty Z avb_15 9 := by rw [eavb_15]; exact (RC.tv hR gI to lavb_15).2
          have fVavb_15 := RC.vo hR lavb_15
          rw [← eavb_15] at fVavb_15
          obtain ⟨fy0avb_15, fy1avb_15, fy2avb_15, fy3avb_15, fy4avb_15, fySavb_15, fyLavb_15, fyhavb_15⟩ := fVavb_15
          have fBavb_15 : 0 ≤ (fa 7 ((fa 21 y_2.toNatClampNeg).toNatClampNeg)).toInt ∧ (fa 7 ((fa 21 y_2.toNatClampNeg).toNatClampNeg)).toInt ≤ 3000 := RC.A hR 7 _
          have fSavb_15 := onc_i fySavb_15
          have fLavb_15 := onc_i fyLavb_15
          rw [navb_15] at fy0avb_15 fSavb_15 fLavb_15
          refine lv_iload_n hx hb dX10_menAboard_36 rfl (lv_at hl 4 rfl) ?_
          refine lv_iload_n hx hb dX10_menAboard_37 rfl (lv_at hl 5 rfl) ?_
          refine lv_aload_n hx hb dX10_menAboard_38 rfl (lv_at hl 2 rfl) ?_
          refine va_get (D := (dC, dI)) (ci := 10) (v := .ref lw) (C := RX10) (T := TX10) (N := 16) hx hb hts in_wsX10_menAboard_X10 hown hK hP q_4 hq_4 rfl 8 (by decide) (hts (.fieldLink RX10 30 "ShipOffice" "law" "LShipOffice$Law;") iw_X10_menAboard_4) (fun _ h9 => h9) (o_rd hlw0) dX10_menAboard_39 ?_
          have hFc : ∀ q, va_A [] H.size q → A q := pu_free hS hA
          obtain ⟨q_16, hq_16⟩ := og (cq := cq) tb_15.1 (oE_1 tb_15.2)
          refine va_calli (va_runV (As := [.int x2, .int x3, .ref lw]) (rest := []) ⟨hx, hb, hml, hown, hts⟩ (c_X1_stateOn_c l dC dI H.size cq Z gI b_15 tb_15 x2 (by omega) x3 (by omega) lw tlw o to v fa hR y_2.toNatClampNeg ljb_15 ejb_15 hLr (by omega)) (cwV 3 hts gX10_menAboard_X1_stateOn rfl rfl rfl (by decide +kernel) ⟨(Nat.le_of_ble_eq_true rfl), (Nat.le_of_ble_eq_true rfl)⟩) (pr_V (r := (RX1, TX1, 18)) hP hK hD q_16 1 rfl hq_16) rfl rfl hl.1 rfl (lv_room (Nat.le_of_ble_eq_true rfl)) dX10_menAboard_42 ⟨(Nat.le_of_ble_eq_true rfl), (Nat.le_of_ble_eq_true rfl)⟩) hS (fun q _ h => hFc q h) hFc (fun r_18 u t H locs ht hvm w_17 hB hz1 hk1 hS => ?_)
          have hP := pu_keep hP hk1
          clear hk1 hz1 hvm hB ht hFc
          obtain ⟨hb_19, hx_20⟩ := w_17
          refine lv_iconst (v := 1) hx hb dX10_menAboard_45 (by decide) ?_
          refine lv_icmp_ne (tgt := 52) hx hb dX10_menAboard_46 (by decide) (fun c_21 => ?_) (fun c_21 => ?_)
          · have dc_21 := c_ne (a := r_18.toInt) (b := 1) rfl (by decide) c_21
            obtain ⟨x_22, ex_22⟩ : ∃ zq : Int32, y_2 + 1 = zq := ⟨_, rfl⟩
            have hx_22 : x_22.toInt = y_2.toInt + 1 := (iv_to ex_22).symm.trans (ad_i rfl (by decide) (by omega) (by omega))
            refine lv_iinc (v := x_22) (lv' := [(5, .int x_22), (4, .int y_3), (0, .ref o), (1, .ref a1), (2, .int x2), (3, .int x3)]) hx hb dX10_menAboard_52 hl (k := 0) rfl ex_22 (by decide) rfl (fun ls hl => ?_)
            clear ex_22
            refine lv_goto (tgt := 6) hx hb dX10_menAboard_55 (by decide) ?_
            exact ih (n - 1) (by omega) x_22 y_3 _ _ ls (by omega) (by omega) (by omega) (ab_s hq0_cut_1 (by omega) (by omega) (by show _ = _ + (if _ then _ else _); repeat (first | rw [if_pos (by omega)] | rw [if_neg (by omega)]); omega)) (by omega) (by omega) hP hS (lv_sub hl [0, 1, 2, 3, 4, 5] rfl)
          · have dc_21 := c_eq (a := r_18.toInt) (b := 1) rfl (by decide) c_21
            obtain ⟨x_23, ex_23⟩ : ∃ zq : Int32, y_3 + 1 = zq := ⟨_, rfl⟩
            have hx_23 : x_23.toInt = y_3.toInt + 1 := (iv_to ex_23).symm.trans (ad_i rfl (by decide) (by omega) (by omega))
            refine lv_iinc (v := x_23) (lv' := [(4, .int x_23), (5, .int y_2), (0, .ref o), (1, .ref a1), (2, .int x2), (3, .int x3)]) hx hb dX10_menAboard_49 hl (k := 1) rfl ex_23 (by decide) rfl (fun ls hl => ?_)
            clear ex_23
            obtain ⟨x_24, ex_24⟩ : ∃ zq : Int32, y_2 + 1 = zq := ⟨_, rfl⟩
            have hx_24 : x_24.toInt = y_2.toInt + 1 := (iv_to ex_24).symm.trans (ad_i rfl (by decide) (by omega) (by omega))
            refine lv_iinc (v := x_24) (lv' := [(5, .int x_24), (4, .int x_23), (0, .ref o), (1, .ref a1), (2, .int x2), (3, .int x3)]) hx hb dX10_menAboard_52 hl (k := 1) rfl ex_24 (by decide) rfl (fun ls hl => ?_)
            clear ex_24
            refine lv_goto (tgt := 6) hx hb dX10_menAboard_55 (by decide) ?_
            exact ih (n - 1) (by omega) x_24 x_23 _ _ ls (by omega) (by omega) (by omega) (ab_s hq0_cut_1 (by omega) (by omega) (by show _ = _ + (if _ then _ else _); repeat (first | rw [if_pos (by omega)] | rw [if_neg (by omega)]); omega)) (by omega) (by omega) hP hS (lv_sub hl [0, 1, 2, 3, 4, 5] rfl)
  have kc_25 : (0 : Int32).toInt = 0 := by decide
  exact cut_1 61 0 0 _ _ ls (by omega) (by decide) (by decide) (by rw [show (0 : Int32).toNatClampNeg = 0 from by decide]; exact (by decide : (0 : Int32).toInt = 0)) (by decide) (by have rc : (0 : Int32).toInt = 0 := (by decide); omega) hP hS (lv_sub hl [0, 1, 2, 3, 4, 5] rfl)
