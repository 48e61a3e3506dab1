


set_option maxHeartbeats 4000000 in
set_option maxRecDepth 100000 in
theorem c_X1_daysIn_c (l : Launch) (dC : Nat → ClassId) (dI : Nat → Nat → Nat) (sz : Nat) (cq : Nat → ClassId) (Z : oS) (gI : oInv Z) (o : Nat) (to : oty Z o 1) (x1 : Int32) (x2 : Int32) (x3 : Int32) (a4 : Nat) (ta4 : oty Z a4 5) (h0 : Nat) (th : oty Z h0 10) (v : Nat → Int32) (fa : Nat → Nat → Int32) (hR : RC Z h0 v fa) (a : Nat) (ha : a < (v 43).toNatClampNeg) (ea : o = agA Z h0 a) (hLr : rLw Z a4 v fa) (hst : x1.toInt = 7 ∨ x1.toInt = 2) (hlk : -1 ≤ x2.toInt ∧ x2.toInt ≤ x3.toInt ∧ x3.toInt ≤ 3000) : Met l yX1_daysIn wsX1_daysIn ({ frames := 2, cells := 0, slots := 0, locals := 50 }) (va_Pc [.ref o, .int x1, .int x2, .int x3, .ref a4] (pcW (dC, dI) (oT cq) (oW cq Z) sz)) (va_Qi (fun (r : Int32) (u : Unit) => (0 ≤ r.toInt ∧ r.toInt ≤ 3001) ∧ (r.toInt = cDy (dG x1.toInt v fa a x3.toInt) (fa 25 a).toInt (x2.toInt + 1 - (fa 25 a).toInt).toNat)) (fun _ _ => True) (va_A [] sz)) 0 0 (va_A [] sz) := by
  refine Met.ofW (cc := cX1_daysIn) (maxL := 10) (ret := (some .int)) (by decide) rfl ?_
  intro p e s m args below meth c s₁ B hml hv
  obtain ⟨rfl, hsz, hP, hK, hD0⟩ := hv
  have hx := B.exec
  have hb := B.bytes
  have hr := B.returns
  have hts := atoms_spec (ws := wsX1_daysIn) B.pre
  have hown : s.vm.findClass RX1 = some m.cls := findClass_of_methodNamed B.named
  have hlocks := B.notSynchronized
  subst hsz
  have hD := hD0
  generalize hAe : va_A [] s.heap.size = A at ⊢
  have hA : ∀ q : Nat, s.heap.size ≤ q → A q := fun q h => by rw [← hAe]; exact Or.inr h
  have hS : va_S A s.heap s.heap [] := va_S.rf
  have hP : va_P (dC, dI) vwCl (oW cq Z) s.heap := hP
  have hl := lv_entry ([.ref o, .int x1, .int x2, .int x3, .ref a4]) (n := 10) (Nat.le_of_ble_eq_true rfl)
  rw [lg_entry_eq]
  generalize (lg_sl ([.ref o, .int x1, .int x2, .int x3, .ref a4]) ++ List.replicate (10 - (lg_sl ([.ref o, .int x1, .int x2, .int x3, .ref a4])).length) Slot.unset).toArray = ls at hl ⊢
  have hl : lv_has ls 10 [(0, .ref o), (1, .int x1), (2, .int x2), (3, .int x3), (4, .ref a4)] := hl
  obtain ⟨fn0, fn1, fn2, fn3, fn4⟩ := RC.n hR
  have fb38 : 0 ≤ (v 38).toInt ∧ (v 38).toInt ≤ 3000 := RC.V hR 38
  have fb39 : 0 ≤ (v 39).toInt ∧ (v 39).toInt ≤ 40 := RC.V hR 39
  have fb40 : 0 ≤ (v 40).toInt ∧ (v 40).toInt ≤ 20 := RC.V hR 40
  have fb43 : 0 ≤ (v 43).toInt ∧ (v 43).toInt ≤ 60 := RC.V hR 43
  have fb41 : 0 ≤ (v 41).toInt ∧ (v 41).toInt ≤ 200 := RC.V hR 41
  have fAo := RC.a hR ha
  rw [← ea] at fAo
  obtain ⟨⟨fm1o, fm2o, fm3o⟩, ⟨fv1o, fv2o, fv3o⟩, fsio, fppo, fwgo, frko, fofo, fdeo, fcho⟩ := fAo
  have fBo : 0 ≤ (fa 25 a).toInt ∧ (fa 25 a).toInt ≤ 3000 := RC.A hR 25 _
  have lamo : (fa 20 a).toNatClampNeg < (v 39).toNatClampNeg := ni_lt fm1o fm2o
  have namo : (((fa 20 a).toNatClampNeg : Nat) : Int) = (fa 20 a).toInt := tn_i fm1o
  obtain ⟨amo, eamo⟩ : ∃ z, z = mnA Z h0 (fa 20 a).toNatClampNeg := ⟨_, rfl⟩
  rw [← eamo] at fm3o
  have tamo : oty Z amo 6 := by rw [eamo]; exact (RC.tm hR gI th lamo).2
  have fMamo := RC.m hR lamo
  rw [← eamo] at fMamo
  obtain ⟨fz0amo, fz1amo, fz2amo, fz3amo⟩ := fMamo
  rw [namo] at fz0amo
  have lavo : (fa 21 a).toNatClampNeg < (v 40).toNatClampNeg := ni_lt fv1o fv2o
  have navo : (((fa 21 a).toNatClampNeg : Nat) : Int) = (fa 21 a).toInt := tn_i fv1o
  obtain ⟨avo, eavo⟩ : ∃ z, z = voA Z h0 (fa 21 a).toNatClampNeg := ⟨_, rfl⟩
  rw [← eavo] at fv3o
  have tavo : oty Z avo 9 := by rw [eavo]; exact (RC.tv hR gI th lavo).2
  have fVavo := RC.vo hR lavo
  rw [← eavo] at fVavo
  obtain ⟨fy0avo, fy1avo, fy2avo, fy3avo, fy4avo, fySavo, fyLavo, fyhavo⟩ := fVavo
  have fBavo : 0 ≤ (fa 7 ((fa 21 a).toNatClampNeg)).toInt ∧ (fa 7 ((fa 21 a).toNatClampNeg)).toInt ≤ 3000 := RC.A hR 7 _
  have fSavo := onc_i fySavo
  have fLavo := onc_i fyLavo
  rw [navo] at fy0avo fSavo fLavo
  refine lv_iconst (v := 0) hx hb dX1_daysIn_0 (by decide) ?_
  refine lv_istore (lv' := [(5, .int 0), (0, .ref o), (1, .int x1), (2, .int x2), (3, .int x3), (4, .ref a4)]) hx hb dX1_daysIn_1 hl (by decide) rfl (fun ls hl => ?_)
  refine lv_aload_n hx hb dX1_daysIn_3 rfl (lv_at hl 1 rfl) ?_
  obtain ⟨q_1, hq_1⟩ := og (cq := cq) to.1 (oE_1 to.2)
  refine va_get (D := (dC, dI)) (ci := 1) (v := .int (oI Z o 2)) (C := RX1) (T := TX1) (N := 18) hx hb hts in_wsX1_daysIn_X1 hown hK hP q_1 hq_1 rfl 2 (by decide) (hts (.fieldLink RX1 37 "ShipOffice$Agreement" "signedOn" "I") iw_X1_daysIn_1) (fun _ h9 => h9) rfl dX1_daysIn_4 ?_
  refine lv_topi (fun x_2 ex_2 => ?_)
  have gx_2 : x_2.toInt = (oI Z o 2).toInt := iv_to ex_2
  clear ex_2
  refine lv_istore (lv' := [(6, .int x_2), (5, .int 0), (0, .ref o), (1, .int x1), (2, .int x2), (3, .int x3), (4, .ref a4)]) hx hb dX1_daysIn_7 hl (by decide) rfl (fun ls hl => ?_)
  refine lv_iconst (v := 0) hx hb dX1_daysIn_9 (by decide) ?_
  refine lv_istore (lv' := [(7, .int 0), (6, .int x_2), (5, .int 0), (0, .ref o), (1, .int x1), (2, .int x2), (3, .int x3), (4, .ref a4)]) hx hb dX1_daysIn_10 hl (by decide) rfl (fun ls hl => ?_)
  have cut_3 : ∀ (n : Nat) (y_4 : Int32) (y_5 : Int32) (y_6 : Int32) (H : Heap) (locs : List Loc) (ls : Array Slot), 3001 - y_4.toInt ≤ (n : Int) → (0 ≤ y_4.toInt ∧ y_4.toInt ≤ 3001) → (0 ≤ y_5.toInt ∧ y_5.toInt ≤ 3001) → (0 ≤ y_6.toInt ∧ y_6.toInt ≤ 3001) → ((fa 25 a).toInt + y_4.toInt ≤ y_5.toInt ∧ (y_5.toInt = (fa 25 a).toInt ∨ y_5.toInt ≤ x2.toInt + 1) ∧ y_6.toInt + (fa 25 a).toInt ≤ y_5.toInt) → y_6.toInt = cDy (dG x1.toInt v fa a x3.toInt) (fa 25 a).toInt (y_5.toInt - (fa 25 a).toInt).toNat → va_P (dC, dI) vwCl (oW cq Z) H → va_S A s.heap H locs → lv_has ls 10 [(7, .int y_4), (6, .int y_5), (5, .int y_6), (0, .ref o), (1, .int x1), (2, .int x2), (3, .int x3), (4, .ref a4)] → W p l e (headSpec wsX1_daysIn { frames := 2, cells := 0, slots := 0, locals := 50 }).room s m #[Value.ref o, Value.int x1, Value.int x2, Value.int x3, Value.ref a4] below meth c H locs 0 0 (MQ below (va_Qi (fun (r : Int32) (u : Unit) => (0 ≤ r.toInt ∧ r.toInt ≤ 3001) ∧ (r.toInt = cDy (dG x1.toInt v fa a x3.toInt) (fa 25 a).toInt (x2.toInt + 1 - (fa 25 a).toInt).toNat)) (fun _ _ => True) A) #[Value.ref o, Value.int x1, Value.int x2, Value.int x3, Value.ref a4] s 0 0 A) (F0 m 12 ls []) := by
    intro n
    induction n using Nat.strongRecOn with
    | ind n ih =>
      intro y_4 y_5 y_6 H locs ls hm hy_4 hy_5 hy_6 hq0_cut_3 hq1_cut_3 hP hS hl
      refine lv_iload hx hb dX1_daysIn_12 (lv_at hl 0 rfl) ?_
      refine lv_sipush (v := 3000) hx hb dX1_daysIn_14 (by decide) ?_
      refine lv_icmp_gt (tgt := 89) hx hb dX1_daysIn_17 (by decide) (fun c_7 => ?_) (fun c_7 => ?_)
      · have dc_7 := c_lt (a := 3000) (b := y_4.toInt) (by decide) rfl c_7
        refine lv_iload hx hb dX1_daysIn_89 (lv_at hl 2 rfl) ?_
        exact W.iret (v := y_6) hx hb hr (fun t ht hW => ⟨⟨y_6, (), rfl, ⟨(by omega), (by rw [hq1_cut_3, show (y_5.toInt - (fa 25 a).toInt).toNat = (x2.toInt + 1 - (fa 25 a).toInt).toNat by omega])⟩, trivial⟩, hS.F ht⟩) hS.2.2 dX1_daysIn_91
      · have dc_7 := c_nlt (a := 3000) (b := y_4.toInt) (by decide) rfl c_7
        refine lv_iload hx hb dX1_daysIn_20 (lv_at hl 1 rfl) ?_
        refine lv_iload_n hx hb dX1_daysIn_22 rfl (lv_at hl 5 rfl) ?_
        refine lv_icmp_gt (tgt := 89) hx hb dX1_daysIn_23 (by decide) (fun c_8 => ?_) (fun c_8 => ?_)
        · have dc_8 := c_lt (a := x2.toInt) (b := y_5.toInt) rfl rfl c_8
          refine lv_iload hx hb dX1_daysIn_89 (lv_at hl 2 rfl) ?_
          exact W.iret (v := y_6) hx hb hr (fun t ht hW => ⟨⟨y_6, (), rfl, ⟨(by omega), (by rw [hq1_cut_3, show (y_5.toInt - (fa 25 a).toInt).toNat = (x2.toInt + 1 - (fa 25 a).toInt).toNat by omega])⟩, trivial⟩, hS.F ht⟩) hS.2.2 dX1_daysIn_91
        · have dc_8 := c_nlt (a := x2.toInt) (b := y_5.toInt) rfl rfl c_8
          refine lv_aload_n hx hb dX1_daysIn_26 rfl (lv_at hl 3 rfl) ?_
          refine lv_iload hx hb dX1_daysIn_27 (lv_at hl 1 rfl) ?_
          refine lv_iload_n hx hb dX1_daysIn_29 rfl (lv_at hl 6 rfl) ?_
          refine lv_aload hx hb dX1_daysIn_30 (lv_at hl 7 rfl) ?_
          have hFc : ∀ q, va_A [] H.size q → A q := pu_free hS hA
          obtain ⟨q_9, hq_9⟩ := og (cq := cq) to.1 (oE_1 to.2)
          refine va_calli (va_runV (As := [.int y_5, .int x3, .ref a4]) (rest := []) ⟨hx, hb, hml, hown, hts⟩ (c_X1_stateOn_c l dC dI H.size cq Z gI o to y_5 (by omega) x3 (by omega) a4 ta4 h0 th v fa hR a ha ea hLr (by omega)) (cwV 3 hts gX1_daysIn_X1_stateOn rfl rfl rfl (by decide +kernel) ⟨(Nat.le_of_ble_eq_true rfl), (Nat.le_of_ble_eq_true rfl)⟩) (pr_V (r := (RX1, TX1, 18)) hP hK hD q_9 1 rfl hq_9) rfl rfl hl.1 rfl (lv_room (Nat.le_of_ble_eq_true rfl)) dX1_daysIn_32 ⟨(Nat.le_of_ble_eq_true rfl), (Nat.le_of_ble_eq_true rfl)⟩) hS (fun q _ h => hFc q h) hFc (fun r_11 u t H locs ht hvm w_10 hB hz1 hk1 hS => ?_)
          have hP := pu_keep hP hk1
          clear hk1 hz1 hvm hB ht hFc
          obtain ⟨hb_12, hx_13⟩ := w_10
          refine lv_istore (lv' := [(8, .int r_11), (7, .int y_4), (6, .int y_5), (5, .int y_6), (0, .ref o), (1, .int x1), (2, .int x2), (3, .int x3), (4, .ref a4)]) hx hb dX1_daysIn_35 hl (by decide) rfl (fun ls hl => ?_)
          refine lv_aload_n hx hb dX1_daysIn_37 rfl (lv_at hl 4 rfl) ?_
          refine lv_iload hx hb dX1_daysIn_38 (lv_at hl 2 rfl) ?_
          refine lv_iload_n hx hb dX1_daysIn_40 rfl (lv_at hl 7 rfl) ?_
          refine lv_aload hx hb dX1_daysIn_41 (lv_at hl 8 rfl) ?_
          have hFc : ∀ q, va_A [] H.size q → A q := pu_free hS hA
          refine va_calli (va_runV (As := [.int y_5, .int x3, .ref a4]) (rest := []) ⟨hx, hb, hml, hown, hts⟩ (c_X1_nextChange_c l dC dI H.size cq Z gI o to y_5 (by omega) x3 (by omega) a4 ta4 h0 th v fa hR a ha ea hLr (by omega)) (cwV 3 hts gX1_daysIn_X1_nextChange rfl rfl rfl (by decide +kernel) ⟨(Nat.le_of_ble_eq_true rfl), (Nat.le_of_ble_eq_true rfl)⟩) (pr_V (r := (RX1, TX1, 18)) hP hK hD q_9 1 rfl hq_9) rfl rfl hl.1 rfl (lv_room (Nat.le_of_ble_eq_true rfl)) dX1_daysIn_43 ⟨(Nat.le_of_ble_eq_true rfl), (Nat.le_of_ble_eq_true rfl)⟩) hS (fun q _ h => hFc q h) hFc (fun r_15 u t H locs ht hvm w_14 hB hz1 hk1 hS => ?_)
          have hP := pu_keep hP hk1
          clear hk1 hz1 hvm hB ht hFc
          obtain ⟨hb_16, hx_17⟩ := w_14
          have hnc9 := hx_17.1
          have hnc8 := hx_17.2.1
          refine lv_iload_n hx hb dX1_daysIn_46 rfl (lv_at hl 6 rfl) ?_
          refine lv_iconst (v := 1) hx hb dX1_daysIn_47 (by decide) ?_
          refine lv_iadd hx hb dX1_daysIn_48 ?_
          refine lv_topi (fun x_18 ex_18 => ?_)
          have hx_18 : x_18.toInt = x2.toInt + 1 := (iv_to ex_18).trans (ad_i rfl (by decide) (by omega) (by omega))
          clear ex_18
          refine va_mmin hx hb (by rw [hml]; exact hl.1.symm) hown (hts (.methodLink RX1 111 Lib.Math.min.name) iw_X1_daysIn_2) (hts (.static Lib.Math.min.name) iw_X1_daysIn_3) (hts (.initialized "java/lang/Math") iw_X1_daysIn_4) (hts (.code Lib.Math.min.name Lib.Math.min.code 2 (some .int)) (by decide +kernel)) (Nat.le_of_ble_eq_true rfl) (Nat.le_of_ble_eq_true rfl) (Nat.le_of_ble_eq_true rfl) (Nat.le_of_ble_eq_true rfl) dX1_daysIn_49 ?_
          refine lv_topi (fun x_19 ex_19 => ?_)
          have hx_19 := mmin_i ex_19
          clear ex_19
          refine lv_istore (lv' := [(9, .int x_19), (8, .int r_11), (7, .int y_4), (6, .int y_5), (5, .int y_6), (0, .ref o), (1, .int x1), (2, .int x2), (3, .int x3), (4, .ref a4)]) hx hb dX1_daysIn_52 hl (by decide) rfl (fun ls hl => ?_)
          refine lv_iload hx hb dX1_daysIn_54 (lv_at hl 1 rfl) ?_
          refine lv_if_lt (tgt := 79) hx hb dX1_daysIn_56 (by decide) (fun c_20 => ?_) (fun c_20 => ?_)
          · have dc_20 := c_lt (a := r_11.toInt) (b := 0) rfl (by decide) c_20
            refine lv_iload hx hb dX1_daysIn_79 (lv_at hl 0 rfl) ?_
            refine lv_istore (lv' := [(6, .int x_19), (9, .int x_19), (8, .int r_11), (7, .int y_4), (5, .int y_6), (0, .ref o), (1, .int x1), (2, .int x2), (3, .int x3), (4, .ref a4)]) hx hb dX1_daysIn_81 hl (by decide) rfl (fun ls hl => ?_)
            obtain ⟨x_21, ex_21⟩ : ∃ zq : Int32, y_4 + 1 = zq := ⟨_, rfl⟩
            have hx_21 : x_21.toInt = y_4.toInt + 1 := (iv_to ex_21).symm.trans (ad_i rfl (by decide) (by omega) (by omega))
            refine lv_iinc (v := x_21) (lv' := [(7, .int x_21), (6, .int x_19), (9, .int x_19), (8, .int r_11), (5, .int y_6), (0, .ref o), (1, .int x1), (2, .int x2), (3, .int x3), (4, .ref a4)]) hx hb dX1_daysIn_83 hl (k := 3) rfl ex_21 (by decide) rfl (fun ls hl => ?_)
            clear ex_21
            refine lv_goto (tgt := 12) hx hb dX1_daysIn_86 (by decide) ?_
            exact ih (n - 1) (by omega) x_21 x_19 y_6 _ _ ls (by omega) (by omega) (by omega) (by omega) (by omega) (by have gv := dG_n (s := x1.toInt) hx_13 (by omega); exact dy_n (g := (dG x1.toInt v fa a x3.toInt)) hq1_cut_3 dG_01 (by omega) (fun t q1 q2 => dG_c (hx_17.2.2 t q1 q2)) (by omega) (by omega) (by omega)) hP hS (lv_sub hl [0, 1, 4, 5, 6, 7, 8, 9] rfl)
          · have dc_20 := c_nlt (a := r_11.toInt) (b := 0) rfl (by decide) c_20
            refine lv_iload_n hx hb dX1_daysIn_59 rfl (lv_at hl 6 rfl) ?_
            refine lv_iload hx hb dX1_daysIn_60 (lv_at hl 1 rfl) ?_
            refine lv_ishr hx hb dX1_daysIn_62 ?_
            refine lv_topi (fun x_22 ex_22 => ?_)
            refine lv_iconst (v := 1) hx hb dX1_daysIn_63 (by decide) ?_
            refine lv_iand hx hb dX1_daysIn_64 ?_
            refine lv_topi (fun x_23 ex_23 => ?_)
            refine lv_iconst (v := 1) hx hb dX1_daysIn_65 (by decide) ?_
            refine lv_icmp_ne (tgt := 79) hx hb dX1_daysIn_66 (by decide) (fun c_24 => ?_) (fun c_24 => ?_)
            · have dc_24 := c_ne (a := x_23.toInt) (b := 1) rfl (by decide) c_24
              refine lv_iload hx hb dX1_daysIn_79 (lv_at hl 0 rfl) ?_
              refine lv_istore (lv' := [(6, .int x_19), (9, .int x_19), (8, .int r_11), (7, .int y_4), (5, .int y_6), (0, .ref o), (1, .int x1), (2, .int x2), (3, .int x3), (4, .ref a4)]) hx hb dX1_daysIn_81 hl (by decide) rfl (fun ls hl => ?_)
              obtain ⟨x_25, ex_25⟩ : ∃ zq : Int32, y_4 + 1 = zq := ⟨_, rfl⟩
              have hx_25 : x_25.toInt = y_4.toInt + 1 := (iv_to ex_25).symm.trans (ad_i rfl (by decide) (by omega) (by omega))
              refine lv_iinc (v := x_25) (lv' := [(7, .int x_25), (6, .int x_19), (9, .int x_19), (8, .int r_11), (5, .int y_6), (0, .ref o), (1, .int x1), (2, .int x2), (3, .int x3), (4, .ref a4)]) hx hb dX1_daysIn_83 hl (k := 3) rfl ex_25 (by decide) rfl (fun ls hl => ?_)
              clear ex_25
              refine lv_goto (tgt := 12) hx hb dX1_daysIn_86 (by decide) ?_
              exact ih (n - 1) (by omega) x_25 x_19 y_6 _ _ ls (by omega) (by omega) (by omega) (by omega) (by omega) (by have g01 := dG_01 (s := x1.toInt) (v := v) (fa := fa) (a := a) (k := x3.toInt) (t := y_5.toInt); have gv := dG_1 (s := x1.toInt) hx_13 (by omega) (bt_i hst (by omega) ex_22 ex_23); exact dy_n (g := (dG x1.toInt v fa a x3.toInt)) hq1_cut_3 dG_01 (by omega) (fun t q1 q2 => dG_c (hx_17.2.2 t q1 q2)) (by omega) (by omega) (by omega)) hP hS (lv_sub hl [0, 1, 4, 5, 6, 7, 8, 9] rfl)
            · have dc_24 := c_eq (a := x_23.toInt) (b := 1) rfl (by decide) c_24
              refine lv_iload hx hb dX1_daysIn_69 (lv_at hl 4 rfl) ?_
              refine lv_iload hx hb dX1_daysIn_71 (lv_at hl 0 rfl) ?_
              refine lv_iload hx hb dX1_daysIn_73 (lv_at hl 3 rfl) ?_
              refine lv_isub hx hb dX1_daysIn_75 ?_
              refine lv_topi (fun x_26 ex_26 => ?_)
              have hx_26 : x_26.toInt = x_19.toInt - y_5.toInt := (iv_to ex_26).trans (sb_i rfl rfl (by omega) (by omega))
              clear ex_26
              refine lv_iadd hx hb dX1_daysIn_76 ?_
              refine lv_topi (fun x_27 ex_27 => ?_)
              have hx_27 : x_27.toInt = y_6.toInt + x_26.toInt := (iv_to ex_27).trans (ad_i rfl rfl (by omega) (by omega))
              clear ex_27
              refine lv_istore (lv' := [(5, .int x_27), (9, .int x_19), (8, .int r_11), (7, .int y_4), (6, .int y_5), (0, .ref o), (1, .int x1), (2, .int x2), (3, .int x3), (4, .ref a4)]) hx hb dX1_daysIn_77 hl (by decide) rfl (fun ls hl => ?_)
              refine lv_iload hx hb dX1_daysIn_79 (lv_at hl 1 rfl) ?_
              refine lv_istore (lv' := [(6, .int x_19), (5, .int x_27), (9, .int x_19), (8, .int r_11), (7, .int y_4), (0, .ref o), (1, .int x1), (2, .int x2), (3, .int x3), (4, .ref a4)]) hx hb dX1_daysIn_81 hl (by decide) rfl (fun ls hl => ?_)
              obtain ⟨x_28, ex_28⟩ : ∃ zq : Int32, y_4 + 1 = zq := ⟨_, rfl⟩
              have hx_28 : x_28.toInt = y_4.toInt + 1 := (iv_to ex_28).symm.trans (ad_i rfl (by decide) (by omega) (by omega))
              refine lv_iinc (v := x_28) (lv' := [(7, .int x_28), (6, .int x_19), (5, .int x_27), (9, .int x_19), (8, .int r_11), (0, .ref o), (1, .int x1), (2, .int x2), (3, .int x3), (4, .ref a4)]) hx hb dX1_daysIn_83 hl (k := 4) rfl ex_28 (by decide) rfl (fun ls hl => ?_)
              clear ex_28
              refine lv_goto (tgt := 12) hx hb dX1_daysIn_86 (by decide) ?_
              exact ih (n - 1) (by omega) x_28 x_19 x_27 _ _ ls (by omega) (by omega) (by omega) (by omega) (by omega) (by have g01 := dG_01 (s := x1.toInt) (v := v) (fa := fa) (a := a) (k := x3.toInt) (t := y_5.toInt); have gv := dG_1 (s := x1.toInt) hx_13 (by omega) (bt_i hst (by omega) ex_22 ex_23); exact dy_n (g := (dG x1.toInt v fa a x3.toInt)) hq1_cut_3 dG_01 (by omega) (fun t q1 q2 => dG_c (hx_17.2.2 t q1 q2)) (by omega) (by omega) (by omega)) hP hS (lv_sub hl [0, 1, 2, 5, 6, 7, 8, 9] rfl)
  have kc_29 : (0 : Int32).toInt = 0 := by decide
  exact cut_3 3002 0 x_2 0 _ _ ls (by omega) (by decide) (by omega) (by decide) (by have rc : (0 : Int32).toInt = 0 := (by decide); omega) (er_0 (by omega)) hP hS (lv_sub hl [0, 1, 2, 3, 4, 5, 6, 7] rfl)
