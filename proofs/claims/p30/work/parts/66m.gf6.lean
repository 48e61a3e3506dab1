


set_option maxHeartbeats 4000000 in
set_option maxRecDepth 100000 in
theorem c_X10_standing_c (l : Launch) (dC : Nat → ClassId) (dI : Nat → Nat → Nat) (sz : Nat) (cq : Nat → ClassId) (Z : oS) (gI : oInv Z) (o : Nat) (to : oty Z o 10) (a1 : Nat) (ta1 : oty Z a1 1) (a2 : Nat) (ta2 : oty Z a2 2) (x3 : Int32) (hx3 : 0 ≤ x3.toInt ∧ x3.toInt ≤ 3000) (v : Nat → Int32) (fa : Nat → Nat → Int32) (hR : RC Z o v fa) (a : Nat) (ha : a < (v 43).toNatClampNeg) (ea : a1 = agA Z o a) (jf : Nat) (hF : rF Z fa a2 jf) (hdk : (fa 33 jf).toInt ≤ x3.toInt) : Met l yX10_standing wsX10_standing ({ frames := 4, cells := 0, slots := 0, locals := 106 }) (va_Pc [.ref o, .ref a1, .ref a2, .int x3] (pcW (dC, dI) (oT cq) (oW cq Z) sz)) (va_Qi (fun (r : Int32) (u : oS) => oInv u ∧ oX [2108, 5001] Z u ∧ (r.toInt = stV v fa a jf x3.toInt)) (fun u t => va_P (dC, dI) vwCl (oW cq u) t.heap ∧ va_K (dC, dI) vwCl (oT cq) t ∧ va_D (va_A (oW cq Z) sz) (oW cq u)) (va_A (oW cq Z) sz)) 0 0 (va_A (oW cq Z) sz) := by
  refine Met.ofW (cc := cX10_standing) (maxL := 5) (ret := (some .int)) (by decide) rfl ?_
  intro p e s m args below meth c s₁ B hml hv
  obtain ⟨rfl, hsz, hP, hK, hD0⟩ := hv
  have hx := B.exec
  have hb := B.bytes
  have hr := B.returns
  have hts := atoms_spec (ws := wsX10_standing) B.pre
  have hown : s.vm.findClass RX10 = some m.cls := findClass_of_methodNamed B.named
  have hlocks := B.notSynchronized
  subst hsz
  have hD := hD0.self (sz := s.heap.size)
  generalize hAe : va_A (oW cq Z) s.heap.size = A at hD ⊢
  have hA : ∀ q : Nat, s.heap.size ≤ q → A q := fun q h => by rw [← hAe]; exact Or.inr h
  have hS : va_S A s.heap s.heap [] := va_S.rf
  have hP : va_P (dC, dI) vwCl (oW cq Z) s.heap := hP
  have hl := lv_entry ([.ref o, .ref a1, .ref a2, .int x3]) (n := 5) (Nat.le_of_ble_eq_true rfl)
  rw [lg_entry_eq]
  generalize (lg_sl ([.ref o, .ref a1, .ref a2, .int x3]) ++ List.replicate (5 - (lg_sl ([.ref o, .ref a1, .ref a2, .int x3])).length) Slot.unset).toArray = ls at hl ⊢
  have hl : lv_has ls 5 [(0, .ref o), (1, .ref a1), (2, .ref a2), (3, .int x3)] := hl
  obtain ⟨fn0, fn1, fn2, fn3, fn4⟩ := RC.n hR
  have fb38 : 0 ≤ (v 38).toInt ∧ (v 38).toInt ≤ 3000 := RC.V hR 38
  have fb39 : 0 ≤ (v 39).toInt ∧ (v 39).toInt ≤ 40 := RC.V hR 39
  have fb40 : 0 ≤ (v 40).toInt ∧ (v 40).toInt ≤ 20 := RC.V hR 40
  have fb43 : 0 ≤ (v 43).toInt ∧ (v 43).toInt ≤ 60 := RC.V hR 43
  have fb41 : 0 ≤ (v 41).toInt ∧ (v 41).toInt ≤ 200 := RC.V hR 41
  have fAa1 := RC.a hR ha
  rw [← ea] at fAa1
  obtain ⟨⟨fm1a1, fm2a1, fm3a1⟩, ⟨fv1a1, fv2a1, fv3a1⟩, fsia1, fppa1, fwga1, frka1, fofa1, fdea1, fcha1⟩ := fAa1
  have fBa1 : 0 ≤ (fa 25 a).toInt ∧ (fa 25 a).toInt ≤ 3000 := RC.A hR 25 _
  have lama1 : (fa 20 a).toNatClampNeg < (v 39).toNatClampNeg := ni_lt fm1a1 fm2a1
  have nama1 : (((fa 20 a).toNatClampNeg : Nat) : Int) = (fa 20 a).toInt := tn_i fm1a1
  obtain ⟨ama1, eama1⟩ : ∃ z, z = mnA Z o (fa 20 a).toNatClampNeg := ⟨_, rfl⟩
  rw [← eama1] at fm3a1
  have tama1 : oty Z ama1 6 := by rw [eama1]; exact (RC.tm hR gI to lama1).2
  have fMama1 := RC.m hR lama1
  rw [← eama1] at fMama1
  obtain ⟨fz0ama1, fz1ama1, fz2ama1, fz3ama1⟩ := fMama1
  rw [nama1] at fz0ama1
  have lava1 : (fa 21 a).toNatClampNeg < (v 40).toNatClampNeg := ni_lt fv1a1 fv2a1
  have nava1 : (((fa 21 a).toNatClampNeg : Nat) : Int) = (fa 21 a).toInt := tn_i fv1a1
  obtain ⟨ava1, eava1⟩ : ∃ z, z = voA Z o (fa 21 a).toNatClampNeg := ⟨_, rfl⟩
  rw [← eava1] at fv3a1
  have tava1 : oty Z ava1 9 := by rw [eava1]; exact (RC.tv hR gI to lava1).2
  have fVava1 := RC.vo hR lava1
  rw [← eava1] at fVava1
  obtain ⟨fy0ava1, fy1ava1, fy2ava1, fy3ava1, fy4ava1, fySava1, fyLava1, fyhava1⟩ := fVava1
  have fBava1 : 0 ≤ (fa 7 ((fa 21 a).toNatClampNeg)).toInt ∧ (fa 7 ((fa 21 a).toNatClampNeg)).toInt ≤ 3000 := RC.A hR 7 _
  have fSava1 := onc_i fySava1
  have fLava1 := onc_i fyLava1
  rw [nava1] at fy0ava1 fSava1 fLava1
  obtain ⟨lw, hlw0⟩ := oInv.nn (i := 8) gI to rfl
  have tlw : oty Z lw 5 := oInv.rd gI to.2 hlw0 rfl rfl
  have hLr : rLw Z lw v fa := by have q := RC.l hR; rw [oQ_e hlw0] at q; exact q
  obtain ⟨hf1, hf2, hf3, hf4, hf5, hf6, hf7⟩ := id hF
  have hfd : 0 ≤ (fa 33 jf).toInt ∧ (fa 33 jf).toInt ≤ 3000 := RC.A hR 33 jf
  refine lv_aload_n hx hb dX10_standing_0 rfl (lv_at hl 0 rfl) ?_
  refine lv_iconst (v := 1) hx hb dX10_standing_1 (by decide) ?_
  refine lv_aload_n hx hb dX10_standing_2 rfl (lv_at hl 1 rfl) ?_
  refine lv_aload_n hx hb dX10_standing_3 rfl (lv_at hl 2 rfl) ?_
  obtain ⟨q_1, hq_1⟩ := og (cq := cq) ta2.1 (oE_2 ta2.2)
  refine va_get (D := (dC, dI)) (ci := 2) (v := .int (oI Z a2 0)) (C := RX2) (T := TX2) (N := 3) hx hb hts in_wsX10_standing_X2 hown hK hP q_1 hq_1 rfl 0 (by decide) (hts (.fieldLink RX10 277 "ShipOffice$Fine" "day" "I") iw_X10_standing_1) (fun _ h9 => h9) rfl dX10_standing_4 ?_
  refine lv_topi (fun x_2 ex_2 => ?_)
  have hx_2 : 0 ≤ x_2.toInt ∧ x_2.toInt ≤ 3000 := iv_of ex_2 (by omega)
  have gx_2 : x_2.toInt = (oI Z a2 0).toInt := iv_to ex_2
  clear ex_2
  refine lv_iload_n hx hb dX10_standing_7 rfl (lv_at hl 3 rfl) ?_
  refine lv_aload_n hx hb dX10_standing_8 rfl (lv_at hl 2 rfl) ?_
  refine va_get (D := (dC, dI)) (ci := 2) (v := .int (oI Z a2 1)) (C := RX2) (T := TX2) (N := 3) hx hb hts in_wsX10_standing_X2 hown hK hP q_1 hq_1 rfl 1 (by decide) (hts (.fieldLink RX10 418 "ShipOffice$Fine" "sum" "I") iw_X10_standing_2) (fun _ h9 => h9) rfl dX10_standing_9 ?_
  refine lv_topi (fun x_3 ex_3 => ?_)
  have hx_3 : 1 ≤ x_3.toInt ∧ x_3.toInt ≤ 9999 := iv_of ex_3 (by omega)
  have gx_3 : x_3.toInt = (oI Z a2 1).toInt := iv_to ex_3
  clear ex_3
  refine lv_aload_n hx hb dX10_standing_12 rfl (lv_at hl 2 rfl) ?_
  refine va_get (D := (dC, dI)) (ci := 2) (v := .int (oI Z a2 2)) (C := RX2) (T := TX2) (N := 3) hx hb hts in_wsX10_standing_X2 hown hK hP q_1 hq_1 rfl 2 (by decide) (hts (.fieldLink RX10 274 "ShipOffice$Fine" "isRead" "Z") iw_X10_standing_3) (fun _ h9 => h9) rfl dX10_standing_13 ?_
  refine lv_topi (fun x_4 ex_4 => ?_)
  have gx_4 : x_4.toInt = (oI Z a2 2).toInt := iv_to ex_4
  clear ex_4
  refine lv_if_eq (tgt := 23) hx hb dX10_standing_16 (by decide) (fun c_5 => ?_) (fun c_5 => ?_)
  · have dc_5 := c_eq (a := x_4.toInt) (b := 0) rfl (by decide) c_5
    refine lv_iconst (v := 0) hx hb dX10_standing_23 (by decide) ?_
    have hFc := o_free hD hS hA
    obtain ⟨q_6, hq_6⟩ := og (cq := cq) to.1 (oE_10 to.2)
    refine va_calli (va_runV (As := [.int 1, .ref a1, .int x_2, .int x3, .int x_3, .int 0]) (rest := []) ⟨hx, hb, hml, hown, hts⟩ (c_X10_worthFor_c l dC dI s.heap.size cq Z gI o to 1 (by decide) a1 ta1 x_2 (by omega) x3 (by omega) x_3 0 v fa hR (by omega) (by decide) (by omega) a ha ea) (cwV 6 hts gX10_standing_X10_worthFor rfl rfl rfl (by decide +kernel) ⟨(Nat.le_of_ble_eq_true rfl), (Nat.le_of_ble_eq_true rfl)⟩) (pr_V (r := (RX10, TX10, 16)) hP hK hD q_6 10 rfl hq_6) rfl rfl hl.1 rfl (lv_room (Nat.le_of_ble_eq_true rfl)) dX10_standing_24 ⟨(Nat.le_of_ble_eq_true rfl), (Nat.le_of_ble_eq_true rfl)⟩) hS (fun q _ h => hFc q h) hFc (fun r_8 u t H locs ht hvm w_7 hB hz1 hk1 hS => ?_)
    obtain ⟨S_9, rfl⟩ : ∃ z, z = u := ⟨_, rfl⟩
    obtain ⟨hP1, hK1, hD1⟩ := hB
    rw [ht] at hP1
    have hP : va_P (dC, dI) vwCl (oW cq S_9) H := hP1
    have hD : va_D A (oW cq S_9) := hD1.weaken (fun _ _ _ h => hFc _ h)
    clear hP1 hK1 hD1 hk1 hz1 hvm ht hFc
    obtain ⟨hIS_9, XS_9, hx_10⟩ := w_7
    have X_11 : oX [2108, 5001] Z S_9 := oX.st oX.rf XS_9 (by decide)
    have g_12 : (oI S_9 a1 4).toInt = (oI Z a1 4).toInt := by rw [oX.i XS_9 ta1 (by decide)]
    have g_13 : (oI S_9 a1 11).toInt = (oI Z a1 11).toInt := by rw [oX.i XS_9 ta1 (by decide)]
    have g_14 : (oI S_9 a2 0).toInt = (oI Z a2 0).toInt := by rw [oX.i XS_9 ta2 (by decide)]
    have g_15 : (oI S_9 a2 1).toInt = (oI Z a2 1).toInt := by rw [oX.i XS_9 ta2 (by decide)]
    have g_16 : (oI S_9 a2 2).toInt = (oI Z a2 2).toInt := by rw [oX.i XS_9 ta2 (by decide)]
    have pk_17 : oP S_9 a1 0 = some ama1 := by rw [oX.p XS_9 ta1 (by decide)]; exact fm3a1
    have pk_18 : oP S_9 a1 1 = some ava1 := by rw [oX.p XS_9 ta1 (by decide)]; exact fv3a1
    have pk_19 : oP S_9 o 8 = some lw := by rw [oX.p XS_9 to (by decide)]; exact hlw0
    refine lv_istore (lv' := [(4, .int r_8), (0, .ref o), (1, .ref a1), (2, .ref a2), (3, .int x3)]) hx hb dX10_standing_27 hl (by decide) rfl (fun ls hl => ?_)
    refine lv_iconst (v := 0) hx hb dX10_standing_29 (by decide) ?_
    refine lv_aload_n hx hb dX10_standing_30 rfl (lv_at hl 3 rfl) ?_
    have t_20 : oty S_9 a2 2 := (oX.ty XS_9 ta2)
    obtain ⟨q_21, hq_21⟩ := og (cq := cq) t_20.1 (oE_2 t_20.2)
    refine va_get (D := (dC, dI)) (ci := 2) (v := .int (oI S_9 a2 1)) (C := RX2) (T := TX2) (N := 3) hx hb hts in_wsX10_standing_X2 hown hK hP q_21 hq_21 rfl 1 (by decide) (hts (.fieldLink RX10 418 "ShipOffice$Fine" "sum" "I") iw_X10_standing_2) (fun _ h9 => h9) rfl dX10_standing_31 ?_
    refine lv_topi (fun x_22 ex_22 => ?_)
    have hx_22 : 1 ≤ x_22.toInt ∧ x_22.toInt ≤ 9999 := iv_of ex_22 (by omega)
    have gx_22 : x_22.toInt = (oI S_9 a2 1).toInt := iv_to ex_22
    clear ex_22
    refine lv_iload hx hb dX10_standing_34 (lv_at hl 0 rfl) ?_
    refine va_mmin hx hb (by rw [hml]; exact hl.1.symm) hown (hts (.methodLink RX10 378 Lib.Math.min.name) iw_X10_standing_4) (hts (.static Lib.Math.min.name) iw_X10_standing_5) (hts (.initialized "java/lang/Math") iw_X10_standing_6) (hts (.code Lib.Math.min.name Lib.Math.min.code 2 (some .int)) (by decide +kernel)) (Nat.le_of_ble_eq_true rfl) (Nat.le_of_ble_eq_true rfl) (Nat.le_of_ble_eq_true rfl) (Nat.le_of_ble_eq_true rfl) dX10_standing_36 ?_
    refine lv_topi (fun x_23 ex_23 => ?_)
    have hx_23 := mmin_i ex_23
    clear ex_23
    refine va_mmax hx hb (by rw [hml]; exact hl.1.symm) hown (hts (.methodLink RX10 383 Lib.Math.max.name) iw_X10_standing_7) (hts (.static Lib.Math.max.name) iw_X10_standing_8) (hts (.initialized "java/lang/Math") iw_X10_standing_6) (hts (.code Lib.Math.max.name Lib.Math.max.code 2 (some .int)) (by decide +kernel)) (Nat.le_of_ble_eq_true rfl) (Nat.le_of_ble_eq_true rfl) (Nat.le_of_ble_eq_true rfl) (Nat.le_of_ble_eq_true rfl) dX10_standing_39 ?_
    refine lv_topi (fun x_24 ex_24 => ?_)
    have hx_24 := mmax_i ex_24
    clear ex_24
    exact W.iret (v := x_24) hx hb hr (fun t ht hW => ⟨⟨x_24, S_9, rfl, ⟨hIS_9, X_11, (by have eD : x_2 = fa 33 jf := Int32.toInt_inj.mp (by omega); have eS : x_3 = fa 34 jf := Int32.toInt_inj.mp (by omega); have eR : (0 : Int32) = rdI (fa 37 jf) := (if_pos (Int32.toInt_inj.mp (by rw [show (0 : Int32).toInt = 0 from (by decide)]; omega))).symm; have hw9 := hx_10; rw [eD, eS, show (1 : Int32).toInt = 1 from (by decide)] at hw9; have hi9 : r_8.toInt = stW v fa a jf x3.toInt := (by unfold stW; rw [← eR]; exact congrArg Int32.toInt hw9); have k0 : (0 : Int32).toInt = 0 := (by decide); unfold stV; (repeat (first | rw [if_pos (by omega)] | rw [if_neg (by omega)])); omega)⟩, ⟨by rw [ht]; exact hP, va_K.moved hW.alike hK, hD⟩⟩, hS.F ht⟩) hS.2.2 dX10_standing_42
  · have dc_5 := c_ne (a := x_4.toInt) (b := 0) rfl (by decide) c_5
    refine lv_iconst (v := 1) hx hb dX10_standing_19 (by decide) ?_
    refine lv_goto (tgt := 24) hx hb dX10_standing_20 (by decide) ?_
    have hFc := o_free hD hS hA
    obtain ⟨q_25, hq_25⟩ := og (cq := cq) to.1 (oE_10 to.2)
    refine va_calli (va_runV (As := [.int 1, .ref a1, .int x_2, .int x3, .int x_3, .int 1]) (rest := []) ⟨hx, hb, hml, hown, hts⟩ (c_X10_worthFor_c l dC dI s.heap.size cq Z gI o to 1 (by decide) a1 ta1 x_2 (by omega) x3 (by omega) x_3 1 v fa hR (by omega) (by decide) (by omega) a ha ea) (cwV 6 hts gX10_standing_X10_worthFor rfl rfl rfl (by decide +kernel) ⟨(Nat.le_of_ble_eq_true rfl), (Nat.le_of_ble_eq_true rfl)⟩) (pr_V (r := (RX10, TX10, 16)) hP hK hD q_25 10 rfl hq_25) rfl rfl hl.1 rfl (lv_room (Nat.le_of_ble_eq_true rfl)) dX10_standing_24 ⟨(Nat.le_of_ble_eq_true rfl), (Nat.le_of_ble_eq_true rfl)⟩) hS (fun q _ h => hFc q h) hFc (fun r_27 u t H locs ht hvm w_26 hB hz1 hk1 hS => ?_)
    obtain ⟨S_28, rfl⟩ : ∃ z, z = u := ⟨_, rfl⟩
    obtain ⟨hP1, hK1, hD1⟩ := hB
    rw [ht] at hP1
    have hP : va_P (dC, dI) vwCl (oW cq S_28) H := hP1
    have hD : va_D A (oW cq S_28) := hD1.weaken (fun _ _ _ h => hFc _ h)
    clear hP1 hK1 hD1 hk1 hz1 hvm ht hFc
    obtain ⟨hIS_28, XS_28, hx_29⟩ := w_26
    have X_30 : oX [2108, 5001] Z S_28 := oX.st oX.rf XS_28 (by decide)
    have g_31 : (oI S_28 a1 4).toInt = (oI Z a1 4).toInt := by rw [oX.i XS_28 ta1 (by decide)]
    have g_32 : (oI S_28 a1 11).toInt = (oI Z a1 11).toInt := by rw [oX.i XS_28 ta1 (by decide)]
    have g_33 : (oI S_28 a2 0).toInt = (oI Z a2 0).toInt := by rw [oX.i XS_28 ta2 (by decide)]
    have g_34 : (oI S_28 a2 1).toInt = (oI Z a2 1).toInt := by rw [oX.i XS_28 ta2 (by decide)]
    have g_35 : (oI S_28 a2 2).toInt = (oI Z a2 2).toInt := by rw [oX.i XS_28 ta2 (by decide)]
    have pk_36 : oP S_28 a1 0 = some ama1 := by rw [oX.p XS_28 ta1 (by decide)]; exact fm3a1
    have pk_37 : oP S_28 a1 1 = some ava1 := by rw [oX.p XS_28 ta1 (by decide)]; exact fv3a1
    have pk_38 : oP S_28 o 8 = some lw := by rw [oX.p XS_28 to (by decide)]; exact hlw0
    refine lv_istore (lv' := [(4, .int r_27), (0, .ref o), (1, .ref a1), (2, .ref a2), (3, .int x3)]) hx hb dX10_standing_27 hl (by decide) rfl (fun ls hl => ?_)
    refine lv_iconst (v := 0) hx hb dX10_standing_29 (by decide) ?_
    refine lv_aload_n hx hb dX10_standing_30 rfl (lv_at hl 3 rfl) ?_
    have t_39 : oty S_28 a2 2 := (oX.ty XS_28 ta2)
    obtain ⟨q_40, hq_40⟩ := og (cq := cq) t_39.1 (oE_2 t_39.2)
    refine va_get (D := (dC, dI)) (ci := 2) (v := .int (oI S_28 a2 1)) (C := RX2) (T := TX2) (N := 3) hx hb hts in_wsX10_standing_X2 hown hK hP q_40 hq_40 rfl 1 (by decide) (hts (.fieldLink RX10 418 "ShipOffice$Fine" "sum" "I") iw_X10_standing_2) (fun _ h9 => h9) rfl dX10_standing_31 ?_
    refine lv_topi (fun x_41 ex_41 => ?_)
    have hx_41 : 1 ≤ x_41.toInt ∧ x_41.toInt ≤ 9999 := iv_of ex_41 (by omega)
    have gx_41 : x_41.toInt = (oI S_28 a2 1).toInt := iv_to ex_41
    clear ex_41
    refine lv_iload hx hb dX10_standing_34 (lv_at hl 0 rfl) ?_
    refine va_mmin hx hb (by rw [hml]; exact hl.1.symm) hown (hts (.methodLink RX10 378 Lib.Math.min.name) iw_X10_standing_4) (hts (.static Lib.Math.min.name) iw_X10_standing_5) (hts (.initialized "java/lang/Math") iw_X10_standing_6) (hts (.code Lib.Math.min.name Lib.Math.min.code 2 (some .int)) (by decide +kernel)) (Nat.le_of_ble_eq_true rfl) (Nat.le_of_ble_eq_true rfl) (Nat.le_of_ble_eq_true rfl) (Nat.le_of_ble_eq_true rfl) dX10_standing_36 ?_
    refine lv_topi (fun x_42 ex_42 => ?_)
    have hx_42 := mmin_i ex_42
    clear ex_42
    refine va_mmax hx hb (by rw [hml]; exact hl.1.symm) hown (hts (.methodLink RX10 383 Lib.Math.max.name) iw_X10_standing_7) (hts (.static Lib.Math.max.name) iw_X10_standing_8) (hts (.initialized "java/lang/Math") iw_X10_standing_6) (hts (.code Lib.Math.max.name Lib.Math.max.code 2 (some .int)) (by decide +kernel)) (Nat.le_of_ble_eq_true rfl) (Nat.le_of_ble_eq_true rfl) (Nat.le_of_ble_eq_true rfl) (Nat.le_of_ble_eq_true rfl) dX10_standing_39 ?_
    refine lv_topi (fun x_43 ex_43 => ?_)
    have hx_43 := mmax_i ex_43
    clear ex_43
    exact W.iret (v := x_43) hx hb hr (fun t ht hW => ⟨⟨x_43, S_28, rfl, ⟨hIS_28, X_30, (by have eD : x_2 = fa 33 jf := Int32.toInt_inj.mp (by omega); have eS : x_3 = fa 34 jf := Int32.toInt_inj.mp (by omega); have eR : (1 : Int32) = rdI (fa 37 jf) := (if_neg (fun q => by have q2 := congrArg Int32.toInt q; rw [show (0 : Int32).toInt = 0 from (by decide)] at q2; omega)).symm; have hw9 := hx_29; rw [eD, eS, show (1 : Int32).toInt = 1 from (by decide)] at hw9; have hi9 : r_27.toInt = stW v fa a jf x3.toInt := (by unfold stW; rw [← eR]; exact congrArg Int32.toInt hw9); have k0 : (0 : Int32).toInt = 0 := (by decide); unfold stV; (repeat (first | rw [if_pos (by omega)] | rw [if_neg (by omega)])); omega)⟩, ⟨by rw [ht]; exact hP, va_K.moved hW.alike hK, hD⟩⟩, hS.F ht⟩) hS.2.2 dX10_standing_42
