


set_option maxHeartbeats 4000000 in
set_option maxRecDepth 100000 in
theorem c_X10_worthFor_c (l : Launch) (dC : Nat → ClassId) (dI : Nat → Nat → Nat) (sz : Nat) (cq : Nat → ClassId) (Z : oS) (gI : oInv Z) (o : Nat) (to : oty Z o 10) (x1 : Int32) (hx1 : 0 ≤ x1.toInt ∧ x1.toInt ≤ 4) (a2 : Nat) (ta2 : oty Z a2 1) (x3 : Int32) (hx3 : 0 ≤ x3.toInt ∧ x3.toInt ≤ 3000) (x4 : Int32) (hx4 : 0 ≤ x4.toInt ∧ x4.toInt ≤ 3000) (x5 : Int32) (x6 : Int32) (v : Nat → Int32) (fa : Nat → Nat → Int32) (hR : RC Z o v fa) (hs5 : -1000000000 ≤ x5.toInt ∧ x5.toInt ≤ 1000000000) (hs6 : -1000000000 ≤ x6.toInt ∧ x6.toInt ≤ 1000000000) (hjk : x3.toInt ≤ x4.toInt) (a : Nat) (ha : a < (v 43).toNatClampNeg) (ea : a2 = agA Z o a) : Met l yX10_worthFor wsX10_worthFor ({ frames := 3, cells := 0, slots := 0, locals := 79 }) (va_Pc [.ref o, .int x1, .ref a2, .int x3, .int x4, .int x5, .int x6] (pcW (dC, dI) (oT cq) (oW cq Z) sz)) (va_Qi (fun (r : Int32) (u : oS) => oInv u ∧ oX [2108, 5001] Z u ∧ (r = wrt v fa x1.toInt x3.toInt (lP v fa a x3 x4.toInt x5 x6))) (fun u t => va_P (dC, dI) vwCl (oW cq u) t.heap ∧ va_K (dC, dI) vwCl (oT cq) t ∧ va_D (va_A (oW cq Z) sz) (oW cq u)) (va_A (oW cq Z) sz)) 0 0 (va_A (oW cq Z) sz) := by
  refine Met.ofW (cc := cX10_worthFor) (maxL := 8) (ret := (some .int)) (by decide) rfl ?_
  intro p e s m args below meth c s₁ B hml hv
  obtain ⟨rfl, hsz, hP, hK, hD0⟩ := hv
  have hx := B.exec
  have hb := B.bytes
  have hr := B.returns
  have hts := atoms_spec (ws := wsX10_worthFor) B.pre
  have hown : s.vm.findClass RX10 = some m.cls := findClass_of_methodNamed B.named
  have hlocks := B.notSynchronized
  subst hsz
  have hD := hD0.self (sz := s.heap.size)
  generalize hAe : va_A (oW cq Z) s.heap.size = A at hD ⊢
  have hA : ∀ q : Nat, s.heap.size ≤ q → A q := fun q h => by rw [← hAe]; exact Or.inr h
  have hS : va_S A s.heap s.heap [] := va_S.rf
  have hP : va_P (dC, dI) vwCl (oW cq Z) s.heap := hP
  have hl := lv_entry ([.ref o, .int x1, .ref a2, .int x3, .int x4, .int x5, .int x6]) (n := 8) (Nat.le_of_ble_eq_true rfl)
  rw [lg_entry_eq]
  generalize (lg_sl ([.ref o, .int x1, .ref a2, .int x3, .int x4, .int x5, .int x6]) ++ List.replicate (8 - (lg_sl ([.ref o, .int x1, .ref a2, .int x3, .int x4, .int x5, .int x6])).length) Slot.unset).toArray = ls at hl ⊢
  have hl : lv_has ls 8 [(0, .ref o), (1, .int x1), (2, .ref a2), (3, .int x3), (4, .int x4), (5, .int x5), (6, .int x6)] := hl
  obtain ⟨fn0, fn1, fn2, fn3, fn4⟩ := RC.n hR
  have fb38 : 0 ≤ (v 38).toInt ∧ (v 38).toInt ≤ 3000 := RC.V hR 38
  have fb39 : 0 ≤ (v 39).toInt ∧ (v 39).toInt ≤ 40 := RC.V hR 39
  have fb40 : 0 ≤ (v 40).toInt ∧ (v 40).toInt ≤ 20 := RC.V hR 40
  have fb43 : 0 ≤ (v 43).toInt ∧ (v 43).toInt ≤ 60 := RC.V hR 43
  have fb41 : 0 ≤ (v 41).toInt ∧ (v 41).toInt ≤ 200 := RC.V hR 41
  have fAa2 := RC.a hR ha
  rw [← ea] at fAa2
  obtain ⟨⟨fm1a2, fm2a2, fm3a2⟩, ⟨fv1a2, fv2a2, fv3a2⟩, fsia2, fppa2, fwga2, frka2, fofa2, fdea2, fcha2⟩ := fAa2
  have fBa2 : 0 ≤ (fa 25 a).toInt ∧ (fa 25 a).toInt ≤ 3000 := RC.A hR 25 _
  have lama2 : (fa 20 a).toNatClampNeg < (v 39).toNatClampNeg := ni_lt fm1a2 fm2a2
  have nama2 : (((fa 20 a).toNatClampNeg : Nat) : Int) = (fa 20 a).toInt := tn_i fm1a2
  obtain ⟨ama2, eama2⟩ : ∃ z, z = mnA Z o (fa 20 a).toNatClampNeg := ⟨_, rfl⟩
  rw [← eama2] at fm3a2
  have tama2 : oty Z ama2 6 := by rw [eama2]; exact (RC.tm hR gI to lama2).2
  have fMama2 := RC.m hR lama2
  rw [← eama2] at fMama2
  obtain ⟨fz0ama2, fz1ama2, fz2ama2, fz3ama2⟩ := fMama2
  rw [nama2] at fz0ama2
  have lava2 : (fa 21 a).toNatClampNeg < (v 40).toNatClampNeg := ni_lt fv1a2 fv2a2
  have nava2 : (((fa 21 a).toNatClampNeg : Nat) : Int) = (fa 21 a).toInt := tn_i fv1a2
  obtain ⟨ava2, eava2⟩ : ∃ z, z = voA Z o (fa 21 a).toNatClampNeg := ⟨_, rfl⟩
  rw [← eava2] at fv3a2
  have tava2 : oty Z ava2 9 := by rw [eava2]; exact (RC.tv hR gI to lava2).2
  have fVava2 := RC.vo hR lava2
  rw [← eava2] at fVava2
  obtain ⟨fy0ava2, fy1ava2, fy2ava2, fy3ava2, fy4ava2, fySava2, fyLava2, fyhava2⟩ := fVava2
  have fBava2 : 0 ≤ (fa 7 ((fa 21 a).toNatClampNeg)).toInt ∧ (fa 7 ((fa 21 a).toNatClampNeg)).toInt ≤ 3000 := RC.A hR 7 _
  have fSava2 := onc_i fySava2
  have fLava2 := onc_i fyLava2
  rw [nava2] at fy0ava2 fSava2 fLava2
  obtain ⟨lw, hlw0⟩ := oInv.nn (i := 8) gI to rfl
  have tlw : oty Z lw 5 := oInv.rd gI to.2 hlw0 rfl rfl
  have hLr : rLw Z lw v fa := by have q := RC.l hR; rw [oQ_e hlw0] at q; exact q
  obtain ⟨lt, hlt0⟩ := oInv.nn (i := 12) gI to rfl
  have tlt : oty Z lt 108 := oInv.rd gI to.2 hlt0 rfl rfl
  refine lv_aload_n hx hb dX10_worthFor_0 rfl (lv_at hl 0 rfl) ?_
  obtain ⟨q_1, hq_1⟩ := og (cq := cq) to.1 (oE_10 to.2)
  refine va_get (D := (dC, dI)) (ci := 10) (v := .ref lw) (C := RX10) (T := TX10) (N := 16) hx hb hts in_wsX10_worthFor_X10 hown hK hP q_1 hq_1 rfl 8 (by decide) (hts (.fieldLink RX10 30 "ShipOffice" "law" "LShipOffice$Law;") iw_X10_worthFor_1) (fun _ h9 => h9) (o_rd hlw0) dX10_worthFor_1 ?_
  refine lv_iload_n hx hb dX10_worthFor_4 rfl (lv_at hl 1 rfl) ?_
  refine lv_iload_n hx hb dX10_worthFor_5 rfl (lv_at hl 3 rfl) ?_
  have hFc : ∀ q, va_A [] s.heap.size q → A q := pu_free hS hA
  obtain ⟨q_2, hq_2⟩ := og (cq := cq) tlw.1 (oE_5 tlw.2)
  refine va_callq (va_runV (As := [.int x1, .int x3]) (rest := []) ⟨hx, hb, hml, hown, hts⟩ (c_X5_inForce_c l dC dI s.heap.size cq Z gI lw tlw x1 (by omega) x3 v fa hLr) (cwV 2 hts gX10_worthFor_X5_inForce rfl rfl rfl (by decide +kernel) ⟨(Nat.le_of_ble_eq_true rfl), (Nat.le_of_ble_eq_true rfl)⟩) (pr_V (r := (RX5, TX5, 3)) hP hK hD q_2 5 rfl hq_2) rfl rfl hl.1 rfl (lv_room (Nat.le_of_ble_eq_true rfl)) dX10_worthFor_6 ⟨(Nat.le_of_ble_eq_true rfl), (Nat.le_of_ble_eq_true rfl)⟩) hS (fun q _ h => hFc q h) hFc (fun r_4 u t H locs ht hvm w_3 hB hz1 hk1 hS => ?_)
  have hP := pu_keep hP hk1
  clear hk1 hz1 hvm hB ht hFc
  obtain ⟨hk_5, hx_6⟩ := w_3
  obtain ⟨b_7, rfl, tb_7⟩ := hk_5
  refine W.eq (g2 := F0 m 9 ls [.ref b_7]) rfl ?_
  obtain ⟨Ew, hCw, hXw⟩ := actW (b := b_7) (p := x1.toInt) (d := x3.toInt) (R := (lP v fa a x3 x4.toInt x5 x6)) (L := lO (lP v fa a x3 x4.toInt x5 x6)) hLr (Option.some.inj hx_6) (by omega) eqO_l (ok_lP hR (a := a) ha (by omega) hs5 hs6)
  refine lv_astore (lv' := [(7, .ref b_7), (0, .ref o), (1, .int x1), (2, .ref a2), (3, .int x3), (4, .int x4), (5, .int x5), (6, .int x6)]) hx hb dX10_worthFor_9 hl (by decide) rfl (fun ls hl => ?_)
  refine lv_aload_n hx hb dX10_worthFor_11 rfl (lv_at hl 1 rfl) ?_
  refine va_get (D := (dC, dI)) (ci := 10) (v := .ref lt) (C := RX10) (T := TX10) (N := 16) hx hb hts in_wsX10_worthFor_X10 hown hK hP q_1 hq_1 rfl 12 (by decide) (hts (.fieldLink RX10 59 "ShipOffice" "letters" "[I") iw_X10_worthFor_2) (fun _ h9 => h9) (o_rd hlt0) dX10_worthFor_12 ?_
  refine lv_iconst (v := 0) hx hb dX10_worthFor_15 (by decide) ?_
  refine lv_aload_n hx hb dX10_worthFor_16 rfl (lv_at hl 3 rfl) ?_
  obtain ⟨q_8, hq_8⟩ := og (cq := cq) ta2.1 (oE_1 ta2.2)
  refine va_get (D := (dC, dI)) (ci := 1) (v := .int (oI Z a2 4)) (C := RX1) (T := TX1) (N := 18) hx hb hts in_wsX10_worthFor_X1 hown hK hP q_8 hq_8 rfl 4 (by decide) (hts (.fieldLink RX10 223 "ShipOffice$Agreement" "wage" "I") iw_X10_worthFor_3) (fun _ h9 => h9) rfl dX10_worthFor_17 ?_
  refine lv_topi (fun x_9 ex_9 => ?_)
  have gx_9 : x_9.toInt = (oI Z a2 4).toInt := iv_to ex_9
  clear ex_9
  obtain ⟨q_10, hq_10⟩ := og (cq := cq) tlt.1 (oE_a1 (n := 8) tlt.2 (by decide))
  refine va_iast hx hb hK hP hD hS q_10 0 hq_10 rfl (by unfold vp_in; decide) dX10_worthFor_20 (fun H locs hP1 hD1 hS => ?_)
  obtain ⟨S_11, eS_11⟩ : ∃ zq, zq = setI Z lt (0 : Int32).toNatClampNeg x_9 := ⟨_, rfl⟩
  have hP : va_P (dC, dI) vwCl (oW cq S_11) H := by rw [eS_11]; exact cP (oset tlt.1 hq_10 hD rfl (he_a1 (n := 8) tlt.2 (by decide)) neI) hP1
  have hD : va_D A (oW cq S_11) := by rw [eS_11]; exact cD (oset tlt.1 hq_10 hD rfl (he_a1 (n := 8) tlt.2 (by decide)) neI) hD1
  clear hP1 hD1
  have hIS_11 : oInv S_11 := by rw [eS_11]; exact oInv.A (k := 108) gI tlt.2 (by decide)
  have XS_11 : oX [2108] Z S_11 := by rw [eS_11]; exact oX.I (k := 108) (key := 2108) tlt.2 rfl (List.mem_singleton.mpr rfl)
  have pk_12 : oP S_11 a2 0 = some ama2 := by rw [eS_11]; exact fm3a2
  have pk_13 : oP S_11 a2 1 = some ava2 := by rw [eS_11]; exact fv3a2
  have pk_14 : oP S_11 o 8 = some lw := by rw [eS_11]; exact hlw0
  have pk_15 : oP S_11 o 12 = some lt := by rw [eS_11]; exact hlt0
  have X_16 : oX [2108, 5001] Z S_11 := oX.st oX.rf XS_11 (by decide)
  have g_17 : (oI S_11 a2 4).toInt = (oI Z a2 4).toInt := by rw [eS_11, setI_oth (ty_ne ta2 tlt (by decide))]
  have g_18 : (oI S_11 a2 5).toInt = (oI Z a2 5).toInt := by rw [eS_11, setI_oth (ty_ne ta2 tlt (by decide))]
  refine lv_aload_n hx hb dX10_worthFor_21 rfl (lv_at hl 1 rfl) ?_
  have t_19 : oty S_11 o 10 := (oX.ty XS_11 to)
  obtain ⟨q_20, hq_20⟩ := og (cq := cq) t_19.1 (oE_10 t_19.2)
  refine va_get (D := (dC, dI)) (ci := 10) (v := .ref lt) (C := RX10) (T := TX10) (N := 16) hx hb hts in_wsX10_worthFor_X10 hown hK hP q_20 hq_20 rfl 12 (by decide) (hts (.fieldLink RX10 59 "ShipOffice" "letters" "[I") iw_X10_worthFor_2) (fun _ h9 => h9) (o_rd pk_15) dX10_worthFor_22 ?_
  refine lv_iconst (v := 1) hx hb dX10_worthFor_25 (by decide) ?_
  refine lv_aload_n hx hb dX10_worthFor_26 rfl (lv_at hl 3 rfl) ?_
  have t_21 : oty S_11 a2 1 := (oX.ty XS_11 ta2)
  obtain ⟨q_22, hq_22⟩ := og (cq := cq) t_21.1 (oE_1 t_21.2)
  refine va_get (D := (dC, dI)) (ci := 1) (v := .int (oI S_11 a2 5)) (C := RX1) (T := TX1) (N := 18) hx hb hts in_wsX10_worthFor_X1 hown hK hP q_22 hq_22 rfl 5 (by decide) (hts (.fieldLink RX10 226 "ShipOffice$Agreement" "rank" "I") iw_X10_worthFor_4) (fun _ h9 => h9) rfl dX10_worthFor_27 ?_
  refine lv_topi (fun x_23 ex_23 => ?_)
  have gx_23 : x_23.toInt = (oI S_11 a2 5).toInt := iv_to ex_23
  clear ex_23
  have t_24 : oty S_11 lt 108 := (oX.ty XS_11 tlt)
  obtain ⟨q_25, hq_25⟩ := og (cq := cq) t_24.1 (oE_a1 (n := 8) t_24.2 (by decide))
  refine va_iast hx hb hK hP hD hS q_25 0 hq_25 rfl (by unfold vp_in; decide) dX10_worthFor_30 (fun H locs hP1 hD1 hS => ?_)
  obtain ⟨S_26, eS_26⟩ : ∃ zq, zq = setI S_11 lt (1 : Int32).toNatClampNeg x_23 := ⟨_, rfl⟩
  have hP : va_P (dC, dI) vwCl (oW cq S_26) H := by rw [eS_26]; exact cP (oset t_24.1 hq_25 hD rfl (he_a1 (n := 8) t_24.2 (by decide)) neI) hP1
  have hD : va_D A (oW cq S_26) := by rw [eS_26]; exact cD (oset t_24.1 hq_25 hD rfl (he_a1 (n := 8) t_24.2 (by decide)) neI) hD1
  clear hP1 hD1
  have hIS_26 : oInv S_26 := by rw [eS_26]; exact oInv.A (k := 108) hIS_11 t_24.2 (by decide)
  have XS_26 : oX [2108] S_11 S_26 := by rw [eS_26]; exact oX.I (k := 108) (key := 2108) t_24.2 rfl (List.mem_singleton.mpr rfl)
  have pk_27 : oP S_26 a2 0 = some ama2 := by rw [eS_26]; exact pk_12
  have pk_28 : oP S_26 a2 1 = some ava2 := by rw [eS_26]; exact pk_13
  have pk_29 : oP S_26 o 8 = some lw := by rw [eS_26]; exact pk_14
  have pk_30 : oP S_26 o 12 = some lt := by rw [eS_26]; exact pk_15
  have X_31 : oX [2108, 5001] Z S_26 := oX.st X_16 XS_26 (by decide)
  have g_32 : (oI S_26 a2 4).toInt = (oI S_11 a2 4).toInt := by rw [eS_26, setI_oth (ty_ne t_21 t_24 (by decide))]
  have g_33 : (oI S_26 a2 5).toInt = (oI S_11 a2 5).toInt := by rw [eS_26, setI_oth (ty_ne t_21 t_24 (by decide))]
  refine lv_aload_n hx hb dX10_worthFor_31 rfl (lv_at hl 1 rfl) ?_
  have t_34 : oty S_26 o 10 := (oX.ty XS_26 t_19)
  obtain ⟨q_35, hq_35⟩ := og (cq := cq) t_34.1 (oE_10 t_34.2)
  refine va_get (D := (dC, dI)) (ci := 10) (v := .ref lt) (C := RX10) (T := TX10) (N := 16) hx hb hts in_wsX10_worthFor_X10 hown hK hP q_35 hq_35 rfl 12 (by decide) (hts (.fieldLink RX10 59 "ShipOffice" "letters" "[I") iw_X10_worthFor_2) (fun _ h9 => h9) (o_rd pk_30) dX10_worthFor_32 ?_
  refine lv_iconst (v := 2) hx hb dX10_worthFor_35 (by decide) ?_
  refine lv_aload_n hx hb dX10_worthFor_36 rfl (lv_at hl 3 rfl) ?_
  have t_36 : oty S_26 a2 1 := (oX.ty XS_26 t_21)
  obtain ⟨q_37, hq_37⟩ := og (cq := cq) t_36.1 (oE_1 t_36.2)
  refine va_get (D := (dC, dI)) (ci := 1) (v := .ref ama2) (C := RX1) (T := TX1) (N := 18) hx hb hts in_wsX10_worthFor_X1 hown hK hP q_37 hq_37 rfl 0 (by decide) (hts (.fieldLink RX10 299 "ShipOffice$Agreement" "man" "LShipOffice$Man;") iw_X10_worthFor_5) (fun _ h9 => h9) (o_rd pk_27) dX10_worthFor_37 ?_
  refine lv_iload_n hx hb dX10_worthFor_40 rfl (lv_at hl 4 rfl) ?_
  have t_38 : oty S_26 ama2 6 := (oX.ty XS_26 (oX.ty XS_11 tama2))
  have hFc : ∀ q, va_A [] H.size q → A q := pu_free hS hA
  obtain ⟨q_39, hq_39⟩ := og (cq := cq) t_38.1 (oE_6 t_38.2)
  refine va_calli (va_runV (As := [.int x3]) (rest := [.int 2, .ref lt]) ⟨hx, hb, hml, hown, hts⟩ (c_X6_yearsOn_c l dC dI H.size cq S_26 hIS_26 ama2 t_38 x3) (cwV 1 hts gX10_worthFor_X6_yearsOn rfl rfl rfl (by decide +kernel) ⟨(Nat.le_of_ble_eq_true rfl), (Nat.le_of_ble_eq_true rfl)⟩) (pr_V (r := (RX6, TX6, 6)) hP hK hD q_39 6 rfl hq_39) rfl rfl hl.1 rfl (lv_room (Nat.le_of_ble_eq_true rfl)) dX10_worthFor_41 ⟨(Nat.le_of_ble_eq_true rfl), (Nat.le_of_ble_eq_true rfl)⟩) hS (fun q _ h => hFc q h) hFc (fun r_41 u t H locs ht hvm w_40 hB hz1 hk1 hS => ?_)
  have hP := pu_keep hP hk1
  clear hk1 hz1 hvm hB ht hFc
  have hx_42 := w_40
  have t_43 : oty S_26 lt 108 := (oX.ty XS_26 t_24)
  obtain ⟨q_44, hq_44⟩ := og (cq := cq) t_43.1 (oE_a1 (n := 8) t_43.2 (by decide))
  refine va_iast hx hb hK hP hD hS q_44 0 hq_44 rfl (by unfold vp_in; decide) dX10_worthFor_44 (fun H locs hP1 hD1 hS => ?_)
  obtain ⟨S_45, eS_45⟩ : ∃ zq, zq = setI S_26 lt (2 : Int32).toNatClampNeg r_41 := ⟨_, rfl⟩
  have hP : va_P (dC, dI) vwCl (oW cq S_45) H := by rw [eS_45]; exact cP (oset t_43.1 hq_44 hD rfl (he_a1 (n := 8) t_43.2 (by decide)) neI) hP1
  have hD : va_D A (oW cq S_45) := by rw [eS_45]; exact cD (oset t_43.1 hq_44 hD rfl (he_a1 (n := 8) t_43.2 (by decide)) neI) hD1
  clear hP1 hD1
  have hIS_45 : oInv S_45 := by rw [eS_45]; exact oInv.A (k := 108) hIS_26 t_43.2 (by decide)
  have XS_45 : oX [2108] S_26 S_45 := by rw [eS_45]; exact oX.I (k := 108) (key := 2108) t_43.2 rfl (List.mem_singleton.mpr rfl)
  have pk_46 : oP S_45 a2 0 = some ama2 := by rw [eS_45]; exact pk_27
  have pk_47 : oP S_45 a2 1 = some ava2 := by rw [eS_45]; exact pk_28
  have pk_48 : oP S_45 o 8 = some lw := by rw [eS_45]; exact pk_29
  have pk_49 : oP S_45 o 12 = some lt := by rw [eS_45]; exact pk_30
  have X_50 : oX [2108, 5001] Z S_45 := oX.st X_31 XS_45 (by decide)
  have g_51 : (oI S_45 a2 4).toInt = (oI S_26 a2 4).toInt := by rw [eS_45, setI_oth (ty_ne t_36 t_43 (by decide))]
  have g_52 : (oI S_45 a2 5).toInt = (oI S_26 a2 5).toInt := by rw [eS_45, setI_oth (ty_ne t_36 t_43 (by decide))]
  refine lv_aload_n hx hb dX10_worthFor_45 rfl (lv_at hl 1 rfl) ?_
  have t_53 : oty S_45 o 10 := (oX.ty XS_45 t_34)
  obtain ⟨q_54, hq_54⟩ := og (cq := cq) t_53.1 (oE_10 t_53.2)
  refine va_get (D := (dC, dI)) (ci := 10) (v := .ref lt) (C := RX10) (T := TX10) (N := 16) hx hb hts in_wsX10_worthFor_X10 hown hK hP q_54 hq_54 rfl 12 (by decide) (hts (.fieldLink RX10 59 "ShipOffice" "letters" "[I") iw_X10_worthFor_2) (fun _ h9 => h9) (o_rd pk_49) dX10_worthFor_46 ?_
  refine lv_iconst (v := 3) hx hb dX10_worthFor_49 (by decide) ?_
  refine lv_aload hx hb dX10_worthFor_50 (lv_at hl 0 rfl) ?_
  refine lv_iconst (v := 3) hx hb dX10_worthFor_52 (by decide) ?_
  have hC_55 := rCd_o (W := [2108]) (oX.st (oX.st (oX.st oX.rf XS_11 (by decide)) XS_26 (by decide)) XS_45 (by decide)) tb_7 (by decide) (by decide) (by decide) hCw
  obtain ⟨hlwk_56, cdk_56, skk_56, cak_56, tck_56, cbk_56, tkk_56, hEk_56⟩ := hC_55
  have t_57 : oty S_45 b_7 0 := (oX.ty XS_45 (oX.ty XS_26 (oX.ty XS_11 tb_7)))
  have hFc : ∀ q, va_A [] H.size q → A q := pu_free hS hA
  obtain ⟨q_58, hq_58⟩ := og (cq := cq) t_57.1 (oE_0 t_57.2)
  refine va_calli (va_runV (As := [.int 3]) (rest := [.int 3, .ref lt]) ⟨hx, hb, hml, hown, hts⟩ (c_X0_uses_c l dC dI H.size cq S_45 hIS_45 b_7 t_57 3 (by decide) cdk_56 Ew.length cak_56 hlwk_56 tck_56 Ew rfl hEk_56) (cwV 1 hts gX10_worthFor_X0_uses rfl rfl rfl (by decide +kernel) ⟨(Nat.le_of_ble_eq_true rfl), (Nat.le_of_ble_eq_true rfl)⟩) (pr_V (r := (RX0, TX0, 5)) hP hK hD q_58 0 rfl hq_58) rfl rfl hl.1 rfl (lv_room (Nat.le_of_ble_eq_true rfl)) dX10_worthFor_53 ⟨(Nat.le_of_ble_eq_true rfl), (Nat.le_of_ble_eq_true rfl)⟩) hS (fun q _ h => hFc q h) hFc (fun r_60 u t H locs ht hvm w_59 hB hz1 hk1 hS => ?_)
  have hP := pu_keep hP hk1
  clear hk1 hz1 hvm hB ht hFc
  obtain ⟨hb_61, hx_62⟩ := w_59
  refine lv_if_eq (tgt := 74) hx hb dX10_worthFor_56 (by decide) (fun c_63 => ?_) (fun c_63 => ?_)
  · have dc_63 := c_eq (a := r_60.toInt) (b := 0) rfl (by decide) c_63
    refine lv_iconst (v := 0) hx hb dX10_worthFor_74 (by decide) ?_
    have t_64 : oty S_45 lt 108 := (oX.ty XS_45 t_43)
    obtain ⟨q_65, hq_65⟩ := og (cq := cq) t_64.1 (oE_a1 (n := 8) t_64.2 (by decide))
    refine va_iast hx hb hK hP hD hS q_65 0 hq_65 rfl (by unfold vp_in; decide) dX10_worthFor_75 (fun H locs hP1 hD1 hS => ?_)
    obtain ⟨S_66, eS_66⟩ : ∃ zq, zq = setI S_45 lt (3 : Int32).toNatClampNeg 0 := ⟨_, rfl⟩
    have hP : va_P (dC, dI) vwCl (oW cq S_66) H := by rw [eS_66]; exact cP (oset t_64.1 hq_65 hD rfl (he_a1 (n := 8) t_64.2 (by decide)) neI) hP1
    have hD : va_D A (oW cq S_66) := by rw [eS_66]; exact cD (oset t_64.1 hq_65 hD rfl (he_a1 (n := 8) t_64.2 (by decide)) neI) hD1
    clear hP1 hD1
    have hIS_66 : oInv S_66 := by rw [eS_66]; exact oInv.A (k := 108) hIS_45 t_64.2 (by decide)
    have XS_66 : oX [2108] S_45 S_66 := by rw [eS_66]; exact oX.I (k := 108) (key := 2108) t_64.2 rfl (List.mem_singleton.mpr rfl)
    have pk_67 : oP S_66 a2 0 = some ama2 := by rw [eS_66]; exact pk_46
    have pk_68 : oP S_66 a2 1 = some ava2 := by rw [eS_66]; exact pk_47
    have pk_69 : oP S_66 o 8 = some lw := by rw [eS_66]; exact pk_48
    have pk_70 : oP S_66 o 12 = some lt := by rw [eS_66]; exact pk_49
    have X_71 : oX [2108, 5001] Z S_66 := oX.st X_50 XS_66 (by decide)
    have g_72 : (oI S_66 a2 4).toInt = (oI S_45 a2 4).toInt := by rw [eS_66, setI_oth (ty_ne (oX.ty XS_45 t_36) t_64 (by decide))]
    have g_73 : (oI S_66 a2 5).toInt = (oI S_45 a2 5).toInt := by rw [eS_66, setI_oth (ty_ne (oX.ty XS_45 t_36) t_64 (by decide))]
    refine lv_aload_n hx hb dX10_worthFor_76 rfl (lv_at hl 1 rfl) ?_
    have t_74 : oty S_66 o 10 := (oX.ty XS_66 t_53)
    obtain ⟨q_75, hq_75⟩ := og (cq := cq) t_74.1 (oE_10 t_74.2)
    refine va_get (D := (dC, dI)) (ci := 10) (v := .ref lt) (C := RX10) (T := TX10) (N := 16) hx hb hts in_wsX10_worthFor_X10 hown hK hP q_75 hq_75 rfl 12 (by decide) (hts (.fieldLink RX10 59 "ShipOffice" "letters" "[I") iw_X10_worthFor_2) (fun _ h9 => h9) (o_rd pk_70) dX10_worthFor_77 ?_
    refine lv_iconst (v := 4) hx hb dX10_worthFor_80 (by decide) ?_
    refine lv_aload hx hb dX10_worthFor_81 (lv_at hl 0 rfl) ?_
    refine lv_iconst (v := 4) hx hb dX10_worthFor_83 (by decide) ?_
    have hC_76 := rCd_o (W := [2108]) (oX.st (oX.st (oX.st (oX.st oX.rf XS_11 (by decide)) XS_26 (by decide)) XS_45 (by decide)) XS_66 (by decide)) tb_7 (by decide) (by decide) (by decide) hCw
    obtain ⟨hlwk_77, cdk_77, skk_77, cak_77, tck_77, cbk_77, tkk_77, hEk_77⟩ := hC_76
    have t_78 : oty S_66 b_7 0 := (oX.ty XS_66 t_57)
    have hFc : ∀ q, va_A [] H.size q → A q := pu_free hS hA
    obtain ⟨q_79, hq_79⟩ := og (cq := cq) t_78.1 (oE_0 t_78.2)
    refine va_calli (va_runV (As := [.int 4]) (rest := [.int 4, .ref lt]) ⟨hx, hb, hml, hown, hts⟩ (c_X0_uses_c l dC dI H.size cq S_66 hIS_66 b_7 t_78 4 (by decide) cdk_77 Ew.length cak_77 hlwk_77 tck_77 Ew rfl hEk_77) (cwV 1 hts gX10_worthFor_X0_uses rfl rfl rfl (by decide +kernel) ⟨(Nat.le_of_ble_eq_true rfl), (Nat.le_of_ble_eq_true rfl)⟩) (pr_V (r := (RX0, TX0, 5)) hP hK hD q_79 0 rfl hq_79) rfl rfl hl.1 rfl (lv_room (Nat.le_of_ble_eq_true rfl)) dX10_worthFor_84 ⟨(Nat.le_of_ble_eq_true rfl), (Nat.le_of_ble_eq_true rfl)⟩) hS (fun q _ h => hFc q h) hFc (fun r_81 u t H locs ht hvm w_80 hB hz1 hk1 hS => ?_)
    have hP := pu_keep hP hk1
    clear hk1 hz1 hvm hB ht hFc
    obtain ⟨hb_82, hx_83⟩ := w_80
    refine lv_if_eq (tgt := 104) hx hb dX10_worthFor_87 (by decide) (fun c_84 => ?_) (fun c_84 => ?_)
    · have dc_84 := c_eq (a := r_81.toInt) (b := 0) rfl (by decide) c_84
      refine lv_iconst (v := 0) hx hb dX10_worthFor_104 (by decide) ?_
      have t_85 : oty S_66 lt 108 := (oX.ty XS_66 t_64)
      obtain ⟨q_86, hq_86⟩ := og (cq := cq) t_85.1 (oE_a1 (n := 8) t_85.2 (by decide))
      refine va_iast hx hb hK hP hD hS q_86 0 hq_86 rfl (by unfold vp_in; decide) dX10_worthFor_105 (fun H locs hP1 hD1 hS => ?_)
      obtain ⟨S_87, eS_87⟩ : ∃ zq, zq = setI S_66 lt (4 : Int32).toNatClampNeg 0 := ⟨_, rfl⟩
      have hP : va_P (dC, dI) vwCl (oW cq S_87) H := by rw [eS_87]; exact cP (oset t_85.1 hq_86 hD rfl (he_a1 (n := 8) t_85.2 (by decide)) neI) hP1
      have hD : va_D A (oW cq S_87) := by rw [eS_87]; exact cD (oset t_85.1 hq_86 hD rfl (he_a1 (n := 8) t_85.2 (by decide)) neI) hD1
      clear hP1 hD1
      have hIS_87 : oInv S_87 := by rw [eS_87]; exact oInv.A (k := 108) hIS_66 t_85.2 (by decide)
      have XS_87 : oX [2108] S_66 S_87 := by rw [eS_87]; exact oX.I (k := 108) (key := 2108) t_85.2 rfl (List.mem_singleton.mpr rfl)
      have pk_88 : oP S_87 a2 0 = some ama2 := by rw [eS_87]; exact pk_67
      have pk_89 : oP S_87 a2 1 = some ava2 := by rw [eS_87]; exact pk_68
      have pk_90 : oP S_87 o 8 = some lw := by rw [eS_87]; exact pk_69
      have pk_91 : oP S_87 o 12 = some lt := by rw [eS_87]; exact pk_70
      have X_92 : oX [2108, 5001] Z S_87 := oX.st X_71 XS_87 (by decide)
      have g_93 : (oI S_87 a2 4).toInt = (oI S_66 a2 4).toInt := by rw [eS_87, setI_oth (ty_ne (oX.ty XS_66 (oX.ty XS_45 t_36)) t_85 (by decide))]
      have g_94 : (oI S_87 a2 5).toInt = (oI S_66 a2 5).toInt := by rw [eS_87, setI_oth (ty_ne (oX.ty XS_66 (oX.ty XS_45 t_36)) t_85 (by decide))]
      refine lv_aload_n hx hb dX10_worthFor_106 rfl (lv_at hl 1 rfl) ?_
      have t_95 : oty S_87 o 10 := (oX.ty XS_87 t_74)
      obtain ⟨q_96, hq_96⟩ := og (cq := cq) t_95.1 (oE_10 t_95.2)
      refine va_get (D := (dC, dI)) (ci := 10) (v := .ref lt) (C := RX10) (T := TX10) (N := 16) hx hb hts in_wsX10_worthFor_X10 hown hK hP q_96 hq_96 rfl 12 (by decide) (hts (.fieldLink RX10 59 "ShipOffice" "letters" "[I") iw_X10_worthFor_2) (fun _ h9 => h9) (o_rd pk_91) dX10_worthFor_107 ?_
      refine lv_iconst (v := 5) hx hb dX10_worthFor_110 (by decide) ?_
      refine lv_iload hx hb dX10_worthFor_111 (lv_at hl 6 rfl) ?_
      have t_97 : oty S_87 lt 108 := (oX.ty XS_87 t_85)
      obtain ⟨q_98, hq_98⟩ := og (cq := cq) t_97.1 (oE_a1 (n := 8) t_97.2 (by decide))
      refine va_iast hx hb hK hP hD hS q_98 0 hq_98 rfl (by unfold vp_in; decide) dX10_worthFor_113 (fun H locs hP1 hD1 hS => ?_)
      obtain ⟨S_99, eS_99⟩ : ∃ zq, zq = setI S_87 lt (5 : Int32).toNatClampNeg x5 := ⟨_, rfl⟩
      have hP : va_P (dC, dI) vwCl (oW cq S_99) H := by rw [eS_99]; exact cP (oset t_97.1 hq_98 hD rfl (he_a1 (n := 8) t_97.2 (by decide)) neI) hP1
      have hD : va_D A (oW cq S_99) := by rw [eS_99]; exact cD (oset t_97.1 hq_98 hD rfl (he_a1 (n := 8) t_97.2 (by decide)) neI) hD1
      clear hP1 hD1
      have hIS_99 : oInv S_99 := by rw [eS_99]; exact oInv.A (k := 108) hIS_87 t_97.2 (by decide)
      have XS_99 : oX [2108] S_87 S_99 := by rw [eS_99]; exact oX.I (k := 108) (key := 2108) t_97.2 rfl (List.mem_singleton.mpr rfl)
      have pk_100 : oP S_99 a2 0 = some ama2 := by rw [eS_99]; exact pk_88
      have pk_101 : oP S_99 a2 1 = some ava2 := by rw [eS_99]; exact pk_89
      have pk_102 : oP S_99 o 8 = some lw := by rw [eS_99]; exact pk_90
      have pk_103 : oP S_99 o 12 = some lt := by rw [eS_99]; exact pk_91
      have X_104 : oX [2108, 5001] Z S_99 := oX.st X_92 XS_99 (by decide)
      have g_105 : (oI S_99 a2 4).toInt = (oI S_87 a2 4).toInt := by rw [eS_99, setI_oth (ty_ne (oX.ty XS_87 (oX.ty XS_66 (oX.ty XS_45 t_36))) t_97 (by decide))]
      have g_106 : (oI S_99 a2 5).toInt = (oI S_87 a2 5).toInt := by rw [eS_99, setI_oth (ty_ne (oX.ty XS_87 (oX.ty XS_66 (oX.ty XS_45 t_36))) t_97 (by decide))]
      refine lv_aload_n hx hb dX10_worthFor_114 rfl (lv_at hl 1 rfl) ?_
      have t_107 : oty S_99 o 10 := (oX.ty XS_99 t_95)
      obtain ⟨q_108, hq_108⟩ := og (cq := cq) t_107.1 (oE_10 t_107.2)
      refine va_get (D := (dC, dI)) (ci := 10) (v := .ref lt) (C := RX10) (T := TX10) (N := 16) hx hb hts in_wsX10_worthFor_X10 hown hK hP q_108 hq_108 rfl 12 (by decide) (hts (.fieldLink RX10 59 "ShipOffice" "letters" "[I") iw_X10_worthFor_2) (fun _ h9 => h9) (o_rd pk_103) dX10_worthFor_115 ?_
      refine lv_bipush (v := 6) hx hb dX10_worthFor_118 (by decide) ?_
      refine lv_aload_n hx hb dX10_worthFor_120 rfl (lv_at hl 3 rfl) ?_
      have t_109 : oty S_99 a2 1 := (oX.ty XS_99 (oX.ty XS_87 (oX.ty XS_66 (oX.ty XS_45 t_36))))
      obtain ⟨q_110, hq_110⟩ := og (cq := cq) t_109.1 (oE_1 t_109.2)
      refine va_get (D := (dC, dI)) (ci := 1) (v := .ref ava2) (C := RX1) (T := TX1) (N := 18) hx hb hts in_wsX10_worthFor_X1 hown hK hP q_110 hq_110 rfl 1 (by decide) (hts (.fieldLink RX10 118 "ShipOffice$Agreement" "voyage" "LShipOffice$Voyage;") iw_X10_worthFor_6) (fun _ h9 => h9) (o_rd pk_101) dX10_worthFor_121 ?_
      refine lv_iload_n hx hb dX10_worthFor_124 rfl (lv_at hl 4 rfl) ?_
      refine lv_iload hx hb dX10_worthFor_125 (lv_at hl 5 rfl) ?_
      have t_111 : oty S_99 ava2 9 := (oX.ty XS_99 (oX.ty XS_87 (oX.ty XS_66 (oX.ty XS_45 (oX.ty XS_26 (oX.ty XS_11 tava2))))))
      have hR_112 : RC S_99 o v fa := RC_o (W := [2108]) (oX.st (oX.st (oX.st (oX.st (oX.st (oX.st oX.rf XS_11 (by decide)) XS_26 (by decide)) XS_45 (by decide)) XS_66 (by decide)) XS_87 (by decide)) XS_99 (by decide)) gI to (by decide) hR
      have hFc : ∀ q, va_A [] H.size q → A q := pu_free hS hA
      obtain ⟨q_113, hq_113⟩ := og (cq := cq) t_111.1 (oE_9 t_111.2)
      refine va_calli (va_runV (As := [.int x3, .int x4]) (rest := [.int 6, .ref lt]) ⟨hx, hb, hml, hown, hts⟩ (c_X9_daysUnheard_c l dC dI H.size cq S_99 hIS_99 ava2 t_111 x3 (by omega) x4 o t_107 v fa hR_112 ((fa 21 a).toNatClampNeg) lava2 (eava2.trans (voA_o (W := [2108]) (oX.st (oX.st (oX.st (oX.st (oX.st (oX.st oX.rf XS_11 (by decide)) XS_26 (by decide)) XS_45 (by decide)) XS_66 (by decide)) XS_87 (by decide)) XS_99 (by decide)) gI to (by decide) (by decide) _).symm) (by omega)) (cwV 2 hts gX10_worthFor_X9_daysUnheard rfl rfl rfl (by decide +kernel) ⟨(Nat.le_of_ble_eq_true rfl), (Nat.le_of_ble_eq_true rfl)⟩) (pr_V (r := (RX9, TX9, 10)) hP hK hD q_113 9 rfl hq_113) rfl rfl hl.1 rfl (lv_room (Nat.le_of_ble_eq_true rfl)) dX10_worthFor_127 ⟨(Nat.le_of_ble_eq_true rfl), (Nat.le_of_ble_eq_true rfl)⟩) hS (fun q _ h => hFc q h) hFc (fun r_115 u t H locs ht hvm w_114 hB hz1 hk1 hS => ?_)
      have hP := pu_keep hP hk1
      clear hk1 hz1 hvm hB ht hFc
      obtain ⟨hb_116, hx_117⟩ := w_114
      have t_118 : oty S_99 lt 108 := (oX.ty XS_99 t_97)
      obtain ⟨q_119, hq_119⟩ := og (cq := cq) t_118.1 (oE_a1 (n := 8) t_118.2 (by decide))
      refine va_iast hx hb hK hP hD hS q_119 0 hq_119 rfl (by unfold vp_in; decide) dX10_worthFor_130 (fun H locs hP1 hD1 hS => ?_)
      obtain ⟨S_120, eS_120⟩ : ∃ zq, zq = setI S_99 lt (6 : Int32).toNatClampNeg r_115 := ⟨_, rfl⟩
      have hP : va_P (dC, dI) vwCl (oW cq S_120) H := by rw [eS_120]; exact cP (oset t_118.1 hq_119 hD rfl (he_a1 (n := 8) t_118.2 (by decide)) neI) hP1
      have hD : va_D A (oW cq S_120) := by rw [eS_120]; exact cD (oset t_118.1 hq_119 hD rfl (he_a1 (n := 8) t_118.2 (by decide)) neI) hD1
      clear hP1 hD1
      have hIS_120 : oInv S_120 := by rw [eS_120]; exact oInv.A (k := 108) hIS_99 t_118.2 (by decide)
      have XS_120 : oX [2108] S_99 S_120 := by rw [eS_120]; exact oX.I (k := 108) (key := 2108) t_118.2 rfl (List.mem_singleton.mpr rfl)
      have pk_121 : oP S_120 a2 0 = some ama2 := by rw [eS_120]; exact pk_100
      have pk_122 : oP S_120 a2 1 = some ava2 := by rw [eS_120]; exact pk_101
      have pk_123 : oP S_120 o 8 = some lw := by rw [eS_120]; exact pk_102
      have pk_124 : oP S_120 o 12 = some lt := by rw [eS_120]; exact pk_103
      have X_125 : oX [2108, 5001] Z S_120 := oX.st X_104 XS_120 (by decide)
      have g_126 : (oI S_120 a2 4).toInt = (oI S_99 a2 4).toInt := by rw [eS_120, setI_oth (ty_ne t_109 t_118 (by decide))]
      have g_127 : (oI S_120 a2 5).toInt = (oI S_99 a2 5).toInt := by rw [eS_120, setI_oth (ty_ne t_109 t_118 (by decide))]
      refine lv_aload_n hx hb dX10_worthFor_131 rfl (lv_at hl 1 rfl) ?_
      have t_128 : oty S_120 o 10 := (oX.ty XS_120 t_107)
      obtain ⟨q_129, hq_129⟩ := og (cq := cq) t_128.1 (oE_10 t_128.2)
      refine va_get (D := (dC, dI)) (ci := 10) (v := .ref lt) (C := RX10) (T := TX10) (N := 16) hx hb hts in_wsX10_worthFor_X10 hown hK hP q_129 hq_129 rfl 12 (by decide) (hts (.fieldLink RX10 59 "ShipOffice" "letters" "[I") iw_X10_worthFor_2) (fun _ h9 => h9) (o_rd pk_124) dX10_worthFor_132 ?_
      refine lv_bipush (v := 7) hx hb dX10_worthFor_135 (by decide) ?_
      refine lv_iload hx hb dX10_worthFor_137 (lv_at hl 7 rfl) ?_
      have t_130 : oty S_120 lt 108 := (oX.ty XS_120 t_118)
      obtain ⟨q_131, hq_131⟩ := og (cq := cq) t_130.1 (oE_a1 (n := 8) t_130.2 (by decide))
      refine va_iast hx hb hK hP hD hS q_131 0 hq_131 rfl (by unfold vp_in; decide) dX10_worthFor_139 (fun H locs hP1 hD1 hS => ?_)
      obtain ⟨S_132, eS_132⟩ : ∃ zq, zq = setI S_120 lt (7 : Int32).toNatClampNeg x6 := ⟨_, rfl⟩
      have hP : va_P (dC, dI) vwCl (oW cq S_132) H := by rw [eS_132]; exact cP (oset t_130.1 hq_131 hD rfl (he_a1 (n := 8) t_130.2 (by decide)) neI) hP1
      have hD : va_D A (oW cq S_132) := by rw [eS_132]; exact cD (oset t_130.1 hq_131 hD rfl (he_a1 (n := 8) t_130.2 (by decide)) neI) hD1
      clear hP1 hD1
      have hIS_132 : oInv S_132 := by rw [eS_132]; exact oInv.A (k := 108) hIS_120 t_130.2 (by decide)
      have XS_132 : oX [2108] S_120 S_132 := by rw [eS_132]; exact oX.I (k := 108) (key := 2108) t_130.2 rfl (List.mem_singleton.mpr rfl)
      have pk_133 : oP S_132 a2 0 = some ama2 := by rw [eS_132]; exact pk_121
      have pk_134 : oP S_132 a2 1 = some ava2 := by rw [eS_132]; exact pk_122
      have pk_135 : oP S_132 o 8 = some lw := by rw [eS_132]; exact pk_123
      have pk_136 : oP S_132 o 12 = some lt := by rw [eS_132]; exact pk_124
      have X_137 : oX [2108, 5001] Z S_132 := oX.st X_125 XS_132 (by decide)
      have g_138 : (oI S_132 a2 4).toInt = (oI S_120 a2 4).toInt := by rw [eS_132, setI_oth (ty_ne (oX.ty XS_120 t_109) t_130 (by decide))]
      have g_139 : (oI S_132 a2 5).toInt = (oI S_120 a2 5).toInt := by rw [eS_132, setI_oth (ty_ne (oX.ty XS_120 t_109) t_130 (by decide))]
      refine lv_aload hx hb dX10_worthFor_140 (lv_at hl 0 rfl) ?_
      refine lv_aload_n hx hb dX10_worthFor_142 rfl (lv_at hl 1 rfl) ?_
      have t_140 : oty S_132 o 10 := (oX.ty XS_132 t_128)
      obtain ⟨q_141, hq_141⟩ := og (cq := cq) t_140.1 (oE_10 t_140.2)
      refine va_get (D := (dC, dI)) (ci := 10) (v := .ref lt) (C := RX10) (T := TX10) (N := 16) hx hb hts in_wsX10_worthFor_X10 hown hK hP q_141 hq_141 rfl 12 (by decide) (hts (.fieldLink RX10 59 "ShipOffice" "letters" "[I") iw_X10_worthFor_2) (fun _ h9 => h9) (o_rd pk_136) dX10_worthFor_143 ?_
      have hC_142 := rCd_o (W := [2108]) (oX.st (oX.st (oX.st (oX.st (oX.st (oX.st (oX.st (oX.st oX.rf XS_11 (by decide)) XS_26 (by decide)) XS_45 (by decide)) XS_66 (by decide)) XS_87 (by decide)) XS_99 (by decide)) XS_120 (by decide)) XS_132 (by decide)) tb_7 (by decide) (by decide) (by decide) hCw
      obtain ⟨hlwk_143, cdk_143, skk_143, cak_143, tck_143, cbk_143, tkk_143, hEk_143⟩ := hC_142
      have t_144 : oty S_132 b_7 0 := (oX.ty XS_132 (oX.ty XS_120 (oX.ty XS_99 (oX.ty XS_87 t_78))))
      have t_145 : oty S_132 lt 108 := (oX.ty XS_132 t_130)
      have hFc := o_free hD hS hA
      obtain ⟨q_146, hq_146⟩ := og (cq := cq) t_144.1 (oE_0 t_144.2)
      refine va_calli (va_runV (As := [.ref lt]) (rest := []) ⟨hx, hb, hml, hown, hts⟩ (c_X0_worth_f l dC dI H.size cq S_132 hIS_132 b_7 t_144 lt t_145 cdk_143 skk_143 Ew.length cak_143 cbk_143 hlwk_143 tck_143 tkk_143 Ew rfl hEk_143) (cwV 1 hts gX10_worthFor_X0_worth rfl rfl rfl (by decide +kernel) ⟨(Nat.le_of_ble_eq_true rfl), (Nat.le_of_ble_eq_true rfl)⟩) (pr_V (r := (RX0, TX0, 5)) hP hK hD q_146 0 rfl hq_146) rfl rfl hl.1 rfl (lv_room (Nat.le_of_ble_eq_true rfl)) dX10_worthFor_146 ⟨(Nat.le_of_ble_eq_true rfl), (Nat.le_of_ble_eq_true rfl)⟩) hS (fun q _ h => hFc q h) hFc (fun r_148 u t H locs ht hvm w_147 hB hz1 hk1 hS => ?_)
      obtain ⟨S_149, rfl⟩ : ∃ z, z = u := ⟨_, rfl⟩
      obtain ⟨hP1, hK1, hD1⟩ := hB
      rw [ht] at hP1
      have hP : va_P (dC, dI) vwCl (oW cq S_149) H := hP1
      have hD : va_D A (oW cq S_149) := hD1.weaken (fun _ _ _ h => hFc _ h)
      clear hP1 hK1 hD1 hk1 hz1 hvm ht hFc
      obtain ⟨hIS_149, XS_149, hx_150⟩ := w_147
      have X_151 : oX [2108, 5001] Z S_149 := oX.st X_137 XS_149 (by decide)
      have g_152 : (oI S_149 a2 4).toInt = (oI S_132 a2 4).toInt := by rw [oX.i XS_149 (oX.ty XS_132 (oX.ty XS_120 t_109)) (by decide)]
      have g_153 : (oI S_149 a2 5).toInt = (oI S_132 a2 5).toInt := by rw [oX.i XS_149 (oX.ty XS_132 (oX.ty XS_120 t_109)) (by decide)]
      have pk_154 : oP S_149 a2 0 = some ama2 := by rw [oX.p XS_149 (oX.ty XS_132 (oX.ty XS_120 t_109)) (by decide)]; exact pk_133
      have pk_155 : oP S_149 a2 1 = some ava2 := by rw [oX.p XS_149 (oX.ty XS_132 (oX.ty XS_120 t_109)) (by decide)]; exact pk_134
      have pk_156 : oP S_149 o 8 = some lw := by rw [oX.p XS_149 t_140 (by decide)]; exact pk_135
      have pk_157 : oP S_149 o 12 = some lt := by rw [oX.p XS_149 t_140 (by decide)]; exact pk_136
      exact W.iret (v := r_148) hx hb hr (fun t ht hW => ⟨⟨r_148, S_149, rfl, ⟨hIS_149, X_151, (hx_150 _ (by have eL : oI S_132 lt = upd (upd (upd (upd (upd (upd (upd (upd (oI Z lt) 0 x_9) 1 x_23) 2 r_41) 3 0) 4 0) 5 x5) 6 r_115) 7 x6 := (by rw [eS_132, setI_fun, eS_120, setI_fun, eS_99, setI_fun, eS_87, setI_fun, eS_66, setI_fun, eS_45, setI_fun, eS_26, setI_fun, eS_11, setI_fun]; rfl); rw [eL]; have eP : (lP v fa a x3 x4.toInt x5 x6) = ltP x_9 x_23 r_41 (Int32.ofInt (dnF v fa a x3.toInt x4.toInt)) (Int32.ofInt (abF v fa (fa 21 a).toInt x3.toInt x4.toInt)) x5 r_115 x6 := (by unfold lP; exact ltP_c (Int32.toInt_inj.mp (by omega)) (Int32.toInt_inj.mp (by omega)) (Eq.symm (by rw [hx_42, (show oI S_26 ama2 3 = fa 4 (fa 20 a).toNatClampNeg from Int32.toInt_inj.mp (by rw [show oI S_26 ama2 3 = oI Z ama2 3 from oX.i (W := [2108]) (oX.st (oX.st oX.rf XS_11 (by decide)) XS_26 (by decide)) tama2 (by decide)]; omega))])) rfl rfl rfl (Eq.symm (of_i (by have q9 := hx_117; rw [nava2] at q9; unfold ulF; exact q9))) rfl); rw [wf_L (d := Int32.ofInt (dnF v fa a x3.toInt x4.toInt)) (n := Int32.ofInt (abF v fa (fa 21 a).toInt x3.toInt x4.toInt)) (Or.inr (hx_62 (by omega))) (Or.inr (hx_83 (by omega))), ← eP]; exact hXw))⟩, ⟨by rw [ht]; exact hP, va_K.moved hW.alike hK, hD⟩⟩, hS.F ht⟩) hS.2.2 dX10_worthFor_149
    · have dc_84 := c_ne (a := r_81.toInt) (b := 0) rfl (by decide) c_84
      refine lv_aload_n hx hb dX10_worthFor_90 rfl (lv_at hl 1 rfl) ?_
      refine lv_aload_n hx hb dX10_worthFor_91 rfl (lv_at hl 3 rfl) ?_
      have t_158 : oty S_66 a2 1 := (oX.ty XS_66 (oX.ty XS_45 t_36))
      obtain ⟨q_159, hq_159⟩ := og (cq := cq) t_158.1 (oE_1 t_158.2)
      refine va_get (D := (dC, dI)) (ci := 1) (v := .ref ava2) (C := RX1) (T := TX1) (N := 18) hx hb hts in_wsX10_worthFor_X1 hown hK hP q_159 hq_159 rfl 1 (by decide) (hts (.fieldLink RX10 118 "ShipOffice$Agreement" "voyage" "LShipOffice$Voyage;") iw_X10_worthFor_6) (fun _ h9 => h9) (o_rd pk_68) dX10_worthFor_92 ?_
      refine lv_iload_n hx hb dX10_worthFor_95 rfl (lv_at hl 4 rfl) ?_
      refine lv_iload hx hb dX10_worthFor_96 (lv_at hl 5 rfl) ?_
      have t_160 : oty S_66 ava2 9 := (oX.ty XS_66 (oX.ty XS_45 (oX.ty XS_26 (oX.ty XS_11 tava2))))
      have hR_161 : RC S_66 o v fa := RC_o (W := [2108]) (oX.st (oX.st (oX.st (oX.st oX.rf XS_11 (by decide)) XS_26 (by decide)) XS_45 (by decide)) XS_66 (by decide)) gI to (by decide) hR
      have hFc : ∀ q, va_A [] H.size q → A q := pu_free hS hA
      refine va_calli (va_runV (As := [.ref ava2, .int x3, .int x4]) (rest := [.int 4, .ref lt]) ⟨hx, hb, hml, hown, hts⟩ (c_X10_menAboard_c l dC dI H.size cq S_66 hIS_66 o t_74 ava2 t_160 x3 (by omega) x4 (by omega) v fa hR_161 (by omega) ((fa 21 a).toNatClampNeg) lava2 (eava2.trans (voA_o (W := [2108]) (oX.st (oX.st (oX.st (oX.st oX.rf XS_11 (by decide)) XS_26 (by decide)) XS_45 (by decide)) XS_66 (by decide)) gI to (by decide) (by decide) _).symm)) (cwV 3 hts gX10_worthFor_X10_menAboard rfl rfl rfl (by decide +kernel) ⟨(Nat.le_of_ble_eq_true rfl), (Nat.le_of_ble_eq_true rfl)⟩) (pr_V (r := (RX10, TX10, 16)) hP hK hD q_75 10 rfl hq_75) rfl rfl hl.1 rfl (lv_room (Nat.le_of_ble_eq_true rfl)) dX10_worthFor_98 ⟨(Nat.le_of_ble_eq_true rfl), (Nat.le_of_ble_eq_true rfl)⟩) hS (fun q _ h => hFc q h) hFc (fun r_163 u t H locs ht hvm w_162 hB hz1 hk1 hS => ?_)
      have hP := pu_keep hP hk1
      clear hk1 hz1 hvm hB ht hFc
      obtain ⟨hb_164, hx_165⟩ := w_162
      refine lv_goto (tgt := 105) hx hb dX10_worthFor_101 (by decide) ?_
      have t_166 : oty S_66 lt 108 := (oX.ty XS_66 t_64)
      obtain ⟨q_167, hq_167⟩ := og (cq := cq) t_166.1 (oE_a1 (n := 8) t_166.2 (by decide))
      refine va_iast hx hb hK hP hD hS q_167 0 hq_167 rfl (by unfold vp_in; decide) dX10_worthFor_105 (fun H locs hP1 hD1 hS => ?_)
      obtain ⟨S_168, eS_168⟩ : ∃ zq, zq = setI S_66 lt (4 : Int32).toNatClampNeg r_163 := ⟨_, rfl⟩
      have hP : va_P (dC, dI) vwCl (oW cq S_168) H := by rw [eS_168]; exact cP (oset t_166.1 hq_167 hD rfl (he_a1 (n := 8) t_166.2 (by decide)) neI) hP1
      have hD : va_D A (oW cq S_168) := by rw [eS_168]; exact cD (oset t_166.1 hq_167 hD rfl (he_a1 (n := 8) t_166.2 (by decide)) neI) hD1
      clear hP1 hD1
      have hIS_168 : oInv S_168 := by rw [eS_168]; exact oInv.A (k := 108) hIS_66 t_166.2 (by decide)
      have XS_168 : oX [2108] S_66 S_168 := by rw [eS_168]; exact oX.I (k := 108) (key := 2108) t_166.2 rfl (List.mem_singleton.mpr rfl)
      have pk_169 : oP S_168 a2 0 = some ama2 := by rw [eS_168]; exact pk_67
      have pk_170 : oP S_168 a2 1 = some ava2 := by rw [eS_168]; exact pk_68
      have pk_171 : oP S_168 o 8 = some lw := by rw [eS_168]; exact pk_69
      have pk_172 : oP S_168 o 12 = some lt := by rw [eS_168]; exact pk_70
      have X_173 : oX [2108, 5001] Z S_168 := oX.st X_71 XS_168 (by decide)
      have g_174 : (oI S_168 a2 4).toInt = (oI S_66 a2 4).toInt := by rw [eS_168, setI_oth (ty_ne t_158 t_166 (by decide))]
      have g_175 : (oI S_168 a2 5).toInt = (oI S_66 a2 5).toInt := by rw [eS_168, setI_oth (ty_ne t_158 t_166 (by decide))]
      refine lv_aload_n hx hb dX10_worthFor_106 rfl (lv_at hl 1 rfl) ?_
      have t_176 : oty S_168 o 10 := (oX.ty XS_168 t_74)
      obtain ⟨q_177, hq_177⟩ := og (cq := cq) t_176.1 (oE_10 t_176.2)
      refine va_get (D := (dC, dI)) (ci := 10) (v := .ref lt) (C := RX10) (T := TX10) (N := 16) hx hb hts in_wsX10_worthFor_X10 hown hK hP q_177 hq_177 rfl 12 (by decide) (hts (.fieldLink RX10 59 "ShipOffice" "letters" "[I") iw_X10_worthFor_2) (fun _ h9 => h9) (o_rd pk_172) dX10_worthFor_107 ?_
      refine lv_iconst (v := 5) hx hb dX10_worthFor_110 (by decide) ?_
      refine lv_iload hx hb dX10_worthFor_111 (lv_at hl 6 rfl) ?_
      have t_178 : oty S_168 lt 108 := (oX.ty XS_168 t_166)
      obtain ⟨q_179, hq_179⟩ := og (cq := cq) t_178.1 (oE_a1 (n := 8) t_178.2 (by decide))
      refine va_iast hx hb hK hP hD hS q_179 0 hq_179 rfl (by unfold vp_in; decide) dX10_worthFor_113 (fun H locs hP1 hD1 hS => ?_)
      obtain ⟨S_180, eS_180⟩ : ∃ zq, zq = setI S_168 lt (5 : Int32).toNatClampNeg x5 := ⟨_, rfl⟩
      have hP : va_P (dC, dI) vwCl (oW cq S_180) H := by rw [eS_180]; exact cP (oset t_178.1 hq_179 hD rfl (he_a1 (n := 8) t_178.2 (by decide)) neI) hP1
      have hD : va_D A (oW cq S_180) := by rw [eS_180]; exact cD (oset t_178.1 hq_179 hD rfl (he_a1 (n := 8) t_178.2 (by decide)) neI) hD1
      clear hP1 hD1
      have hIS_180 : oInv S_180 := by rw [eS_180]; exact oInv.A (k := 108) hIS_168 t_178.2 (by decide)
      have XS_180 : oX [2108] S_168 S_180 := by rw [eS_180]; exact oX.I (k := 108) (key := 2108) t_178.2 rfl (List.mem_singleton.mpr rfl)
      have pk_181 : oP S_180 a2 0 = some ama2 := by rw [eS_180]; exact pk_169
      have pk_182 : oP S_180 a2 1 = some ava2 := by rw [eS_180]; exact pk_170
      have pk_183 : oP S_180 o 8 = some lw := by rw [eS_180]; exact pk_171
      have pk_184 : oP S_180 o 12 = some lt := by rw [eS_180]; exact pk_172
      have X_185 : oX [2108, 5001] Z S_180 := oX.st X_173 XS_180 (by decide)
      have g_186 : (oI S_180 a2 4).toInt = (oI S_168 a2 4).toInt := by rw [eS_180, setI_oth (ty_ne (oX.ty XS_168 t_158) t_178 (by decide))]
      have g_187 : (oI S_180 a2 5).toInt = (oI S_168 a2 5).toInt := by rw [eS_180, setI_oth (ty_ne (oX.ty XS_168 t_158) t_178 (by decide))]
      refine lv_aload_n hx hb dX10_worthFor_114 rfl (lv_at hl 1 rfl) ?_
      have t_188 : oty S_180 o 10 := (oX.ty XS_180 t_176)
      obtain ⟨q_189, hq_189⟩ := og (cq := cq) t_188.1 (oE_10 t_188.2)
      refine va_get (D := (dC, dI)) (ci := 10) (v := .ref lt) (C := RX10) (T := TX10) (N := 16) hx hb hts in_wsX10_worthFor_X10 hown hK hP q_189 hq_189 rfl 12 (by decide) (hts (.fieldLink RX10 59 "ShipOffice" "letters" "[I") iw_X10_worthFor_2) (fun _ h9 => h9) (o_rd pk_184) dX10_worthFor_115 ?_
      refine lv_bipush (v := 6) hx hb dX10_worthFor_118 (by decide) ?_
      refine lv_aload_n hx hb dX10_worthFor_120 rfl (lv_at hl 3 rfl) ?_
      have t_190 : oty S_180 a2 1 := (oX.ty XS_180 (oX.ty XS_168 t_158))
      obtain ⟨q_191, hq_191⟩ := og (cq := cq) t_190.1 (oE_1 t_190.2)
      refine va_get (D := (dC, dI)) (ci := 1) (v := .ref ava2) (C := RX1) (T := TX1) (N := 18) hx hb hts in_wsX10_worthFor_X1 hown hK hP q_191 hq_191 rfl 1 (by decide) (hts (.fieldLink RX10 118 "ShipOffice$Agreement" "voyage" "LShipOffice$Voyage;") iw_X10_worthFor_6) (fun _ h9 => h9) (o_rd pk_182) dX10_worthFor_121 ?_
      refine lv_iload_n hx hb dX10_worthFor_124 rfl (lv_at hl 4 rfl) ?_
      refine lv_iload hx hb dX10_worthFor_125 (lv_at hl 5 rfl) ?_
      have t_192 : oty S_180 ava2 9 := (oX.ty XS_180 (oX.ty XS_168 t_160))
      have hR_193 : RC S_180 o v fa := RC_o (W := [2108]) (oX.st (oX.st (oX.st (oX.st (oX.st (oX.st oX.rf XS_11 (by decide)) XS_26 (by decide)) XS_45 (by decide)) XS_66 (by decide)) XS_168 (by decide)) XS_180 (by decide)) gI to (by decide) hR
      have hFc : ∀ q, va_A [] H.size q → A q := pu_free hS hA
      obtain ⟨q_194, hq_194⟩ := og (cq := cq) t_192.1 (oE_9 t_192.2)
      refine va_calli (va_runV (As := [.int x3, .int x4]) (rest := [.int 6, .ref lt]) ⟨hx, hb, hml, hown, hts⟩ (c_X9_daysUnheard_c l dC dI H.size cq S_180 hIS_180 ava2 t_192 x3 (by omega) x4 o t_188 v fa hR_193 ((fa 21 a).toNatClampNeg) lava2 (eava2.trans (voA_o (W := [2108]) (oX.st (oX.st (oX.st (oX.st (oX.st (oX.st oX.rf XS_11 (by decide)) XS_26 (by decide)) XS_45 (by decide)) XS_66 (by decide)) XS_168 (by decide)) XS_180 (by decide)) gI to (by decide) (by decide) _).symm) (by omega)) (cwV 2 hts gX10_worthFor_X9_daysUnheard rfl rfl rfl (by decide +kernel) ⟨(Nat.le_of_ble_eq_true rfl), (Nat.le_of_ble_eq_true rfl)⟩) (pr_V (r := (RX9, TX9, 10)) hP hK hD q_194 9 rfl hq_194) rfl rfl hl.1 rfl (lv_room (Nat.le_of_ble_eq_true rfl)) dX10_worthFor_127 ⟨(Nat.le_of_ble_eq_true rfl), (Nat.le_of_ble_eq_true rfl)⟩) hS (fun q _ h => hFc q h) hFc (fun r_196 u t H locs ht hvm w_195 hB hz1 hk1 hS => ?_)
      have hP := pu_keep hP hk1
      clear hk1 hz1 hvm hB ht hFc
      obtain ⟨hb_197, hx_198⟩ := w_195
      have t_199 : oty S_180 lt 108 := (oX.ty XS_180 t_178)
      obtain ⟨q_200, hq_200⟩ := og (cq := cq) t_199.1 (oE_a1 (n := 8) t_199.2 (by decide))
      refine va_iast hx hb hK hP hD hS q_200 0 hq_200 rfl (by unfold vp_in; decide) dX10_worthFor_130 (fun H locs hP1 hD1 hS => ?_)
      obtain ⟨S_201, eS_201⟩ : ∃ zq, zq = setI S_180 lt (6 : Int32).toNatClampNeg r_196 := ⟨_, rfl⟩
      have hP : va_P (dC, dI) vwCl (oW cq S_201) H := by rw [eS_201]; exact cP (oset t_199.1 hq_200 hD rfl (he_a1 (n := 8) t_199.2 (by decide)) neI) hP1
      have hD : va_D A (oW cq S_201) := by rw [eS_201]; exact cD (oset t_199.1 hq_200 hD rfl (he_a1 (n := 8) t_199.2 (by decide)) neI) hD1
      clear hP1 hD1
      have hIS_201 : oInv S_201 := by rw [eS_201]; exact oInv.A (k := 108) hIS_180 t_199.2 (by decide)
      have XS_201 : oX [2108] S_180 S_201 := by rw [eS_201]; exact oX.I (k := 108) (key := 2108) t_199.2 rfl (List.mem_singleton.mpr rfl)
      have pk_202 : oP S_201 a2 0 = some ama2 := by rw [eS_201]; exact pk_181
      have pk_203 : oP S_201 a2 1 = some ava2 := by rw [eS_201]; exact pk_182
      have pk_204 : oP S_201 o 8 = some lw := by rw [eS_201]; exact pk_183
      have pk_205 : oP S_201 o 12 = some lt := by rw [eS_201]; exact pk_184
      have X_206 : oX [2108, 5001] Z S_201 := oX.st X_185 XS_201 (by decide)
      have g_207 : (oI S_201 a2 4).toInt = (oI S_180 a2 4).toInt := by rw [eS_201, setI_oth (ty_ne t_190 t_199 (by decide))]
      have g_208 : (oI S_201 a2 5).toInt = (oI S_180 a2 5).toInt := by rw [eS_201, setI_oth (ty_ne t_190 t_199 (by decide))]
      refine lv_aload_n hx hb dX10_worthFor_131 rfl (lv_at hl 1 rfl) ?_
      have t_209 : oty S_201 o 10 := (oX.ty XS_201 t_188)
      obtain ⟨q_210, hq_210⟩ := og (cq := cq) t_209.1 (oE_10 t_209.2)
      refine va_get (D := (dC, dI)) (ci := 10) (v := .ref lt) (C := RX10) (T := TX10) (N := 16) hx hb hts in_wsX10_worthFor_X10 hown hK hP q_210 hq_210 rfl 12 (by decide) (hts (.fieldLink RX10 59 "ShipOffice" "letters" "[I") iw_X10_worthFor_2) (fun _ h9 => h9) (o_rd pk_205) dX10_worthFor_132 ?_
      refine lv_bipush (v := 7) hx hb dX10_worthFor_135 (by decide) ?_
      refine lv_iload hx hb dX10_worthFor_137 (lv_at hl 7 rfl) ?_
      have t_211 : oty S_201 lt 108 := (oX.ty XS_201 t_199)
      obtain ⟨q_212, hq_212⟩ := og (cq := cq) t_211.1 (oE_a1 (n := 8) t_211.2 (by decide))
      refine va_iast hx hb hK hP hD hS q_212 0 hq_212 rfl (by unfold vp_in; decide) dX10_worthFor_139 (fun H locs hP1 hD1 hS => ?_)
      obtain ⟨S_213, eS_213⟩ : ∃ zq, zq = setI S_201 lt (7 : Int32).toNatClampNeg x6 := ⟨_, rfl⟩
      have hP : va_P (dC, dI) vwCl (oW cq S_213) H := by rw [eS_213]; exact cP (oset t_211.1 hq_212 hD rfl (he_a1 (n := 8) t_211.2 (by decide)) neI) hP1
      have hD : va_D A (oW cq S_213) := by rw [eS_213]; exact cD (oset t_211.1 hq_212 hD rfl (he_a1 (n := 8) t_211.2 (by decide)) neI) hD1
      clear hP1 hD1
      have hIS_213 : oInv S_213 := by rw [eS_213]; exact oInv.A (k := 108) hIS_201 t_211.2 (by decide)
      have XS_213 : oX [2108] S_201 S_213 := by rw [eS_213]; exact oX.I (k := 108) (key := 2108) t_211.2 rfl (List.mem_singleton.mpr rfl)
      have pk_214 : oP S_213 a2 0 = some ama2 := by rw [eS_213]; exact pk_202
      have pk_215 : oP S_213 a2 1 = some ava2 := by rw [eS_213]; exact pk_203
      have pk_216 : oP S_213 o 8 = some lw := by rw [eS_213]; exact pk_204
      have pk_217 : oP S_213 o 12 = some lt := by rw [eS_213]; exact pk_205
      have X_218 : oX [2108, 5001] Z S_213 := oX.st X_206 XS_213 (by decide)
      have g_219 : (oI S_213 a2 4).toInt = (oI S_201 a2 4).toInt := by rw [eS_213, setI_oth (ty_ne (oX.ty XS_201 t_190) t_211 (by decide))]
      have g_220 : (oI S_213 a2 5).toInt = (oI S_201 a2 5).toInt := by rw [eS_213, setI_oth (ty_ne (oX.ty XS_201 t_190) t_211 (by decide))]
      refine lv_aload hx hb dX10_worthFor_140 (lv_at hl 0 rfl) ?_
      refine lv_aload_n hx hb dX10_worthFor_142 rfl (lv_at hl 1 rfl) ?_
      have t_221 : oty S_213 o 10 := (oX.ty XS_213 t_209)
      obtain ⟨q_222, hq_222⟩ := og (cq := cq) t_221.1 (oE_10 t_221.2)
      refine va_get (D := (dC, dI)) (ci := 10) (v := .ref lt) (C := RX10) (T := TX10) (N := 16) hx hb hts in_wsX10_worthFor_X10 hown hK hP q_222 hq_222 rfl 12 (by decide) (hts (.fieldLink RX10 59 "ShipOffice" "letters" "[I") iw_X10_worthFor_2) (fun _ h9 => h9) (o_rd pk_217) dX10_worthFor_143 ?_
      have hC_223 := rCd_o (W := [2108]) (oX.st (oX.st (oX.st (oX.st (oX.st (oX.st (oX.st (oX.st oX.rf XS_11 (by decide)) XS_26 (by decide)) XS_45 (by decide)) XS_66 (by decide)) XS_168 (by decide)) XS_180 (by decide)) XS_201 (by decide)) XS_213 (by decide)) tb_7 (by decide) (by decide) (by decide) hCw
      obtain ⟨hlwk_224, cdk_224, skk_224, cak_224, tck_224, cbk_224, tkk_224, hEk_224⟩ := hC_223
      have t_225 : oty S_213 b_7 0 := (oX.ty XS_213 (oX.ty XS_201 (oX.ty XS_180 (oX.ty XS_168 t_78))))
      have t_226 : oty S_213 lt 108 := (oX.ty XS_213 t_211)
      have hFc := o_free hD hS hA
      obtain ⟨q_227, hq_227⟩ := og (cq := cq) t_225.1 (oE_0 t_225.2)
      refine va_calli (va_runV (As := [.ref lt]) (rest := []) ⟨hx, hb, hml, hown, hts⟩ (c_X0_worth_f l dC dI H.size cq S_213 hIS_213 b_7 t_225 lt t_226 cdk_224 skk_224 Ew.length cak_224 cbk_224 hlwk_224 tck_224 tkk_224 Ew rfl hEk_224) (cwV 1 hts gX10_worthFor_X0_worth rfl rfl rfl (by decide +kernel) ⟨(Nat.le_of_ble_eq_true rfl), (Nat.le_of_ble_eq_true rfl)⟩) (pr_V (r := (RX0, TX0, 5)) hP hK hD q_227 0 rfl hq_227) rfl rfl hl.1 rfl (lv_room (Nat.le_of_ble_eq_true rfl)) dX10_worthFor_146 ⟨(Nat.le_of_ble_eq_true rfl), (Nat.le_of_ble_eq_true rfl)⟩) hS (fun q _ h => hFc q h) hFc (fun r_229 u t H locs ht hvm w_228 hB hz1 hk1 hS => ?_)
      obtain ⟨S_230, rfl⟩ : ∃ z, z = u := ⟨_, rfl⟩
      obtain ⟨hP1, hK1, hD1⟩ := hB
      rw [ht] at hP1
      have hP : va_P (dC, dI) vwCl (oW cq S_230) H := hP1
      have hD : va_D A (oW cq S_230) := hD1.weaken (fun _ _ _ h => hFc _ h)
      clear hP1 hK1 hD1 hk1 hz1 hvm ht hFc
      obtain ⟨hIS_230, XS_230, hx_231⟩ := w_228
      have X_232 : oX [2108, 5001] Z S_230 := oX.st X_218 XS_230 (by decide)
      have g_233 : (oI S_230 a2 4).toInt = (oI S_213 a2 4).toInt := by rw [oX.i XS_230 (oX.ty XS_213 (oX.ty XS_201 t_190)) (by decide)]
      have g_234 : (oI S_230 a2 5).toInt = (oI S_213 a2 5).toInt := by rw [oX.i XS_230 (oX.ty XS_213 (oX.ty XS_201 t_190)) (by decide)]
      have pk_235 : oP S_230 a2 0 = some ama2 := by rw [oX.p XS_230 (oX.ty XS_213 (oX.ty XS_201 t_190)) (by decide)]; exact pk_214
      have pk_236 : oP S_230 a2 1 = some ava2 := by rw [oX.p XS_230 (oX.ty XS_213 (oX.ty XS_201 t_190)) (by decide)]; exact pk_215
      have pk_237 : oP S_230 o 8 = some lw := by rw [oX.p XS_230 t_221 (by decide)]; exact pk_216
      have pk_238 : oP S_230 o 12 = some lt := by rw [oX.p XS_230 t_221 (by decide)]; exact pk_217
      exact W.iret (v := r_229) hx hb hr (fun t ht hW => ⟨⟨r_229, S_230, rfl, ⟨hIS_230, X_232, (hx_231 _ (by have eL : oI S_213 lt = upd (upd (upd (upd (upd (upd (upd (upd (oI Z lt) 0 x_9) 1 x_23) 2 r_41) 3 0) 4 r_163) 5 x5) 6 r_196) 7 x6 := (by rw [eS_213, setI_fun, eS_201, setI_fun, eS_180, setI_fun, eS_168, setI_fun, eS_66, setI_fun, eS_45, setI_fun, eS_26, setI_fun, eS_11, setI_fun]; rfl); rw [eL]; have eP : (lP v fa a x3 x4.toInt x5 x6) = ltP x_9 x_23 r_41 (Int32.ofInt (dnF v fa a x3.toInt x4.toInt)) (Int32.ofInt (abF v fa (fa 21 a).toInt x3.toInt x4.toInt)) x5 r_196 x6 := (by unfold lP; exact ltP_c (Int32.toInt_inj.mp (by omega)) (Int32.toInt_inj.mp (by omega)) (Eq.symm (by rw [hx_42, (show oI S_26 ama2 3 = fa 4 (fa 20 a).toNatClampNeg from Int32.toInt_inj.mp (by rw [show oI S_26 ama2 3 = oI Z ama2 3 from oX.i (W := [2108]) (oX.st (oX.st oX.rf XS_11 (by decide)) XS_26 (by decide)) tama2 (by decide)]; omega))])) rfl rfl rfl (Eq.symm (of_i (by have q9 := hx_198; rw [nava2] at q9; unfold ulF; exact q9))) rfl); rw [wf_L (d := Int32.ofInt (dnF v fa a x3.toInt x4.toInt)) (n := Int32.ofInt (abF v fa (fa 21 a).toInt x3.toInt x4.toInt)) (Or.inr (hx_62 (by omega))) (Or.inl (of_i (by have q9 := hx_165; rw [nava2] at q9; exact q9))), ← eP]; exact hXw))⟩, ⟨by rw [ht]; exact hP, va_K.moved hW.alike hK, hD⟩⟩, hS.F ht⟩) hS.2.2 dX10_worthFor_149
  · have dc_63 := c_ne (a := r_60.toInt) (b := 0) rfl (by decide) c_63
    refine lv_aload_n hx hb dX10_worthFor_59 rfl (lv_at hl 3 rfl) ?_
    refine lv_iconst (v := 2) hx hb dX10_worthFor_60 (by decide) ?_
    refine lv_iload_n hx hb dX10_worthFor_61 rfl (lv_at hl 4 rfl) ?_
    refine lv_iload hx hb dX10_worthFor_62 (lv_at hl 5 rfl) ?_
    refine lv_aload_n hx hb dX10_worthFor_64 rfl (lv_at hl 1 rfl) ?_
    refine va_get (D := (dC, dI)) (ci := 10) (v := .ref lw) (C := RX10) (T := TX10) (N := 16) hx hb hts in_wsX10_worthFor_X10 hown hK hP q_54 hq_54 rfl 8 (by decide) (hts (.fieldLink RX10 30 "ShipOffice" "law" "LShipOffice$Law;") iw_X10_worthFor_1) (fun _ h9 => h9) (o_rd pk_48) dX10_worthFor_65 ?_
    have t_239 : oty S_45 a2 1 := (oX.ty XS_45 t_36)
    have t_240 : oty S_45 lw 5 := (oX.ty XS_45 (oX.ty XS_26 (oX.ty XS_11 tlw)))
    have hR_241 : RC S_45 o v fa := RC_o (W := [2108]) (oX.st (oX.st (oX.st oX.rf XS_11 (by decide)) XS_26 (by decide)) XS_45 (by decide)) gI to (by decide) hR
    have hL_242 : rLw S_45 lw v fa := rLw_o (W := [2108]) (oX.st (oX.st (oX.st oX.rf XS_11 (by decide)) XS_26 (by decide)) XS_45 (by decide)) gI tlw (by decide) hLr
    have hFc : ∀ q, va_A [] H.size q → A q := pu_free hS hA
    obtain ⟨q_243, hq_243⟩ := og (cq := cq) t_239.1 (oE_1 t_239.2)
    refine va_calli (va_runV (As := [.int 2, .int x3, .int x4, .ref lw]) (rest := [.int 3, .ref lt]) ⟨hx, hb, hml, hown, hts⟩ (c_X1_daysIn_c l dC dI H.size cq S_45 hIS_45 a2 t_239 2 x3 x4 lw t_240 o t_53 v fa hR_241 a ha (ea.trans (agA_o (W := [2108]) (oX.st (oX.st (oX.st oX.rf XS_11 (by decide)) XS_26 (by decide)) XS_45 (by decide)) gI to (by decide) (by decide) _).symm) hL_242 (by first | exact Or.inl (by decide) | exact Or.inr (by decide) | omega) (by omega)) (cwV 4 hts gX10_worthFor_X1_daysIn rfl rfl rfl (by decide +kernel) ⟨(Nat.le_of_ble_eq_true rfl), (Nat.le_of_ble_eq_true rfl)⟩) (pr_V (r := (RX1, TX1, 18)) hP hK hD q_243 1 rfl hq_243) rfl rfl hl.1 rfl (lv_room (Nat.le_of_ble_eq_true rfl)) dX10_worthFor_68 ⟨(Nat.le_of_ble_eq_true rfl), (Nat.le_of_ble_eq_true rfl)⟩) hS (fun q _ h => hFc q h) hFc (fun r_245 u t H locs ht hvm w_244 hB hz1 hk1 hS => ?_)
    have hP := pu_keep hP hk1
    clear hk1 hz1 hvm hB ht hFc
    obtain ⟨hb_246, hx_247⟩ := w_244
    refine lv_goto (tgt := 75) hx hb dX10_worthFor_71 (by decide) ?_
    have t_248 : oty S_45 lt 108 := (oX.ty XS_45 t_43)
    obtain ⟨q_249, hq_249⟩ := og (cq := cq) t_248.1 (oE_a1 (n := 8) t_248.2 (by decide))
    refine va_iast hx hb hK hP hD hS q_249 0 hq_249 rfl (by unfold vp_in; decide) dX10_worthFor_75 (fun H locs hP1 hD1 hS => ?_)
    obtain ⟨S_250, eS_250⟩ : ∃ zq, zq = setI S_45 lt (3 : Int32).toNatClampNeg r_245 := ⟨_, rfl⟩
    have hP : va_P (dC, dI) vwCl (oW cq S_250) H := by rw [eS_250]; exact cP (oset t_248.1 hq_249 hD rfl (he_a1 (n := 8) t_248.2 (by decide)) neI) hP1
    have hD : va_D A (oW cq S_250) := by rw [eS_250]; exact cD (oset t_248.1 hq_249 hD rfl (he_a1 (n := 8) t_248.2 (by decide)) neI) hD1
    clear hP1 hD1
    have hIS_250 : oInv S_250 := by rw [eS_250]; exact oInv.A (k := 108) hIS_45 t_248.2 (by decide)
    have XS_250 : oX [2108] S_45 S_250 := by rw [eS_250]; exact oX.I (k := 108) (key := 2108) t_248.2 rfl (List.mem_singleton.mpr rfl)
    have pk_251 : oP S_250 a2 0 = some ama2 := by rw [eS_250]; exact pk_46
    have pk_252 : oP S_250 a2 1 = some ava2 := by rw [eS_250]; exact pk_47
    have pk_253 : oP S_250 o 8 = some lw := by rw [eS_250]; exact pk_48
    have pk_254 : oP S_250 o 12 = some lt := by rw [eS_250]; exact pk_49
    have X_255 : oX [2108, 5001] Z S_250 := oX.st X_50 XS_250 (by decide)
    have g_256 : (oI S_250 a2 4).toInt = (oI S_45 a2 4).toInt := by rw [eS_250, setI_oth (ty_ne t_239 t_248 (by decide))]
    have g_257 : (oI S_250 a2 5).toInt = (oI S_45 a2 5).toInt := by rw [eS_250, setI_oth (ty_ne t_239 t_248 (by decide))]
    refine lv_aload_n hx hb dX10_worthFor_76 rfl (lv_at hl 1 rfl) ?_
    have t_258 : oty S_250 o 10 := (oX.ty XS_250 t_53)
    obtain ⟨q_259, hq_259⟩ := og (cq := cq) t_258.1 (oE_10 t_258.2)
    refine va_get (D := (dC, dI)) (ci := 10) (v := .ref lt) (C := RX10) (T := TX10) (N := 16) hx hb hts in_wsX10_worthFor_X10 hown hK hP q_259 hq_259 rfl 12 (by decide) (hts (.fieldLink RX10 59 "ShipOffice" "letters" "[I") iw_X10_worthFor_2) (fun _ h9 => h9) (o_rd pk_254) dX10_worthFor_77 ?_
    refine lv_iconst (v := 4) hx hb dX10_worthFor_80 (by decide) ?_
    refine lv_aload hx hb dX10_worthFor_81 (lv_at hl 0 rfl) ?_
    refine lv_iconst (v := 4) hx hb dX10_worthFor_83 (by decide) ?_
    have hC_260 := rCd_o (W := [2108]) (oX.st (oX.st (oX.st (oX.st oX.rf XS_11 (by decide)) XS_26 (by decide)) XS_45 (by decide)) XS_250 (by decide)) tb_7 (by decide) (by decide) (by decide) hCw
    obtain ⟨hlwk_261, cdk_261, skk_261, cak_261, tck_261, cbk_261, tkk_261, hEk_261⟩ := hC_260
    have t_262 : oty S_250 b_7 0 := (oX.ty XS_250 t_57)
    have hFc : ∀ q, va_A [] H.size q → A q := pu_free hS hA
    obtain ⟨q_263, hq_263⟩ := og (cq := cq) t_262.1 (oE_0 t_262.2)
    refine va_calli (va_runV (As := [.int 4]) (rest := [.int 4, .ref lt]) ⟨hx, hb, hml, hown, hts⟩ (c_X0_uses_c l dC dI H.size cq S_250 hIS_250 b_7 t_262 4 (by decide) cdk_261 Ew.length cak_261 hlwk_261 tck_261 Ew rfl hEk_261) (cwV 1 hts gX10_worthFor_X0_uses rfl rfl rfl (by decide +kernel) ⟨(Nat.le_of_ble_eq_true rfl), (Nat.le_of_ble_eq_true rfl)⟩) (pr_V (r := (RX0, TX0, 5)) hP hK hD q_263 0 rfl hq_263) rfl rfl hl.1 rfl (lv_room (Nat.le_of_ble_eq_true rfl)) dX10_worthFor_84 ⟨(Nat.le_of_ble_eq_true rfl), (Nat.le_of_ble_eq_true rfl)⟩) hS (fun q _ h => hFc q h) hFc (fun r_265 u t H locs ht hvm w_264 hB hz1 hk1 hS => ?_)
    have hP := pu_keep hP hk1
    clear hk1 hz1 hvm hB ht hFc
    obtain ⟨hb_266, hx_267⟩ := w_264
    refine lv_if_eq (tgt := 104) hx hb dX10_worthFor_87 (by decide) (fun c_268 => ?_) (fun c_268 => ?_)
    · have dc_268 := c_eq (a := r_265.toInt) (b := 0) rfl (by decide) c_268
      refine lv_iconst (v := 0) hx hb dX10_worthFor_104 (by decide) ?_
      have t_269 : oty S_250 lt 108 := (oX.ty XS_250 t_248)
      obtain ⟨q_270, hq_270⟩ := og (cq := cq) t_269.1 (oE_a1 (n := 8) t_269.2 (by decide))
      refine va_iast hx hb hK hP hD hS q_270 0 hq_270 rfl (by unfold vp_in; decide) dX10_worthFor_105 (fun H locs hP1 hD1 hS => ?_)
      obtain ⟨S_271, eS_271⟩ : ∃ zq, zq = setI S_250 lt (4 : Int32).toNatClampNeg 0 := ⟨_, rfl⟩
      have hP : va_P (dC, dI) vwCl (oW cq S_271) H := by rw [eS_271]; exact cP (oset t_269.1 hq_270 hD rfl (he_a1 (n := 8) t_269.2 (by decide)) neI) hP1
      have hD : va_D A (oW cq S_271) := by rw [eS_271]; exact cD (oset t_269.1 hq_270 hD rfl (he_a1 (n := 8) t_269.2 (by decide)) neI) hD1
      clear hP1 hD1
      have hIS_271 : oInv S_271 := by rw [eS_271]; exact oInv.A (k := 108) hIS_250 t_269.2 (by decide)
      have XS_271 : oX [2108] S_250 S_271 := by rw [eS_271]; exact oX.I (k := 108) (key := 2108) t_269.2 rfl (List.mem_singleton.mpr rfl)
      have pk_272 : oP S_271 a2 0 = some ama2 := by rw [eS_271]; exact pk_251
      have pk_273 : oP S_271 a2 1 = some ava2 := by rw [eS_271]; exact pk_252
      have pk_274 : oP S_271 o 8 = some lw := by rw [eS_271]; exact pk_253
      have pk_275 : oP S_271 o 12 = some lt := by rw [eS_271]; exact pk_254
      have X_276 : oX [2108, 5001] Z S_271 := oX.st X_255 XS_271 (by decide)
      have g_277 : (oI S_271 a2 4).toInt = (oI S_250 a2 4).toInt := by rw [eS_271, setI_oth (ty_ne (oX.ty XS_250 t_239) t_269 (by decide))]
      have g_278 : (oI S_271 a2 5).toInt = (oI S_250 a2 5).toInt := by rw [eS_271, setI_oth (ty_ne (oX.ty XS_250 t_239) t_269 (by decide))]
      refine lv_aload_n hx hb dX10_worthFor_106 rfl (lv_at hl 1 rfl) ?_
      have t_279 : oty S_271 o 10 := (oX.ty XS_271 t_258)
      obtain ⟨q_280, hq_280⟩ := og (cq := cq) t_279.1 (oE_10 t_279.2)
      refine va_get (D := (dC, dI)) (ci := 10) (v := .ref lt) (C := RX10) (T := TX10) (N := 16) hx hb hts in_wsX10_worthFor_X10 hown hK hP q_280 hq_280 rfl 12 (by decide) (hts (.fieldLink RX10 59 "ShipOffice" "letters" "[I") iw_X10_worthFor_2) (fun _ h9 => h9) (o_rd pk_275) dX10_worthFor_107 ?_
      refine lv_iconst (v := 5) hx hb dX10_worthFor_110 (by decide) ?_
      refine lv_iload hx hb dX10_worthFor_111 (lv_at hl 6 rfl) ?_
      have t_281 : oty S_271 lt 108 := (oX.ty XS_271 t_269)
      obtain ⟨q_282, hq_282⟩ := og (cq := cq) t_281.1 (oE_a1 (n := 8) t_281.2 (by decide))
      refine va_iast hx hb hK hP hD hS q_282 0 hq_282 rfl (by unfold vp_in; decide) dX10_worthFor_113 (fun H locs hP1 hD1 hS => ?_)
      obtain ⟨S_283, eS_283⟩ : ∃ zq, zq = setI S_271 lt (5 : Int32).toNatClampNeg x5 := ⟨_, rfl⟩
      have hP : va_P (dC, dI) vwCl (oW cq S_283) H := by rw [eS_283]; exact cP (oset t_281.1 hq_282 hD rfl (he_a1 (n := 8) t_281.2 (by decide)) neI) hP1
      have hD : va_D A (oW cq S_283) := by rw [eS_283]; exact cD (oset t_281.1 hq_282 hD rfl (he_a1 (n := 8) t_281.2 (by decide)) neI) hD1
      clear hP1 hD1
      have hIS_283 : oInv S_283 := by rw [eS_283]; exact oInv.A (k := 108) hIS_271 t_281.2 (by decide)
      have XS_283 : oX [2108] S_271 S_283 := by rw [eS_283]; exact oX.I (k := 108) (key := 2108) t_281.2 rfl (List.mem_singleton.mpr rfl)
      have pk_284 : oP S_283 a2 0 = some ama2 := by rw [eS_283]; exact pk_272
      have pk_285 : oP S_283 a2 1 = some ava2 := by rw [eS_283]; exact pk_273
      have pk_286 : oP S_283 o 8 = some lw := by rw [eS_283]; exact pk_274
      have pk_287 : oP S_283 o 12 = some lt := by rw [eS_283]; exact pk_275
      have X_288 : oX [2108, 5001] Z S_283 := oX.st X_276 XS_283 (by decide)
      have g_289 : (oI S_283 a2 4).toInt = (oI S_271 a2 4).toInt := by rw [eS_283, setI_oth (ty_ne (oX.ty XS_271 (oX.ty XS_250 t_239)) t_281 (by decide))]
      have g_290 : (oI S_283 a2 5).toInt = (oI S_271 a2 5).toInt := by rw [eS_283, setI_oth (ty_ne (oX.ty XS_271 (oX.ty XS_250 t_239)) t_281 (by decide))]
      refine lv_aload_n hx hb dX10_worthFor_114 rfl (lv_at hl 1 rfl) ?_
      have t_291 : oty S_283 o 10 := (oX.ty XS_283 t_279)
      obtain ⟨q_292, hq_292⟩ := og (cq := cq) t_291.1 (oE_10 t_291.2)
      refine va_get (D := (dC, dI)) (ci := 10) (v := .ref lt) (C := RX10) (T := TX10) (N := 16) hx hb hts in_wsX10_worthFor_X10 hown hK hP q_292 hq_292 rfl 12 (by decide) (hts (.fieldLink RX10 59 "ShipOffice" "letters" "[I") iw_X10_worthFor_2) (fun _ h9 => h9) (o_rd pk_287) dX10_worthFor_115 ?_
      refine lv_bipush (v := 6) hx hb dX10_worthFor_118 (by decide) ?_
      refine lv_aload_n hx hb dX10_worthFor_120 rfl (lv_at hl 3 rfl) ?_
      have t_293 : oty S_283 a2 1 := (oX.ty XS_283 (oX.ty XS_271 (oX.ty XS_250 t_239)))
      obtain ⟨q_294, hq_294⟩ := og (cq := cq) t_293.1 (oE_1 t_293.2)
      refine va_get (D := (dC, dI)) (ci := 1) (v := .ref ava2) (C := RX1) (T := TX1) (N := 18) hx hb hts in_wsX10_worthFor_X1 hown hK hP q_294 hq_294 rfl 1 (by decide) (hts (.fieldLink RX10 118 "ShipOffice$Agreement" "voyage" "LShipOffice$Voyage;") iw_X10_worthFor_6) (fun _ h9 => h9) (o_rd pk_285) dX10_worthFor_121 ?_
      refine lv_iload_n hx hb dX10_worthFor_124 rfl (lv_at hl 4 rfl) ?_
      refine lv_iload hx hb dX10_worthFor_125 (lv_at hl 5 rfl) ?_
      have t_295 : oty S_283 ava2 9 := (oX.ty XS_283 (oX.ty XS_271 (oX.ty XS_250 (oX.ty XS_45 (oX.ty XS_26 (oX.ty XS_11 tava2))))))
      have hR_296 : RC S_283 o v fa := RC_o (W := [2108]) (oX.st (oX.st (oX.st (oX.st (oX.st (oX.st oX.rf XS_11 (by decide)) XS_26 (by decide)) XS_45 (by decide)) XS_250 (by decide)) XS_271 (by decide)) XS_283 (by decide)) gI to (by decide) hR
      have hFc : ∀ q, va_A [] H.size q → A q := pu_free hS hA
      obtain ⟨q_297, hq_297⟩ := og (cq := cq) t_295.1 (oE_9 t_295.2)
      refine va_calli (va_runV (As := [.int x3, .int x4]) (rest := [.int 6, .ref lt]) ⟨hx, hb, hml, hown, hts⟩ (c_X9_daysUnheard_c l dC dI H.size cq S_283 hIS_283 ava2 t_295 x3 (by omega) x4 o t_291 v fa hR_296 ((fa 21 a).toNatClampNeg) lava2 (eava2.trans (voA_o (W := [2108]) (oX.st (oX.st (oX.st (oX.st (oX.st (oX.st oX.rf XS_11 (by decide)) XS_26 (by decide)) XS_45 (by decide)) XS_250 (by decide)) XS_271 (by decide)) XS_283 (by decide)) gI to (by decide) (by decide) _).symm) (by omega)) (cwV 2 hts gX10_worthFor_X9_daysUnheard rfl rfl rfl (by decide +kernel) ⟨(Nat.le_of_ble_eq_true rfl), (Nat.le_of_ble_eq_true rfl)⟩) (pr_V (r := (RX9, TX9, 10)) hP hK hD q_297 9 rfl hq_297) rfl rfl hl.1 rfl (lv_room (Nat.le_of_ble_eq_true rfl)) dX10_worthFor_127 ⟨(Nat.le_of_ble_eq_true rfl), (Nat.le_of_ble_eq_true rfl)⟩) hS (fun q _ h => hFc q h) hFc (fun r_299 u t H locs ht hvm w_298 hB hz1 hk1 hS => ?_)
      have hP := pu_keep hP hk1
      clear hk1 hz1 hvm hB ht hFc
      obtain ⟨hb_300, hx_301⟩ := w_298
      have t_302 : oty S_283 lt 108 := (oX.ty XS_283 t_281)
      obtain ⟨q_303, hq_303⟩ := og (cq := cq) t_302.1 (oE_a1 (n := 8) t_302.2 (by decide))
      refine va_iast hx hb hK hP hD hS q_303 0 hq_303 rfl (by unfold vp_in; decide) dX10_worthFor_130 (fun H locs hP1 hD1 hS => ?_)
      obtain ⟨S_304, eS_304⟩ : ∃ zq, zq = setI S_283 lt (6 : Int32).toNatClampNeg r_299 := ⟨_, rfl⟩
      have hP : va_P (dC, dI) vwCl (oW cq S_304) H := by rw [eS_304]; exact cP (oset t_302.1 hq_303 hD rfl (he_a1 (n := 8) t_302.2 (by decide)) neI) hP1
      have hD : va_D A (oW cq S_304) := by rw [eS_304]; exact cD (oset t_302.1 hq_303 hD rfl (he_a1 (n := 8) t_302.2 (by decide)) neI) hD1
      clear hP1 hD1
      have hIS_304 : oInv S_304 := by rw [eS_304]; exact oInv.A (k := 108) hIS_283 t_302.2 (by decide)
      have XS_304 : oX [2108] S_283 S_304 := by rw [eS_304]; exact oX.I (k := 108) (key := 2108) t_302.2 rfl (List.mem_singleton.mpr rfl)
      have pk_305 : oP S_304 a2 0 = some ama2 := by rw [eS_304]; exact pk_284
      have pk_306 : oP S_304 a2 1 = some ava2 := by rw [eS_304]; exact pk_285
      have pk_307 : oP S_304 o 8 = some lw := by rw [eS_304]; exact pk_286
      have pk_308 : oP S_304 o 12 = some lt := by rw [eS_304]; exact pk_287
      have X_309 : oX [2108, 5001] Z S_304 := oX.st X_288 XS_304 (by decide)
      have g_310 : (oI S_304 a2 4).toInt = (oI S_283 a2 4).toInt := by rw [eS_304, setI_oth (ty_ne t_293 t_302 (by decide))]
      have g_311 : (oI S_304 a2 5).toInt = (oI S_283 a2 5).toInt := by rw [eS_304, setI_oth (ty_ne t_293 t_302 (by decide))]
      refine lv_aload_n hx hb dX10_worthFor_131 rfl (lv_at hl 1 rfl) ?_
      have t_312 : oty S_304 o 10 := (oX.ty XS_304 t_291)
      obtain ⟨q_313, hq_313⟩ := og (cq := cq) t_312.1 (oE_10 t_312.2)
      refine va_get (D := (dC, dI)) (ci := 10) (v := .ref lt) (C := RX10) (T := TX10) (N := 16) hx hb hts in_wsX10_worthFor_X10 hown hK hP q_313 hq_313 rfl 12 (by decide) (hts (.fieldLink RX10 59 "ShipOffice" "letters" "[I") iw_X10_worthFor_2) (fun _ h9 => h9) (o_rd pk_308) dX10_worthFor_132 ?_
      refine lv_bipush (v := 7) hx hb dX10_worthFor_135 (by decide) ?_
      refine lv_iload hx hb dX10_worthFor_137 (lv_at hl 7 rfl) ?_
      have t_314 : oty S_304 lt 108 := (oX.ty XS_304 t_302)
      obtain ⟨q_315, hq_315⟩ := og (cq := cq) t_314.1 (oE_a1 (n := 8) t_314.2 (by decide))
      refine va_iast hx hb hK hP hD hS q_315 0 hq_315 rfl (by unfold vp_in; decide) dX10_worthFor_139 (fun H locs hP1 hD1 hS => ?_)
      obtain ⟨S_316, eS_316⟩ : ∃ zq, zq = setI S_304 lt (7 : Int32).toNatClampNeg x6 := ⟨_, rfl⟩
      have hP : va_P (dC, dI) vwCl (oW cq S_316) H := by rw [eS_316]; exact cP (oset t_314.1 hq_315 hD rfl (he_a1 (n := 8) t_314.2 (by decide)) neI) hP1
      have hD : va_D A (oW cq S_316) := by rw [eS_316]; exact cD (oset t_314.1 hq_315 hD rfl (he_a1 (n := 8) t_314.2 (by decide)) neI) hD1
      clear hP1 hD1
      have hIS_316 : oInv S_316 := by rw [eS_316]; exact oInv.A (k := 108) hIS_304 t_314.2 (by decide)
      have XS_316 : oX [2108] S_304 S_316 := by rw [eS_316]; exact oX.I (k := 108) (key := 2108) t_314.2 rfl (List.mem_singleton.mpr rfl)
      have pk_317 : oP S_316 a2 0 = some ama2 := by rw [eS_316]; exact pk_305
      have pk_318 : oP S_316 a2 1 = some ava2 := by rw [eS_316]; exact pk_306
      have pk_319 : oP S_316 o 8 = some lw := by rw [eS_316]; exact pk_307
      have pk_320 : oP S_316 o 12 = some lt := by rw [eS_316]; exact pk_308
      have X_321 : oX [2108, 5001] Z S_316 := oX.st X_309 XS_316 (by decide)
      have g_322 : (oI S_316 a2 4).toInt = (oI S_304 a2 4).toInt := by rw [eS_316, setI_oth (ty_ne (oX.ty XS_304 t_293) t_314 (by decide))]
      have g_323 : (oI S_316 a2 5).toInt = (oI S_304 a2 5).toInt := by rw [eS_316, setI_oth (ty_ne (oX.ty XS_304 t_293) t_314 (by decide))]
      refine lv_aload hx hb dX10_worthFor_140 (lv_at hl 0 rfl) ?_
      refine lv_aload_n hx hb dX10_worthFor_142 rfl (lv_at hl 1 rfl) ?_
      have t_324 : oty S_316 o 10 := (oX.ty XS_316 t_312)
      obtain ⟨q_325, hq_325⟩ := og (cq := cq) t_324.1 (oE_10 t_324.2)
      refine va_get (D := (dC, dI)) (ci := 10) (v := .ref lt) (C := RX10) (T := TX10) (N := 16) hx hb hts in_wsX10_worthFor_X10 hown hK hP q_325 hq_325 rfl 12 (by decide) (hts (.fieldLink RX10 59 "ShipOffice" "letters" "[I") iw_X10_worthFor_2) (fun _ h9 => h9) (o_rd pk_320) dX10_worthFor_143 ?_
      have hC_326 := rCd_o (W := [2108]) (oX.st (oX.st (oX.st (oX.st (oX.st (oX.st (oX.st (oX.st oX.rf XS_11 (by decide)) XS_26 (by decide)) XS_45 (by decide)) XS_250 (by decide)) XS_271 (by decide)) XS_283 (by decide)) XS_304 (by decide)) XS_316 (by decide)) tb_7 (by decide) (by decide) (by decide) hCw
      obtain ⟨hlwk_327, cdk_327, skk_327, cak_327, tck_327, cbk_327, tkk_327, hEk_327⟩ := hC_326
      have t_328 : oty S_316 b_7 0 := (oX.ty XS_316 (oX.ty XS_304 (oX.ty XS_283 (oX.ty XS_271 t_262))))
      have t_329 : oty S_316 lt 108 := (oX.ty XS_316 t_314)
      have hFc := o_free hD hS hA
      obtain ⟨q_330, hq_330⟩ := og (cq := cq) t_328.1 (oE_0 t_328.2)
      refine va_calli (va_runV (As := [.ref lt]) (rest := []) ⟨hx, hb, hml, hown, hts⟩ (c_X0_worth_f l dC dI H.size cq S_316 hIS_316 b_7 t_328 lt t_329 cdk_327 skk_327 Ew.length cak_327 cbk_327 hlwk_327 tck_327 tkk_327 Ew rfl hEk_327) (cwV 1 hts gX10_worthFor_X0_worth rfl rfl rfl (by decide +kernel) ⟨(Nat.le_of_ble_eq_true rfl), (Nat.le_of_ble_eq_true rfl)⟩) (pr_V (r := (RX0, TX0, 5)) hP hK hD q_330 0 rfl hq_330) rfl rfl hl.1 rfl (lv_room (Nat.le_of_ble_eq_true rfl)) dX10_worthFor_146 ⟨(Nat.le_of_ble_eq_true rfl), (Nat.le_of_ble_eq_true rfl)⟩) hS (fun q _ h => hFc q h) hFc (fun r_332 u t H locs ht hvm w_331 hB hz1 hk1 hS => ?_)
      obtain ⟨S_333, rfl⟩ : ∃ z, z = u := ⟨_, rfl⟩
      obtain ⟨hP1, hK1, hD1⟩ := hB
      rw [ht] at hP1
      have hP : va_P (dC, dI) vwCl (oW cq S_333) H := hP1
      have hD : va_D A (oW cq S_333) := hD1.weaken (fun _ _ _ h => hFc _ h)
      clear hP1 hK1 hD1 hk1 hz1 hvm ht hFc
      obtain ⟨hIS_333, XS_333, hx_334⟩ := w_331
      have X_335 : oX [2108, 5001] Z S_333 := oX.st X_321 XS_333 (by decide)
      have g_336 : (oI S_333 a2 4).toInt = (oI S_316 a2 4).toInt := by rw [oX.i XS_333 (oX.ty XS_316 (oX.ty XS_304 t_293)) (by decide)]
      have g_337 : (oI S_333 a2 5).toInt = (oI S_316 a2 5).toInt := by rw [oX.i XS_333 (oX.ty XS_316 (oX.ty XS_304 t_293)) (by decide)]
      have pk_338 : oP S_333 a2 0 = some ama2 := by rw [oX.p XS_333 (oX.ty XS_316 (oX.ty XS_304 t_293)) (by decide)]; exact pk_317
      have pk_339 : oP S_333 a2 1 = some ava2 := by rw [oX.p XS_333 (oX.ty XS_316 (oX.ty XS_304 t_293)) (by decide)]; exact pk_318
      have pk_340 : oP S_333 o 8 = some lw := by rw [oX.p XS_333 t_324 (by decide)]; exact pk_319
      have pk_341 : oP S_333 o 12 = some lt := by rw [oX.p XS_333 t_324 (by decide)]; exact pk_320
      exact W.iret (v := r_332) hx hb hr (fun t ht hW => ⟨⟨r_332, S_333, rfl, ⟨hIS_333, X_335, (hx_334 _ (by have eL : oI S_316 lt = upd (upd (upd (upd (upd (upd (upd (upd (oI Z lt) 0 x_9) 1 x_23) 2 r_41) 3 r_245) 4 0) 5 x5) 6 r_299) 7 x6 := (by rw [eS_316, setI_fun, eS_304, setI_fun, eS_283, setI_fun, eS_271, setI_fun, eS_250, setI_fun, eS_45, setI_fun, eS_26, setI_fun, eS_11, setI_fun]; rfl); rw [eL]; have eP : (lP v fa a x3 x4.toInt x5 x6) = ltP x_9 x_23 r_41 (Int32.ofInt (dnF v fa a x3.toInt x4.toInt)) (Int32.ofInt (abF v fa (fa 21 a).toInt x3.toInt x4.toInt)) x5 r_299 x6 := (by unfold lP; exact ltP_c (Int32.toInt_inj.mp (by omega)) (Int32.toInt_inj.mp (by omega)) (Eq.symm (by rw [hx_42, (show oI S_26 ama2 3 = fa 4 (fa 20 a).toNatClampNeg from Int32.toInt_inj.mp (by rw [show oI S_26 ama2 3 = oI Z ama2 3 from oX.i (W := [2108]) (oX.st (oX.st oX.rf XS_11 (by decide)) XS_26 (by decide)) tama2 (by decide)]; omega))])) rfl rfl rfl (Eq.symm (of_i (by have q9 := hx_301; rw [nava2] at q9; unfold ulF; exact q9))) rfl); rw [wf_L (d := Int32.ofInt (dnF v fa a x3.toInt x4.toInt)) (n := Int32.ofInt (abF v fa (fa 21 a).toInt x3.toInt x4.toInt)) (Or.inl (of_i (by have q9 := hx_247; rw [dG_ab] at q9; exact q9))) (Or.inr (hx_267 (by omega))), ← eP]; exact hXw))⟩, ⟨by rw [ht]; exact hP, va_K.moved hW.alike hK, hD⟩⟩, hS.F ht⟩) hS.2.2 dX10_worthFor_149
    · have dc_268 := c_ne (a := r_265.toInt) (b := 0) rfl (by decide) c_268
      refine lv_aload_n hx hb dX10_worthFor_90 rfl (lv_at hl 1 rfl) ?_
      refine lv_aload_n hx hb dX10_worthFor_91 rfl (lv_at hl 3 rfl) ?_
      have t_342 : oty S_250 a2 1 := (oX.ty XS_250 t_239)
      obtain ⟨q_343, hq_343⟩ := og (cq := cq) t_342.1 (oE_1 t_342.2)
      refine va_get (D := (dC, dI)) (ci := 1) (v := .ref ava2) (C := RX1) (T := TX1) (N := 18) hx hb hts in_wsX10_worthFor_X1 hown hK hP q_343 hq_343 rfl 1 (by decide) (hts (.fieldLink RX10 118 "ShipOffice$Agreement" "voyage" "LShipOffice$Voyage;") iw_X10_worthFor_6) (fun _ h9 => h9) (o_rd pk_252) dX10_worthFor_92 ?_
      refine lv_iload_n hx hb dX10_worthFor_95 rfl (lv_at hl 4 rfl) ?_
      refine lv_iload hx hb dX10_worthFor_96 (lv_at hl 5 rfl) ?_
      have t_344 : oty S_250 ava2 9 := (oX.ty XS_250 (oX.ty XS_45 (oX.ty XS_26 (oX.ty XS_11 tava2))))
      have hR_345 : RC S_250 o v fa := RC_o (W := [2108]) (oX.st (oX.st (oX.st (oX.st oX.rf XS_11 (by decide)) XS_26 (by decide)) XS_45 (by decide)) XS_250 (by decide)) gI to (by decide) hR
      have hFc : ∀ q, va_A [] H.size q → A q := pu_free hS hA
      refine va_calli (va_runV (As := [.ref ava2, .int x3, .int x4]) (rest := [.int 4, .ref lt]) ⟨hx, hb, hml, hown, hts⟩ (c_X10_menAboard_c l dC dI H.size cq S_250 hIS_250 o t_258 ava2 t_344 x3 (by omega) x4 (by omega) v fa hR_345 (by omega) ((fa 21 a).toNatClampNeg) lava2 (eava2.trans (voA_o (W := [2108]) (oX.st (oX.st (oX.st (oX.st oX.rf XS_11 (by decide)) XS_26 (by decide)) XS_45 (by decide)) XS_250 (by decide)) gI to (by decide) (by decide) _).symm)) (cwV 3 hts gX10_worthFor_X10_menAboard rfl rfl rfl (by decide +kernel) ⟨(Nat.le_of_ble_eq_true rfl), (Nat.le_of_ble_eq_true rfl)⟩) (pr_V (r := (RX10, TX10, 16)) hP hK hD q_259 10 rfl hq_259) rfl rfl hl.1 rfl (lv_room (Nat.le_of_ble_eq_true rfl)) dX10_worthFor_98 ⟨(Nat.le_of_ble_eq_true rfl), (Nat.le_of_ble_eq_true rfl)⟩) hS (fun q _ h => hFc q h) hFc (fun r_347 u t H locs ht hvm w_346 hB hz1 hk1 hS => ?_)
      have hP := pu_keep hP hk1
      clear hk1 hz1 hvm hB ht hFc
      obtain ⟨hb_348, hx_349⟩ := w_346
      refine lv_goto (tgt := 105) hx hb dX10_worthFor_101 (by decide) ?_
      have t_350 : oty S_250 lt 108 := (oX.ty XS_250 t_248)
      obtain ⟨q_351, hq_351⟩ := og (cq := cq) t_350.1 (oE_a1 (n := 8) t_350.2 (by decide))
      refine va_iast hx hb hK hP hD hS q_351 0 hq_351 rfl (by unfold vp_in; decide) dX10_worthFor_105 (fun H locs hP1 hD1 hS => ?_)
      obtain ⟨S_352, eS_352⟩ : ∃ zq, zq = setI S_250 lt (4 : Int32).toNatClampNeg r_347 := ⟨_, rfl⟩
      have hP : va_P (dC, dI) vwCl (oW cq S_352) H := by rw [eS_352]; exact cP (oset t_350.1 hq_351 hD rfl (he_a1 (n := 8) t_350.2 (by decide)) neI) hP1
      have hD : va_D A (oW cq S_352) := by rw [eS_352]; exact cD (oset t_350.1 hq_351 hD rfl (he_a1 (n := 8) t_350.2 (by decide)) neI) hD1
      clear hP1 hD1
      have hIS_352 : oInv S_352 := by rw [eS_352]; exact oInv.A (k := 108) hIS_250 t_350.2 (by decide)
      have XS_352 : oX [2108] S_250 S_352 := by rw [eS_352]; exact oX.I (k := 108) (key := 2108) t_350.2 rfl (List.mem_singleton.mpr rfl)
      have pk_353 : oP S_352 a2 0 = some ama2 := by rw [eS_352]; exact pk_251
      have pk_354 : oP S_352 a2 1 = some ava2 := by rw [eS_352]; exact pk_252
      have pk_355 : oP S_352 o 8 = some lw := by rw [eS_352]; exact pk_253
      have pk_356 : oP S_352 o 12 = some lt := by rw [eS_352]; exact pk_254
      have X_357 : oX [2108, 5001] Z S_352 := oX.st X_255 XS_352 (by decide)
      have g_358 : (oI S_352 a2 4).toInt = (oI S_250 a2 4).toInt := by rw [eS_352, setI_oth (ty_ne t_342 t_350 (by decide))]
      have g_359 : (oI S_352 a2 5).toInt = (oI S_250 a2 5).toInt := by rw [eS_352, setI_oth (ty_ne t_342 t_350 (by decide))]
      refine lv_aload_n hx hb dX10_worthFor_106 rfl (lv_at hl 1 rfl) ?_
      have t_360 : oty S_352 o 10 := (oX.ty XS_352 t_258)
      obtain ⟨q_361, hq_361⟩ := og (cq := cq) t_360.1 (oE_10 t_360.2)
      refine va_get (D := (dC, dI)) (ci := 10) (v := .ref lt) (C := RX10) (T := TX10) (N := 16) hx hb hts in_wsX10_worthFor_X10 hown hK hP q_361 hq_361 rfl 12 (by decide) (hts (.fieldLink RX10 59 "ShipOffice" "letters" "[I") iw_X10_worthFor_2) (fun _ h9 => h9) (o_rd pk_356) dX10_worthFor_107 ?_
      refine lv_iconst (v := 5) hx hb dX10_worthFor_110 (by decide) ?_
      refine lv_iload hx hb dX10_worthFor_111 (lv_at hl 6 rfl) ?_
      have t_362 : oty S_352 lt 108 := (oX.ty XS_352 t_350)
      obtain ⟨q_363, hq_363⟩ := og (cq := cq) t_362.1 (oE_a1 (n := 8) t_362.2 (by decide))
      refine va_iast hx hb hK hP hD hS q_363 0 hq_363 rfl (by unfold vp_in; decide) dX10_worthFor_113 (fun H locs hP1 hD1 hS => ?_)
      obtain ⟨S_364, eS_364⟩ : ∃ zq, zq = setI S_352 lt (5 : Int32).toNatClampNeg x5 := ⟨_, rfl⟩
      have hP : va_P (dC, dI) vwCl (oW cq S_364) H := by rw [eS_364]; exact cP (oset t_362.1 hq_363 hD rfl (he_a1 (n := 8) t_362.2 (by decide)) neI) hP1
      have hD : va_D A (oW cq S_364) := by rw [eS_364]; exact cD (oset t_362.1 hq_363 hD rfl (he_a1 (n := 8) t_362.2 (by decide)) neI) hD1
      clear hP1 hD1
      have hIS_364 : oInv S_364 := by rw [eS_364]; exact oInv.A (k := 108) hIS_352 t_362.2 (by decide)
      have XS_364 : oX [2108] S_352 S_364 := by rw [eS_364]; exact oX.I (k := 108) (key := 2108) t_362.2 rfl (List.mem_singleton.mpr rfl)
      have pk_365 : oP S_364 a2 0 = some ama2 := by rw [eS_364]; exact pk_353
      have pk_366 : oP S_364 a2 1 = some ava2 := by rw [eS_364]; exact pk_354
      have pk_367 : oP S_364 o 8 = some lw := by rw [eS_364]; exact pk_355
      have pk_368 : oP S_364 o 12 = some lt := by rw [eS_364]; exact pk_356
      have X_369 : oX [2108, 5001] Z S_364 := oX.st X_357 XS_364 (by decide)
      have g_370 : (oI S_364 a2 4).toInt = (oI S_352 a2 4).toInt := by rw [eS_364, setI_oth (ty_ne (oX.ty XS_352 t_342) t_362 (by decide))]
      have g_371 : (oI S_364 a2 5).toInt = (oI S_352 a2 5).toInt := by rw [eS_364, setI_oth (ty_ne (oX.ty XS_352 t_342) t_362 (by decide))]
      refine lv_aload_n hx hb dX10_worthFor_114 rfl (lv_at hl 1 rfl) ?_
      have t_372 : oty S_364 o 10 := (oX.ty XS_364 t_360)
      obtain ⟨q_373, hq_373⟩ := og (cq := cq) t_372.1 (oE_10 t_372.2)
      refine va_get (D := (dC, dI)) (ci := 10) (v := .ref lt) (C := RX10) (T := TX10) (N := 16) hx hb hts in_wsX10_worthFor_X10 hown hK hP q_373 hq_373 rfl 12 (by decide) (hts (.fieldLink RX10 59 "ShipOffice" "letters" "[I") iw_X10_worthFor_2) (fun _ h9 => h9) (o_rd pk_368) dX10_worthFor_115 ?_
      refine lv_bipush (v := 6) hx hb dX10_worthFor_118 (by decide) ?_
      refine lv_aload_n hx hb dX10_worthFor_120 rfl (lv_at hl 3 rfl) ?_
      have t_374 : oty S_364 a2 1 := (oX.ty XS_364 (oX.ty XS_352 t_342))
      obtain ⟨q_375, hq_375⟩ := og (cq := cq) t_374.1 (oE_1 t_374.2)
      refine va_get (D := (dC, dI)) (ci := 1) (v := .ref ava2) (C := RX1) (T := TX1) (N := 18) hx hb hts in_wsX10_worthFor_X1 hown hK hP q_375 hq_375 rfl 1 (by decide) (hts (.fieldLink RX10 118 "ShipOffice$Agreement" "voyage" "LShipOffice$Voyage;") iw_X10_worthFor_6) (fun _ h9 => h9) (o_rd pk_366) dX10_worthFor_121 ?_
      refine lv_iload_n hx hb dX10_worthFor_124 rfl (lv_at hl 4 rfl) ?_
      refine lv_iload hx hb dX10_worthFor_125 (lv_at hl 5 rfl) ?_
      have t_376 : oty S_364 ava2 9 := (oX.ty XS_364 (oX.ty XS_352 t_344))
      have hR_377 : RC S_364 o v fa := RC_o (W := [2108]) (oX.st (oX.st (oX.st (oX.st (oX.st (oX.st oX.rf XS_11 (by decide)) XS_26 (by decide)) XS_45 (by decide)) XS_250 (by decide)) XS_352 (by decide)) XS_364 (by decide)) gI to (by decide) hR
      have hFc : ∀ q, va_A [] H.size q → A q := pu_free hS hA
      obtain ⟨q_378, hq_378⟩ := og (cq := cq) t_376.1 (oE_9 t_376.2)
      refine va_calli (va_runV (As := [.int x3, .int x4]) (rest := [.int 6, .ref lt]) ⟨hx, hb, hml, hown, hts⟩ (c_X9_daysUnheard_c l dC dI H.size cq S_364 hIS_364 ava2 t_376 x3 (by omega) x4 o t_372 v fa hR_377 ((fa 21 a).toNatClampNeg) lava2 (eava2.trans (voA_o (W := [2108]) (oX.st (oX.st (oX.st (oX.st (oX.st (oX.st oX.rf XS_11 (by decide)) XS_26 (by decide)) XS_45 (by decide)) XS_250 (by decide)) XS_352 (by decide)) XS_364 (by decide)) gI to (by decide) (by decide) _).symm) (by omega)) (cwV 2 hts gX10_worthFor_X9_daysUnheard rfl rfl rfl (by decide +kernel) ⟨(Nat.le_of_ble_eq_true rfl), (Nat.le_of_ble_eq_true rfl)⟩) (pr_V (r := (RX9, TX9, 10)) hP hK hD q_378 9 rfl hq_378) rfl rfl hl.1 rfl (lv_room (Nat.le_of_ble_eq_true rfl)) dX10_worthFor_127 ⟨(Nat.le_of_ble_eq_true rfl), (Nat.le_of_ble_eq_true rfl)⟩) hS (fun q _ h => hFc q h) hFc (fun r_380 u t H locs ht hvm w_379 hB hz1 hk1 hS => ?_)
      have hP := pu_keep hP hk1
      clear hk1 hz1 hvm hB ht hFc
      obtain ⟨hb_381, hx_382⟩ := w_379
      have t_383 : oty S_364 lt 108 := (oX.ty XS_364 t_362)
      obtain ⟨q_384, hq_384⟩ := og (cq := cq) t_383.1 (oE_a1 (n := 8) t_383.2 (by decide))
      refine va_iast hx hb hK hP hD hS q_384 0 hq_384 rfl (by unfold vp_in; decide) dX10_worthFor_130 (fun H locs hP1 hD1 hS => ?_)
      obtain ⟨S_385, eS_385⟩ : ∃ zq, zq = setI S_364 lt (6 : Int32).toNatClampNeg r_380 := ⟨_, rfl⟩
      have hP : va_P (dC, dI) vwCl (oW cq S_385) H := by rw [eS_385]; exact cP (oset t_383.1 hq_384 hD rfl (he_a1 (n := 8) t_383.2 (by decide)) neI) hP1
      have hD : va_D A (oW cq S_385) := by rw [eS_385]; exact cD (oset t_383.1 hq_384 hD rfl (he_a1 (n := 8) t_383.2 (by decide)) neI) hD1
      clear hP1 hD1
      have hIS_385 : oInv S_385 := by rw [eS_385]; exact oInv.A (k := 108) hIS_364 t_383.2 (by decide)
      have XS_385 : oX [2108] S_364 S_385 := by rw [eS_385]; exact oX.I (k := 108) (key := 2108) t_383.2 rfl (List.mem_singleton.mpr rfl)
      have pk_386 : oP S_385 a2 0 = some ama2 := by rw [eS_385]; exact pk_365
      have pk_387 : oP S_385 a2 1 = some ava2 := by rw [eS_385]; exact pk_366
      have pk_388 : oP S_385 o 8 = some lw := by rw [eS_385]; exact pk_367
      have pk_389 : oP S_385 o 12 = some lt := by rw [eS_385]; exact pk_368
      have X_390 : oX [2108, 5001] Z S_385 := oX.st X_369 XS_385 (by decide)
      have g_391 : (oI S_385 a2 4).toInt = (oI S_364 a2 4).toInt := by rw [eS_385, setI_oth (ty_ne t_374 t_383 (by decide))]
      have g_392 : (oI S_385 a2 5).toInt = (oI S_364 a2 5).toInt := by rw [eS_385, setI_oth (ty_ne t_374 t_383 (by decide))]
      refine lv_aload_n hx hb dX10_worthFor_131 rfl (lv_at hl 1 rfl) ?_
      have t_393 : oty S_385 o 10 := (oX.ty XS_385 t_372)
      obtain ⟨q_394, hq_394⟩ := og (cq := cq) t_393.1 (oE_10 t_393.2)
      refine va_get (D := (dC, dI)) (ci := 10) (v := .ref lt) (C := RX10) (T := TX10) (N := 16) hx hb hts in_wsX10_worthFor_X10 hown hK hP q_394 hq_394 rfl 12 (by decide) (hts (.fieldLink RX10 59 "ShipOffice" "letters" "[I") iw_X10_worthFor_2) (fun _ h9 => h9) (o_rd pk_389) dX10_worthFor_132 ?_
      refine lv_bipush (v := 7) hx hb dX10_worthFor_135 (by decide) ?_
      refine lv_iload hx hb dX10_worthFor_137 (lv_at hl 7 rfl) ?_
      have t_395 : oty S_385 lt 108 := (oX.ty XS_385 t_383)
      obtain ⟨q_396, hq_396⟩ := og (cq := cq) t_395.1 (oE_a1 (n := 8) t_395.2 (by decide))
      refine va_iast hx hb hK hP hD hS q_396 0 hq_396 rfl (by unfold vp_in; decide) dX10_worthFor_139 (fun H locs hP1 hD1 hS => ?_)
      obtain ⟨S_397, eS_397⟩ : ∃ zq, zq = setI S_385 lt (7 : Int32).toNatClampNeg x6 := ⟨_, rfl⟩
      have hP : va_P (dC, dI) vwCl (oW cq S_397) H := by rw [eS_397]; exact cP (oset t_395.1 hq_396 hD rfl (he_a1 (n := 8) t_395.2 (by decide)) neI) hP1
      have hD : va_D A (oW cq S_397) := by rw [eS_397]; exact cD (oset t_395.1 hq_396 hD rfl (he_a1 (n := 8) t_395.2 (by decide)) neI) hD1
      clear hP1 hD1
      have hIS_397 : oInv S_397 := by rw [eS_397]; exact oInv.A (k := 108) hIS_385 t_395.2 (by decide)
      have XS_397 : oX [2108] S_385 S_397 := by rw [eS_397]; exact oX.I (k := 108) (key := 2108) t_395.2 rfl (List.mem_singleton.mpr rfl)
      have pk_398 : oP S_397 a2 0 = some ama2 := by rw [eS_397]; exact pk_386
      have pk_399 : oP S_397 a2 1 = some ava2 := by rw [eS_397]; exact pk_387
      have pk_400 : oP S_397 o 8 = some lw := by rw [eS_397]; exact pk_388
      have pk_401 : oP S_397 o 12 = some lt := by rw [eS_397]; exact pk_389
      have X_402 : oX [2108, 5001] Z S_397 := oX.st X_390 XS_397 (by decide)
      have g_403 : (oI S_397 a2 4).toInt = (oI S_385 a2 4).toInt := by rw [eS_397, setI_oth (ty_ne (oX.ty XS_385 t_374) t_395 (by decide))]
      have g_404 : (oI S_397 a2 5).toInt = (oI S_385 a2 5).toInt := by rw [eS_397, setI_oth (ty_ne (oX.ty XS_385 t_374) t_395 (by decide))]
      refine lv_aload hx hb dX10_worthFor_140 (lv_at hl 0 rfl) ?_
      refine lv_aload_n hx hb dX10_worthFor_142 rfl (lv_at hl 1 rfl) ?_
      have t_405 : oty S_397 o 10 := (oX.ty XS_397 t_393)
      obtain ⟨q_406, hq_406⟩ := og (cq := cq) t_405.1 (oE_10 t_405.2)
      refine va_get (D := (dC, dI)) (ci := 10) (v := .ref lt) (C := RX10) (T := TX10) (N := 16) hx hb hts in_wsX10_worthFor_X10 hown hK hP q_406 hq_406 rfl 12 (by decide) (hts (.fieldLink RX10 59 "ShipOffice" "letters" "[I") iw_X10_worthFor_2) (fun _ h9 => h9) (o_rd pk_401) dX10_worthFor_143 ?_
      have hC_407 := rCd_o (W := [2108]) (oX.st (oX.st (oX.st (oX.st (oX.st (oX.st (oX.st (oX.st oX.rf XS_11 (by decide)) XS_26 (by decide)) XS_45 (by decide)) XS_250 (by decide)) XS_352 (by decide)) XS_364 (by decide)) XS_385 (by decide)) XS_397 (by decide)) tb_7 (by decide) (by decide) (by decide) hCw
      obtain ⟨hlwk_408, cdk_408, skk_408, cak_408, tck_408, cbk_408, tkk_408, hEk_408⟩ := hC_407
      have t_409 : oty S_397 b_7 0 := (oX.ty XS_397 (oX.ty XS_385 (oX.ty XS_364 (oX.ty XS_352 t_262))))
      have t_410 : oty S_397 lt 108 := (oX.ty XS_397 t_395)
      have hFc := o_free hD hS hA
      obtain ⟨q_411, hq_411⟩ := og (cq := cq) t_409.1 (oE_0 t_409.2)
      refine va_calli (va_runV (As := [.ref lt]) (rest := []) ⟨hx, hb, hml, hown, hts⟩ (c_X0_worth_f l dC dI H.size cq S_397 hIS_397 b_7 t_409 lt t_410 cdk_408 skk_408 Ew.length cak_408 cbk_408 hlwk_408 tck_408 tkk_408 Ew rfl hEk_408) (cwV 1 hts gX10_worthFor_X0_worth rfl rfl rfl (by decide +kernel) ⟨(Nat.le_of_ble_eq_true rfl), (Nat.le_of_ble_eq_true rfl)⟩) (pr_V (r := (RX0, TX0, 5)) hP hK hD q_411 0 rfl hq_411) rfl rfl hl.1 rfl (lv_room (Nat.le_of_ble_eq_true rfl)) dX10_worthFor_146 ⟨(Nat.le_of_ble_eq_true rfl), (Nat.le_of_ble_eq_true rfl)⟩) hS (fun q _ h => hFc q h) hFc (fun r_413 u t H locs ht hvm w_412 hB hz1 hk1 hS => ?_)
      obtain ⟨S_414, rfl⟩ : ∃ z, z = u := ⟨_, rfl⟩
      obtain ⟨hP1, hK1, hD1⟩ := hB
      rw [ht] at hP1
      have hP : va_P (dC, dI) vwCl (oW cq S_414) H := hP1
      have hD : va_D A (oW cq S_414) := hD1.weaken (fun _ _ _ h => hFc _ h)
      clear hP1 hK1 hD1 hk1 hz1 hvm ht hFc
      obtain ⟨hIS_414, XS_414, hx_415⟩ := w_412
      have X_416 : oX [2108, 5001] Z S_414 := oX.st X_402 XS_414 (by decide)
      have g_417 : (oI S_414 a2 4).toInt = (oI S_397 a2 4).toInt := by rw [oX.i XS_414 (oX.ty XS_397 (oX.ty XS_385 t_374)) (by decide)]
      have g_418 : (oI S_414 a2 5).toInt = (oI S_397 a2 5).toInt := by rw [oX.i XS_414 (oX.ty XS_397 (oX.ty XS_385 t_374)) (by decide)]
      have pk_419 : oP S_414 a2 0 = some ama2 := by rw [oX.p XS_414 (oX.ty XS_397 (oX.ty XS_385 t_374)) (by decide)]; exact pk_398
      have pk_420 : oP S_414 a2 1 = some ava2 := by rw [oX.p XS_414 (oX.ty XS_397 (oX.ty XS_385 t_374)) (by decide)]; exact pk_399
      have pk_421 : oP S_414 o 8 = some lw := by rw [oX.p XS_414 t_405 (by decide)]; exact pk_400
      have pk_422 : oP S_414 o 12 = some lt := by rw [oX.p XS_414 t_405 (by decide)]; exact pk_401
      exact W.iret (v := r_413) hx hb hr (fun t ht hW => ⟨⟨r_413, S_414, rfl, ⟨hIS_414, X_416, (hx_415 _ (by have eL : oI S_397 lt = upd (upd (upd (upd (upd (upd (upd (upd (oI Z lt) 0 x_9) 1 x_23) 2 r_41) 3 r_245) 4 r_347) 5 x5) 6 r_380) 7 x6 := (by rw [eS_397, setI_fun, eS_385, setI_fun, eS_364, setI_fun, eS_352, setI_fun, eS_250, setI_fun, eS_45, setI_fun, eS_26, setI_fun, eS_11, setI_fun]; rfl); rw [eL]; have eP : (lP v fa a x3 x4.toInt x5 x6) = ltP x_9 x_23 r_41 (Int32.ofInt (dnF v fa a x3.toInt x4.toInt)) (Int32.ofInt (abF v fa (fa 21 a).toInt x3.toInt x4.toInt)) x5 r_380 x6 := (by unfold lP; exact ltP_c (Int32.toInt_inj.mp (by omega)) (Int32.toInt_inj.mp (by omega)) (Eq.symm (by rw [hx_42, (show oI S_26 ama2 3 = fa 4 (fa 20 a).toNatClampNeg from Int32.toInt_inj.mp (by rw [show oI S_26 ama2 3 = oI Z ama2 3 from oX.i (W := [2108]) (oX.st (oX.st oX.rf XS_11 (by decide)) XS_26 (by decide)) tama2 (by decide)]; omega))])) rfl rfl rfl (Eq.symm (of_i (by have q9 := hx_382; rw [nava2] at q9; unfold ulF; exact q9))) rfl); rw [wf_L (d := Int32.ofInt (dnF v fa a x3.toInt x4.toInt)) (n := Int32.ofInt (abF v fa (fa 21 a).toInt x3.toInt x4.toInt)) (Or.inl (of_i (by have q9 := hx_247; rw [dG_ab] at q9; exact q9))) (Or.inl (of_i (by have q9 := hx_349; rw [nava2] at q9; exact q9))), ← eP]; exact hXw))⟩, ⟨by rw [ht]; exact hP, va_K.moved hW.alike hK, hD⟩⟩, hS.F ht⟩) hS.2.2 dX10_worthFor_149
