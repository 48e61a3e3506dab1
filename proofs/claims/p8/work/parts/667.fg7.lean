


set_option maxHeartbeats 4000000 in
set_option maxRecDepth 100000 in
theorem c_X10_signWorth_c (l : Launch) (dC : Nat → ClassId) (dI : Nat → Nat → Nat) (sz : Nat) (cq : Nat → ClassId) (Z : oS) (gI : oInv Z) (o : Nat) (to : oty Z o 10) (a1 : Nat) (ta1 : oty Z a1 6) (x2 : Int32) (hx2 : 1 ≤ x2.toInt ∧ x2.toInt ≤ 9999) (x3 : Int32) (hx3 : 0 ≤ x3.toInt ∧ x3.toInt ≤ 3) (v : Nat → Int32) (fa : Nat → Nat → Int32) (hR : RC Z o v fa) (mn_ : Nat) (hmn : mn_ < (v 39).toNatClampNeg) (em : a1 = mnA Z o mn_) : Met l yX10_signWorth wsX10_signWorth ({ frames := 3, cells := 0, slots := 0, locals := 72 }) (va_Pc [.ref o, .ref a1, .int x2, .int x3] (pcW (dC, dI) (oT cq) (oW cq Z) sz)) (va_Qi (fun (r : Int32) (u : oS) => oInv u ∧ oX [2108, 5001] Z u ∧ (r = wrt v fa 0 (v 38).toInt (ltS x2 x3 (yrs v fa mn_)))) (fun u t => va_P (dC, dI) vwCl (oW cq u) t.heap ∧ va_K (dC, dI) vwCl (oT cq) t ∧ va_D (va_A (oW cq Z) sz) (oW cq u)) (va_A (oW cq Z) sz)) 0 0 (va_A (oW cq Z) sz) := by
  refine Met.ofW (cc := cX10_signWorth) (maxL := 4) (ret := (some .int)) (by decide +kernel) rfl ?_
  intro p e s m args below meth c s₁ B hml hv
  obtain ⟨rfl, hsz, hP, hK, hD0⟩ := hv
  have hx := B.exec
  have hb := B.bytes
  have hr := B.returns
  have hts := atoms_spec (ws := wsX10_signWorth) B.pre
  have hown : s.vm.findClass RX10 = some m.cls := findClass_of_methodNamed B.named
  have hlocks := B.notSynchronized
  subst hsz
  have hD := hD0.self (sz := s.heap.size)
  generalize hAe : va_A (oW cq Z) s.heap.size = A at hD ⊢
  have hA : ∀ q : Nat, s.heap.size ≤ q → A q := fun q h => by rw [← hAe]; exact Or.inr h
  have hS : va_S A s.heap s.heap [] := va_S.rf
  have hP : va_P (dC, dI) vwCl (oW cq Z) s.heap := hP
  have hl := lv_entry ([.ref o, .ref a1, .int x2, .int x3]) (n := 4) (Nat.le_of_ble_eq_true rfl)
  rw [lg_entry_eq]
  generalize (lg_sl ([.ref o, .ref a1, .int x2, .int x3]) ++ List.replicate (4 - (lg_sl ([.ref o, .ref a1, .int x2, .int x3])).length) Slot.unset).toArray = ls at hl ⊢
  have hl : lv_has ls 4 [(0, .ref o), (1, .ref a1), (2, .int x2), (3, .int x3)] := hl
  obtain ⟨fn0, fn1, fn2, fn3, fn4⟩ := RC.n hR
  have fb38 : 0 ≤ (v 38).toInt ∧ (v 38).toInt ≤ 3000 := RC.V hR 38
  have fb39 : 0 ≤ (v 39).toInt ∧ (v 39).toInt ≤ 40 := RC.V hR 39
  have fb40 : 0 ≤ (v 40).toInt ∧ (v 40).toInt ≤ 20 := RC.V hR 40
  have fb43 : 0 ≤ (v 43).toInt ∧ (v 43).toInt ≤ 60 := RC.V hR 43
  have fb41 : 0 ≤ (v 41).toInt ∧ (v 41).toInt ≤ 200 := RC.V hR 41
  have fMa1 := RC.m hR hmn
  rw [← em] at fMa1
  obtain ⟨fz0a1, fz1a1, fz2a1, fz3a1⟩ := fMa1
  obtain ⟨lw, hlw0⟩ := oInv.nn (i := 8) gI to rfl
  have tlw : oty Z lw 5 := oInv.rd gI to.2 hlw0 rfl rfl
  obtain ⟨lt, hlt0⟩ := oInv.nn (i := 12) gI to rfl
  have tlt : oty Z lt 108 := oInv.rd gI to.2 hlt0 rfl rfl
  have hLZ : rLw Z lw v fa := by have q := RC.l hR; rw [oQ_e hlw0] at q; exact q
  refine lv_aload_n hx hb dX10_signWorth_0 rfl (lv_at hl 0 rfl) ?_
  obtain ⟨q_1, hq_1⟩ := og (cq := cq) to.1 (oE_10 to.2)
  refine va_get (D := (dC, dI)) (ci := 10) (v := .ref lt) (C := RX10) (T := TX10) (N := 16) hx hb hts in_wsX10_signWorth_X10 hown hK hP q_1 hq_1 rfl 12 (by decide +kernel) (hts (.fieldLink RX10 59 "ShipOffice" "letters" "[I") iw_X10_signWorth_1) (fun _ h9 => h9) (o_rd hlt0) dX10_signWorth_1 ?_
  refine lv_iconst (v := 0) hx hb dX10_signWorth_4 (by decide +kernel) ?_
  have hFc := o_free hD hS hA
  refine va_callv (va_runS (As := [.ref lt, .int 0]) (rest := []) ⟨hx, hb, hml, hown, hts⟩ (c_J7_fill_53178_c l dC dI s.heap.size cq Z gI lt tlt 0) (va_cwS 2 hts gX10_signWorth_J7_fill_53178 rfl rfl rfl (by decide +kernel) ⟨(Nat.le_of_ble_eq_true rfl), (Nat.le_of_ble_eq_true rfl)⟩) (pr_S hP hK hD) rfl rfl hl.1 rfl (lv_room (Nat.le_of_ble_eq_true rfl)) dX10_signWorth_5 ⟨(Nat.le_of_ble_eq_true rfl), (Nat.le_of_ble_eq_true rfl)⟩) hS (fun q _ h => hFc q h) hFc (fun u t H locs ht hvm w_2 hB hz1 hk1 hS => ?_)
  obtain ⟨S_4, rfl⟩ : ∃ z, z = u := ⟨_, rfl⟩
  obtain ⟨hP1, hK1, hD1⟩ := hB
  rw [ht] at hP1
  have hP : va_P (dC, dI) vwCl (oW cq S_4) H := hP1
  have hD : va_D A (oW cq S_4) := hD1.weaken (fun _ _ _ h => hFc _ h)
  clear hP1 hK1 hD1 hk1 hz1 hvm ht hFc
  obtain ⟨hIS_4, XS_4, hx_5⟩ := w_2
  have X_6 : oX [2108, 5001] Z S_4 := oX.st oX.rf XS_4 (by decide +kernel)
  have g_7 : (oI S_4 o 0).toInt = (oI Z o 0).toInt := by rw [oX.i XS_4 to (by decide +kernel)]
  have pk_8 : oP S_4 o 8 = some lw := by rw [oX.p XS_4 to (by decide +kernel)]; exact hlw0
  have pk_9 : oP S_4 o 12 = some lt := by rw [oX.p XS_4 to (by decide +kernel)]; exact hlt0
  refine lv_aload_n hx hb dX10_signWorth_8 rfl (lv_at hl 0 rfl) ?_
  have t_10 : oty S_4 o 10 := (oX.ty XS_4 to)
  obtain ⟨q_11, hq_11⟩ := og (cq := cq) t_10.1 (oE_10 t_10.2)
  refine va_get (D := (dC, dI)) (ci := 10) (v := .ref lt) (C := RX10) (T := TX10) (N := 16) hx hb hts in_wsX10_signWorth_X10 hown hK hP q_11 hq_11 rfl 12 (by decide +kernel) (hts (.fieldLink RX10 59 "ShipOffice" "letters" "[I") iw_X10_signWorth_1) (fun _ h9 => h9) (o_rd pk_9) dX10_signWorth_9 ?_
  refine lv_iconst (v := 0) hx hb dX10_signWorth_12 (by decide +kernel) ?_
  refine lv_iload_n hx hb dX10_signWorth_13 rfl (lv_at hl 2 rfl) ?_
  have t_12 : oty S_4 lt 108 := (oX.ty XS_4 tlt)
  obtain ⟨q_13, hq_13⟩ := og (cq := cq) t_12.1 (oE_a1 (n := 8) t_12.2 (by decide +kernel))
  refine va_iast hx hb hK hP hD hS q_13 0 hq_13 rfl (by unfold vp_in; decide) dX10_signWorth_14 (fun H locs hP1 hD1 hS => ?_)
  obtain ⟨S_14, eS_14⟩ : ∃ zq, zq = setI S_4 lt (0 : Int32).toNatClampNeg x2 := ⟨_, rfl⟩
  have hP : va_P (dC, dI) vwCl (oW cq S_14) H := by rw [eS_14]; exact cP (oset t_12.1 hq_13 hD rfl (he_a1 (n := 8) t_12.2 (by decide +kernel)) neI) hP1
  have hD : va_D A (oW cq S_14) := by rw [eS_14]; exact cD (oset t_12.1 hq_13 hD rfl (he_a1 (n := 8) t_12.2 (by decide +kernel)) neI) hD1
  clear hP1 hD1
  have hIS_14 : oInv S_14 := by rw [eS_14]; exact oInv.A (k := 108) hIS_4 t_12.2 (by decide +kernel)
  have XS_14 : oX [2108] S_4 S_14 := by rw [eS_14]; exact oX.I (k := 108) (key := 2108) t_12.2 rfl (List.mem_singleton.mpr rfl)
  have pk_15 : oP S_14 o 8 = some lw := by rw [eS_14]; exact pk_8
  have pk_16 : oP S_14 o 12 = some lt := by rw [eS_14]; exact pk_9
  have X_17 : oX [2108, 5001] Z S_14 := oX.st X_6 XS_14 (by decide +kernel)
  have g_18 : (oI S_14 o 0).toInt = (oI S_4 o 0).toInt := by rw [eS_14, setI_oth (ty_ne t_10 t_12 (by decide +kernel))]
  refine lv_aload_n hx hb dX10_signWorth_15 rfl (lv_at hl 0 rfl) ?_
  have t_19 : oty S_14 o 10 := (oX.ty XS_14 t_10)
  obtain ⟨q_20, hq_20⟩ := og (cq := cq) t_19.1 (oE_10 t_19.2)
  refine va_get (D := (dC, dI)) (ci := 10) (v := .ref lt) (C := RX10) (T := TX10) (N := 16) hx hb hts in_wsX10_signWorth_X10 hown hK hP q_20 hq_20 rfl 12 (by decide +kernel) (hts (.fieldLink RX10 59 "ShipOffice" "letters" "[I") iw_X10_signWorth_1) (fun _ h9 => h9) (o_rd pk_16) dX10_signWorth_16 ?_
  refine lv_iconst (v := 1) hx hb dX10_signWorth_19 (by decide +kernel) ?_
  refine lv_iload_n hx hb dX10_signWorth_20 rfl (lv_at hl 3 rfl) ?_
  have t_21 : oty S_14 lt 108 := (oX.ty XS_14 t_12)
  obtain ⟨q_22, hq_22⟩ := og (cq := cq) t_21.1 (oE_a1 (n := 8) t_21.2 (by decide +kernel))
  refine va_iast hx hb hK hP hD hS q_22 0 hq_22 rfl (by unfold vp_in; decide) dX10_signWorth_21 (fun H locs hP1 hD1 hS => ?_)
  obtain ⟨S_23, eS_23⟩ : ∃ zq, zq = setI S_14 lt (1 : Int32).toNatClampNeg x3 := ⟨_, rfl⟩
  have hP : va_P (dC, dI) vwCl (oW cq S_23) H := by rw [eS_23]; exact cP (oset t_21.1 hq_22 hD rfl (he_a1 (n := 8) t_21.2 (by decide +kernel)) neI) hP1
  have hD : va_D A (oW cq S_23) := by rw [eS_23]; exact cD (oset t_21.1 hq_22 hD rfl (he_a1 (n := 8) t_21.2 (by decide +kernel)) neI) hD1
  clear hP1 hD1
  have hIS_23 : oInv S_23 := by rw [eS_23]; exact oInv.A (k := 108) hIS_14 t_21.2 (by decide +kernel)
  have XS_23 : oX [2108] S_14 S_23 := by rw [eS_23]; exact oX.I (k := 108) (key := 2108) t_21.2 rfl (List.mem_singleton.mpr rfl)
  have pk_24 : oP S_23 o 8 = some lw := by rw [eS_23]; exact pk_15
  have pk_25 : oP S_23 o 12 = some lt := by rw [eS_23]; exact pk_16
  have X_26 : oX [2108, 5001] Z S_23 := oX.st X_17 XS_23 (by decide +kernel)
  have g_27 : (oI S_23 o 0).toInt = (oI S_14 o 0).toInt := by rw [eS_23, setI_oth (ty_ne t_19 t_21 (by decide +kernel))]
  refine lv_aload_n hx hb dX10_signWorth_22 rfl (lv_at hl 0 rfl) ?_
  have t_28 : oty S_23 o 10 := (oX.ty XS_23 t_19)
  obtain ⟨q_29, hq_29⟩ := og (cq := cq) t_28.1 (oE_10 t_28.2)
  refine va_get (D := (dC, dI)) (ci := 10) (v := .ref lt) (C := RX10) (T := TX10) (N := 16) hx hb hts in_wsX10_signWorth_X10 hown hK hP q_29 hq_29 rfl 12 (by decide +kernel) (hts (.fieldLink RX10 59 "ShipOffice" "letters" "[I") iw_X10_signWorth_1) (fun _ h9 => h9) (o_rd pk_25) dX10_signWorth_23 ?_
  refine lv_iconst (v := 2) hx hb dX10_signWorth_26 (by decide +kernel) ?_
  refine lv_aload_n hx hb dX10_signWorth_27 rfl (lv_at hl 1 rfl) ?_
  refine lv_aload_n hx hb dX10_signWorth_28 rfl (lv_at hl 0 rfl) ?_
  refine va_get (D := (dC, dI)) (ci := 10) (v := .int (oI S_23 o 0)) (C := RX10) (T := TX10) (N := 16) hx hb hts in_wsX10_signWorth_X10 hown hK hP q_29 hq_29 rfl 0 (by decide +kernel) (hts (.fieldLink RX10 73 "ShipOffice" "now" "I") iw_X10_signWorth_2) (fun _ h9 => h9) rfl dX10_signWorth_29 ?_
  refine lv_topi (fun x_30 ex_30 => ?_)
  have hx_30 : 0 ≤ x_30.toInt ∧ x_30.toInt ≤ 3000 := iv_of ex_30 (oInv.iv hIS_23 t_28.2 rfl rfl)
  have gx_30 : x_30.toInt = (oI S_23 o 0).toInt := iv_to ex_30
  clear ex_30
  have t_31 : oty S_23 a1 6 := (oX.ty XS_23 (oX.ty XS_14 (oX.ty XS_4 ta1)))
  have hFc : ∀ q, va_A [] H.size q → A q := pu_free hS hA
  obtain ⟨q_32, hq_32⟩ := og (cq := cq) t_31.1 (oE_6 t_31.2)
  refine va_calli (va_runV (As := [.int x_30]) (rest := [.int 2, .ref lt]) ⟨hx, hb, hml, hown, hts⟩ (c_X6_yearsOn_c l dC dI H.size cq S_23 hIS_23 a1 t_31 x_30) (cwV 1 hts gX10_signWorth_X6_yearsOn rfl rfl rfl (by decide +kernel) ⟨(Nat.le_of_ble_eq_true rfl), (Nat.le_of_ble_eq_true rfl)⟩) (pr_V (r := (RX6, TX6, 6)) hP hK hD q_32 6 rfl hq_32) rfl rfl hl.1 rfl (lv_room (Nat.le_of_ble_eq_true rfl)) dX10_signWorth_32 ⟨(Nat.le_of_ble_eq_true rfl), (Nat.le_of_ble_eq_true rfl)⟩) hS (fun q _ h => hFc q h) hFc (fun r_34 u t H locs ht hvm w_33 hB hz1 hk1 hS => ?_)
  have hP := pu_keep hP hk1
  clear hk1 hz1 hvm hB ht hFc
  have hx_35 := w_33
  have t_36 : oty S_23 lt 108 := (oX.ty XS_23 t_21)
  obtain ⟨q_37, hq_37⟩ := og (cq := cq) t_36.1 (oE_a1 (n := 8) t_36.2 (by decide +kernel))
  refine va_iast hx hb hK hP hD hS q_37 0 hq_37 rfl (by unfold vp_in; decide) dX10_signWorth_35 (fun H locs hP1 hD1 hS => ?_)
  obtain ⟨S_38, eS_38⟩ : ∃ zq, zq = setI S_23 lt (2 : Int32).toNatClampNeg r_34 := ⟨_, rfl⟩
  have hP : va_P (dC, dI) vwCl (oW cq S_38) H := by rw [eS_38]; exact cP (oset t_36.1 hq_37 hD rfl (he_a1 (n := 8) t_36.2 (by decide +kernel)) neI) hP1
  have hD : va_D A (oW cq S_38) := by rw [eS_38]; exact cD (oset t_36.1 hq_37 hD rfl (he_a1 (n := 8) t_36.2 (by decide +kernel)) neI) hD1
  clear hP1 hD1
  have hIS_38 : oInv S_38 := by rw [eS_38]; exact oInv.A (k := 108) hIS_23 t_36.2 (by decide +kernel)
  have XS_38 : oX [2108] S_23 S_38 := by rw [eS_38]; exact oX.I (k := 108) (key := 2108) t_36.2 rfl (List.mem_singleton.mpr rfl)
  have pk_39 : oP S_38 o 8 = some lw := by rw [eS_38]; exact pk_24
  have pk_40 : oP S_38 o 12 = some lt := by rw [eS_38]; exact pk_25
  have X_41 : oX [2108, 5001] Z S_38 := oX.st X_26 XS_38 (by decide +kernel)
  have g_42 : (oI S_38 o 0).toInt = (oI S_23 o 0).toInt := by rw [eS_38, setI_oth (ty_ne t_28 t_36 (by decide +kernel))]
  refine lv_aload_n hx hb dX10_signWorth_36 rfl (lv_at hl 0 rfl) ?_
  have t_43 : oty S_38 o 10 := (oX.ty XS_38 t_28)
  obtain ⟨q_44, hq_44⟩ := og (cq := cq) t_43.1 (oE_10 t_43.2)
  refine va_get (D := (dC, dI)) (ci := 10) (v := .ref lw) (C := RX10) (T := TX10) (N := 16) hx hb hts in_wsX10_signWorth_X10 hown hK hP q_44 hq_44 rfl 8 (by decide +kernel) (hts (.fieldLink RX10 30 "ShipOffice" "law" "LShipOffice$Law;") iw_X10_signWorth_3) (fun _ h9 => h9) (o_rd pk_39) dX10_signWorth_37 ?_
  refine lv_iconst (v := 0) hx hb dX10_signWorth_40 (by decide +kernel) ?_
  refine lv_aload_n hx hb dX10_signWorth_41 rfl (lv_at hl 0 rfl) ?_
  refine va_get (D := (dC, dI)) (ci := 10) (v := .int (oI S_38 o 0)) (C := RX10) (T := TX10) (N := 16) hx hb hts in_wsX10_signWorth_X10 hown hK hP q_44 hq_44 rfl 0 (by decide +kernel) (hts (.fieldLink RX10 73 "ShipOffice" "now" "I") iw_X10_signWorth_2) (fun _ h9 => h9) rfl dX10_signWorth_42 ?_
  refine lv_topi (fun x_45 ex_45 => ?_)
  have hx_45 : 0 ≤ x_45.toInt ∧ x_45.toInt ≤ 3000 := iv_of ex_45 (oInv.iv hIS_38 t_43.2 rfl rfl)
  have gx_45 : x_45.toInt = (oI S_38 o 0).toInt := iv_to ex_45
  clear ex_45
  have hLS : rLw S_38 lw v fa := rLw_o (W := [2108]) (oX.st (oX.st (oX.st (oX.st oX.rf XS_4 (by decide +kernel)) XS_14 (by decide +kernel)) XS_23 (by decide +kernel)) XS_38 (by decide +kernel)) gI tlw (by decide +kernel) hLZ
  have t_46 : oty S_38 lw 5 := (oX.ty XS_38 (oX.ty XS_23 (oX.ty XS_14 (oX.ty XS_4 tlw))))
  have hFc : ∀ q, va_A [] H.size q → A q := pu_free hS hA
  obtain ⟨q_47, hq_47⟩ := og (cq := cq) t_46.1 (oE_5 t_46.2)
  refine va_callq (va_runV (As := [.int 0, .int x_45]) (rest := []) ⟨hx, hb, hml, hown, hts⟩ (c_X5_inForce_c l dC dI H.size cq S_38 hIS_38 lw t_46 0 (by decide +kernel) x_45 v fa hLS) (cwV 2 hts gX10_signWorth_X5_inForce rfl rfl rfl (by decide +kernel) ⟨(Nat.le_of_ble_eq_true rfl), (Nat.le_of_ble_eq_true rfl)⟩) (pr_V (r := (RX5, TX5, 3)) hP hK hD q_47 5 rfl hq_47) rfl rfl hl.1 rfl (lv_room (Nat.le_of_ble_eq_true rfl)) dX10_signWorth_45 ⟨(Nat.le_of_ble_eq_true rfl), (Nat.le_of_ble_eq_true rfl)⟩) hS (fun q _ h => hFc q h) hFc (fun r_49 u t H locs ht hvm w_48 hB hz1 hk1 hS => ?_)
  have hP := pu_keep hP hk1
  clear hk1 hz1 hvm hB ht hFc
  obtain ⟨hk_50, hx_51⟩ := w_48
  obtain ⟨b_52, rfl, tb_52⟩ := hk_50
  refine W.eq (g2 := F0 m 48 ls [.ref b_52]) rfl ?_
  refine lv_aload_n hx hb dX10_signWorth_48 rfl (lv_at hl 0 rfl) ?_
  refine va_get (D := (dC, dI)) (ci := 10) (v := .ref lt) (C := RX10) (T := TX10) (N := 16) hx hb hts in_wsX10_signWorth_X10 hown hK hP q_44 hq_44 rfl 12 (by decide +kernel) (hts (.fieldLink RX10 59 "ShipOffice" "letters" "[I") iw_X10_signWorth_1) (fun _ h9 => h9) (o_rd pk_40) dX10_signWorth_49 ?_
  have eyr : r_34 = yrs v fa mn_ := by rw [hx_35]; unfold yrs; rw [show x_30 = v 38 from Int32.toInt_inj.mp (by omega), show oI S_23 a1 3 = fa 4 mn_ from Int32.toInt_inj.mp (by rw [show oI S_23 a1 3 = oI Z a1 3 from oX.i (W := [2108]) (oX.st (oX.st (oX.st oX.rf XS_4 (by decide +kernel)) XS_14 (by decide +kernel)) XS_23 (by decide +kernel)) ta1 (by decide +kernel)]; omega)]
  have hqO : eqO (oI S_38 lt) (ltS x2 x3 (yrs v fa mn_)) := lt_sg hx_5 (by rw [eS_38, setI_fun, eS_23, setI_fun, eS_14, setI_fun, eyr]; rfl)
  have hyi : 0 ≤ (yrs v fa mn_).toInt ∧ (yrs v fa mn_).toInt ≤ 1000 := yr_i (by omega) (by have q := (RC.p hR).1 mn_ hmn; omega)
  obtain ⟨Ew, hCw, hXw⟩ := actW (b := b_52) (p := 0) (d := (v 38).toInt) (R := ltS x2 x3 (yrs v fa mn_)) (L := oI S_38 lt) hLS (by have q := Option.some.inj hx_51; rw [show (0 : Int32).toInt = 0 from (by decide +kernel), show x_45.toInt = (v 38).toInt from (by omega)] at q; exact q) (by decide +kernel) hqO (ok_sg (by omega) (by omega) hyi)
  obtain ⟨hlw, cdw, skw, cw1, tcdw, cw2, tskw, hEw⟩ := hCw
  have t_53 : oty S_38 lt 108 := (oX.ty XS_38 t_36)
  have hFc := o_free hD hS hA
  obtain ⟨q_54, hq_54⟩ := og (cq := cq) tb_52.1 (oE_0 tb_52.2)
  refine va_calli (va_runV (As := [.ref lt]) (rest := []) ⟨hx, hb, hml, hown, hts⟩ (c_X0_worth_f l dC dI H.size cq S_38 hIS_38 b_52 tb_52 lt t_53 cdw skw Ew.length cw1 cw2 hlw tcdw tskw Ew rfl hEw) (cwV 1 hts gX10_signWorth_X0_worth rfl rfl rfl (by decide +kernel) ⟨(Nat.le_of_ble_eq_true rfl), (Nat.le_of_ble_eq_true rfl)⟩) (pr_V (r := (RX0, TX0, 5)) hP hK hD q_54 0 rfl hq_54) rfl rfl hl.1 rfl (lv_room (Nat.le_of_ble_eq_true rfl)) dX10_signWorth_52 ⟨(Nat.le_of_ble_eq_true rfl), (Nat.le_of_ble_eq_true rfl)⟩) hS (fun q _ h => hFc q h) hFc (fun r_56 u t H locs ht hvm w_55 hB hz1 hk1 hS => ?_)
  obtain ⟨S_57, rfl⟩ : ∃ z, z = u := ⟨_, rfl⟩
  obtain ⟨hP1, hK1, hD1⟩ := hB
  rw [ht] at hP1
  have hP : va_P (dC, dI) vwCl (oW cq S_57) H := hP1
  have hD : va_D A (oW cq S_57) := hD1.weaken (fun _ _ _ h => hFc _ h)
  clear hP1 hK1 hD1 hk1 hz1 hvm ht hFc
  obtain ⟨hIS_57, XS_57, hx_58⟩ := w_55
  have X_59 : oX [2108, 5001] Z S_57 := oX.st X_41 XS_57 (by decide +kernel)
  have g_60 : (oI S_57 o 0).toInt = (oI S_38 o 0).toInt := by rw [oX.i XS_57 t_43 (by decide +kernel)]
  have pk_61 : oP S_57 o 8 = some lw := by rw [oX.p XS_57 t_43 (by decide +kernel)]; exact pk_39
  have pk_62 : oP S_57 o 12 = some lt := by rw [oX.p XS_57 t_43 (by decide +kernel)]; exact pk_40
  exact W.iret (v := r_56) hx hb hr (fun t ht hW => ⟨⟨r_56, S_57, rfl, ⟨hIS_57, X_59, (hx_58 _ hXw)⟩, ⟨by rw [ht]; exact hP, va_K.moved hW.alike hK, hD⟩⟩, hS.F ht⟩) hS.2.2 dX10_signWorth_55
