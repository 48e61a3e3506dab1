

/-- what nextChange says -/
def ncR (v : Nat → Int32) (fa : Nat → Nat → Int32) (a : Nat) (k d r : Int) : Prop := d < r ∧ r ≤ 1000000 ∧ ∀ t, d ≤ t → t < r → stF v fa a t k = stF v fa a d k
set_option maxHeartbeats 4000000 in
set_option maxRecDepth 100000 in
theorem c_X1_nextChange_c (l : Launch) (dC : Nat → ClassId) (dI : Nat → Nat → Nat) (sz : Nat) (cq : Nat → ClassId) (Z : oS) (gI : oInv Z) (o : Nat) (to : oty Z o 1) (x1 : Int32) (hx1 : 0 ≤ x1.toInt ∧ x1.toInt ≤ 3000) (x2 : Int32) (hx2 : 0 ≤ x2.toInt ∧ x2.toInt ≤ 3000) (a3 : Nat) (ta3 : oty Z a3 5) (h0 : Nat) (th : oty Z h0 10) (v : Nat → Int32) (fa : Nat → Nat → Int32) (hR : RC Z h0 v fa) (a : Nat) (ha : a < (v 43).toNatClampNeg) (ea : o = agA Z h0 a) (hLr : rLw Z a3 v fa) (hsg : (fa 25 a).toInt ≤ x1.toInt) : Met l yX1_nextChange wsX1_nextChange ({ frames := 1, cells := 0, slots := 0, locals := 25 }) (va_Pc [.ref o, .int x1, .int x2, .ref a3] (pcW (dC, dI) (oT cq) (oW cq Z) sz)) (va_Qi (fun (r : Int32) (u : Unit) => (1 ≤ r.toInt ∧ r.toInt ≤ 1000000) ∧ (ncR v fa a x2.toInt x1.toInt r.toInt)) (fun _ _ => True) (va_A [] sz)) 0 0 (va_A [] sz) := by
  refine Met.ofW (cc := cX1_nextChange) (maxL := 6) (ret := (some .int)) (by decide) rfl ?_
  intro p e s m args below meth c s₁ B hml hv
  obtain ⟨rfl, hsz, hP, hK, hD0⟩ := hv
  have hx := B.exec
  have hb := B.bytes
  have hr := B.returns
  have hts := atoms_spec (ws := wsX1_nextChange) B.pre
  have hown : s.vm.findClass RX1 = some m.cls := findClass_of_methodNamed B.named
  have hlocks := B.notSynchronized
  subst hsz
  have hD := hD0
  generalize hAe : va_A [] s.heap.size = A at ⊢
  have hA : ∀ q : Nat, s.heap.size ≤ q → A q := fun q h => by rw [← hAe]; exact Or.inr h
  have hS : va_S A s.heap s.heap [] := va_S.rf
  have hP : va_P (dC, dI) vwCl (oW cq Z) s.heap := hP
  have hl := lv_entry ([.ref o, .int x1, .int x2, .ref a3]) (n := 6) (Nat.le_of_ble_eq_true rfl)
  rw [lg_entry_eq]
  generalize (lg_sl ([.ref o, .int x1, .int x2, .ref a3]) ++ List.replicate (6 - (lg_sl ([.ref o, .int x1, .int x2, .ref a3])).length) Slot.unset).toArray = ls at hl ⊢
  have hl : lv_has ls 6 [(0, .ref o), (1, .int x1), (2, .int x2), (3, .ref a3)] := hl
  obtain ⟨fn0, fn1, fn2, fn3, fn4⟩ := RC.n hR
  have fb38 : 0 ≤ (v 38).toInt ∧ (v 38).toInt ≤ 3000 := RC.V hR 38
  have fb39 : 0 ≤ (v 39).toInt ∧ (v 39).toInt ≤ 40 := RC.V hR 39
  have fb40 : 0 ≤ (v 40).toInt ∧ (v 40).toInt ≤ 20 := RC.V hR 40
  have fb43 : 0 ≤ (v 43).toInt ∧ (v 43).toInt ≤ 60 := RC.V hR 43
  have fb41 : 0 ≤ (v 41).toInt ∧ (v 41).toInt ≤ 200 := RC.V hR 41
  have fAo := RC.a hR ha
  rw [← ea] at fAo
  obtain ⟨⟨fm1o, fm2o, fm3o⟩, ⟨fv1o, fv2o, fv3o⟩, fsio, fppo, fwgo, frko, fofo, fdeo, fcho⟩ := fAo
  have fBo : 0 ≤ (fa 25 a).toInt ∧ (fa 25 a).toInt ≤ 3000 := RC.A hR 25 _
  have lamo : (fa 20 a).toNatClampNeg < (v 39).toNatClampNeg := ni_lt fm1o fm2o
  have namo : (((fa 20 a).toNatClampNeg : Nat) : Int) = (fa 20 a).toInt := tn_i fm1o
  obtain ⟨amo, eamo⟩ : ∃ z, z = mnA Z h0 (fa 20 a).toNatClampNeg := ⟨_, rfl⟩
  rw [← eamo] at fm3o
  have tamo : oty Z amo 6 := by rw [eamo]; exact (RC.tm hR gI th lamo).2
  have fMamo := RC.m hR lamo
  rw [← eamo] at fMamo
  obtain ⟨fz0amo, fz1amo, fz2amo, fz3amo⟩ := fMamo
  rw [namo] at fz0amo
  have lavo : (fa 21 a).toNatClampNeg < (v 40).toNatClampNeg := ni_lt fv1o fv2o
  have navo : (((fa 21 a).toNatClampNeg : Nat) : Int) = (fa 21 a).toInt := tn_i fv1o
  obtain ⟨avo, eavo⟩ : ∃ z, z = voA Z h0 (fa 21 a).toNatClampNeg := ⟨_, rfl⟩
  rw [← eavo] at fv3o
  have tavo : oty Z avo 9 := by rw [eavo]; exact (RC.tv hR gI th lavo).2
  have fVavo := RC.vo hR lavo
  rw [← eavo] at fVavo
  obtain ⟨fy0avo, fy1avo, fy2avo, fy3avo, fy4avo, fySavo, fyLavo, fyhavo⟩ := fVavo
  have fBavo : 0 ≤ (fa 7 ((fa 21 a).toNatClampNeg)).toInt ∧ (fa 7 ((fa 21 a).toNatClampNeg)).toInt ≤ 3000 := RC.A hR 7 _
  have fSavo := onc_i fySavo
  have fLavo := onc_i fyLavo
  rw [navo] at fy0avo fSavo fLavo
  have kcM : (1000000 : Int32).toInt = 1000000 := by decide
  refine lv_iload_n hx hb dX1_nextChange_0 rfl (lv_at hl 1 rfl) ?_
  refine lv_aload_n hx hb dX1_nextChange_1 rfl (lv_at hl 0 rfl) ?_
  obtain ⟨q_1, hq_1⟩ := og (cq := cq) to.1 (oE_1 to.2)
  refine va_get (D := (dC, dI)) (ci := 1) (v := .int (oI Z o 6)) (C := RX1) (T := TX1) (N := 18) hx hb hts in_wsX1_nextChange_X1 hown hK hP q_1 hq_1 rfl 6 (by decide) (hts (.fieldLink RX1 10 "ShipOffice$Agreement" "offDay" "I") iw_X1_nextChange_1) (fun _ h9 => h9) rfl dX1_nextChange_2 ?_
  refine lv_topi (fun x_2 ex_2 => ?_)
  have gx_2 : x_2.toInt = (oI Z o 6).toInt := iv_to ex_2
  clear ex_2
  refine lv_ldc (v := 1000000) hx hb hown (hts (.constant RX1 9 (1000000)) (by decide +kernel)) dX1_nextChange_5 ?_
  have hFc : ∀ q, va_A [] s.heap.size q → A q := pu_free hS hA
  have hPc := hP.sub (ws' := []) [] rfl
  have hDc := hD.sub (ws' := []) [] (by decide) rfl
  have hKc := hK.sub (tys' := []) [] rfl
  refine va_calli (va_runS (As := [.int x1, .int x_2, .int 1000000]) (rest := []) ⟨hx, hb, hml, hown, hts⟩ (c_X1_nearer_c l dC dI s.heap.size  x1 x_2 1000000) (va_cwS 3 hts gX1_nextChange_X1_nearer rfl rfl rfl (by decide +kernel) ⟨(Nat.le_of_ble_eq_true rfl), (Nat.le_of_ble_eq_true rfl)⟩) (pr_S hPc hKc hDc) rfl rfl hl.1 rfl (lv_room (Nat.le_of_ble_eq_true rfl)) dX1_nextChange_7 ⟨(Nat.le_of_ble_eq_true rfl), (Nat.le_of_ble_eq_true rfl)⟩) hS (fun q _ h => hFc q h) hFc (fun r_4 u t H locs ht hvm w_3 hB hz1 hk1 hS => ?_)
  have hP := pu_keep hP hk1
  clear hk1 hz1 hvm hB ht hFc hPc hDc hKc
  have hx_5 := w_3
  refine lv_istore (lv' := [(4, .int r_4), (0, .ref o), (1, .int x1), (2, .int x2), (3, .ref a3)]) hx hb dX1_nextChange_10 hl (by decide) rfl (fun ls hl => ?_)
  refine lv_iload_n hx hb dX1_nextChange_12 rfl (lv_at hl 2 rfl) ?_
  refine lv_aload_n hx hb dX1_nextChange_13 rfl (lv_at hl 1 rfl) ?_
  refine va_get (D := (dC, dI)) (ci := 1) (v := .ref avo) (C := RX1) (T := TX1) (N := 18) hx hb hts in_wsX1_nextChange_X1 hown hK hP q_1 hq_1 rfl 1 (by decide) (hts (.fieldLink RX1 33 "ShipOffice$Agreement" "voyage" "LShipOffice$Voyage;") iw_X1_nextChange_2) (fun _ h9 => h9) (o_rd fv3o) dX1_nextChange_14 ?_
  refine lv_iload_n hx hb dX1_nextChange_17 rfl (lv_at hl 2 rfl) ?_
  refine lv_iload_n hx hb dX1_nextChange_18 rfl (lv_at hl 3 rfl) ?_
  have hFc : ∀ q, va_A [] H.size q → A q := pu_free hS hA
  obtain ⟨q_6, hq_6⟩ := og (cq := cq) tavo.1 (oE_9 tavo.2)
  refine va_calli (va_runV (As := [.int x1, .int x2]) (rest := [.int x1]) ⟨hx, hb, hml, hown, hts⟩ (c_X9_nextTold_c l dC dI H.size cq Z gI avo tavo x1 (by omega) x2 h0 th v fa hR ((fa 21 a).toNatClampNeg) lavo eavo (by omega)) (cwV 2 hts gX1_nextChange_X9_nextTold rfl rfl rfl (by decide +kernel) ⟨(Nat.le_of_ble_eq_true rfl), (Nat.le_of_ble_eq_true rfl)⟩) (pr_V (r := (RX9, TX9, 10)) hP hK hD q_6 9 rfl hq_6) rfl rfl hl.1 rfl (lv_room (Nat.le_of_ble_eq_true rfl)) dX1_nextChange_19 ⟨(Nat.le_of_ble_eq_true rfl), (Nat.le_of_ble_eq_true rfl)⟩) hS (fun q _ h => hFc q h) hFc (fun r_8 u t H locs ht hvm w_7 hB hz1 hk1 hS => ?_)
  have hP := pu_keep hP hk1
  clear hk1 hz1 hvm hB ht hFc
  obtain ⟨hb_9, hx_10⟩ := w_7
  have hx_10n := hx_10
  rw [navo] at hx_10n
  have hnt9 := hx_10.1
  refine lv_iload hx hb dX1_nextChange_22 (lv_at hl 0 rfl) ?_
  have hFc : ∀ q, va_A [] H.size q → A q := pu_free hS hA
  have hPc := hP.sub (ws' := []) [] rfl
  have hDc := hD.sub (ws' := []) [] (by decide) rfl
  have hKc := hK.sub (tys' := []) [] rfl
  refine va_calli (va_runS (As := [.int x1, .int r_8, .int r_4]) (rest := []) ⟨hx, hb, hml, hown, hts⟩ (c_X1_nearer_c l dC dI H.size  x1 r_8 r_4) (va_cwS 3 hts gX1_nextChange_X1_nearer rfl rfl rfl (by decide +kernel) ⟨(Nat.le_of_ble_eq_true rfl), (Nat.le_of_ble_eq_true rfl)⟩) (pr_S hPc hKc hDc) rfl rfl hl.1 rfl (lv_room (Nat.le_of_ble_eq_true rfl)) dX1_nextChange_24 ⟨(Nat.le_of_ble_eq_true rfl), (Nat.le_of_ble_eq_true rfl)⟩) hS (fun q _ h => hFc q h) hFc (fun r_12 u t H locs ht hvm w_11 hB hz1 hk1 hS => ?_)
  have hP := pu_keep hP hk1
  clear hk1 hz1 hvm hB ht hFc hPc hDc hKc
  have hx_13 := w_11
  refine lv_istore (lv' := [(4, .int r_12), (0, .ref o), (1, .int x1), (2, .int x2), (3, .ref a3)]) hx hb dX1_nextChange_27 hl (by decide) rfl (fun ls hl => ?_)
  refine lv_iload_n hx hb dX1_nextChange_29 rfl (lv_at hl 2 rfl) ?_
  refine lv_aload_n hx hb dX1_nextChange_30 rfl (lv_at hl 4 rfl) ?_
  refine lv_iload_n hx hb dX1_nextChange_31 rfl (lv_at hl 2 rfl) ?_
  have hFc : ∀ q, va_A [] H.size q → A q := pu_free hS hA
  obtain ⟨q_14, hq_14⟩ := og (cq := cq) ta3.1 (oE_5 ta3.2)
  refine va_calli (va_runV (As := [.int x1]) (rest := [.int x1]) ⟨hx, hb, hml, hown, hts⟩ (c_X5_nextPresume_c l dC dI H.size cq Z gI a3 ta3 x1 (by omega) v fa hLr) (cwV 1 hts gX1_nextChange_X5_nextPresume rfl rfl rfl (by decide +kernel) ⟨(Nat.le_of_ble_eq_true rfl), (Nat.le_of_ble_eq_true rfl)⟩) (pr_V (r := (RX5, TX5, 3)) hP hK hD q_14 5 rfl hq_14) rfl rfl hl.1 rfl (lv_room (Nat.le_of_ble_eq_true rfl)) dX1_nextChange_32 ⟨(Nat.le_of_ble_eq_true rfl), (Nat.le_of_ble_eq_true rfl)⟩) hS (fun q _ h => hFc q h) hFc (fun r_16 u t H locs ht hvm w_15 hB hz1 hk1 hS => ?_)
  have hP := pu_keep hP hk1
  clear hk1 hz1 hvm hB ht hFc
  obtain ⟨hb_17, hx_18⟩ := w_15
  have hnp9 := hx_18.1
  refine lv_iload hx hb dX1_nextChange_35 (lv_at hl 0 rfl) ?_
  have hFc : ∀ q, va_A [] H.size q → A q := pu_free hS hA
  have hPc := hP.sub (ws' := []) [] rfl
  have hDc := hD.sub (ws' := []) [] (by decide) rfl
  have hKc := hK.sub (tys' := []) [] rfl
  refine va_calli (va_runS (As := [.int x1, .int r_16, .int r_12]) (rest := []) ⟨hx, hb, hml, hown, hts⟩ (c_X1_nearer_c l dC dI H.size  x1 r_16 r_12) (va_cwS 3 hts gX1_nextChange_X1_nearer rfl rfl rfl (by decide +kernel) ⟨(Nat.le_of_ble_eq_true rfl), (Nat.le_of_ble_eq_true rfl)⟩) (pr_S hPc hKc hDc) rfl rfl hl.1 rfl (lv_room (Nat.le_of_ble_eq_true rfl)) dX1_nextChange_37 ⟨(Nat.le_of_ble_eq_true rfl), (Nat.le_of_ble_eq_true rfl)⟩) hS (fun q _ h => hFc q h) hFc (fun r_20 u t H locs ht hvm w_19 hB hz1 hk1 hS => ?_)
  have hP := pu_keep hP hk1
  clear hk1 hz1 hvm hB ht hFc hPc hDc hKc
  have hx_21 := w_19
  refine lv_istore (lv' := [(4, .int r_20), (0, .ref o), (1, .int x1), (2, .int x2), (3, .ref a3)]) hx hb dX1_nextChange_40 hl (by decide) rfl (fun ls hl => ?_)
  refine lv_iload_n hx hb dX1_nextChange_42 rfl (lv_at hl 2 rfl) ?_
  refine lv_aload_n hx hb dX1_nextChange_43 rfl (lv_at hl 1 rfl) ?_
  refine va_get (D := (dC, dI)) (ci := 1) (v := .ref avo) (C := RX1) (T := TX1) (N := 18) hx hb hts in_wsX1_nextChange_X1 hown hK hP q_1 hq_1 rfl 1 (by decide) (hts (.fieldLink RX1 33 "ShipOffice$Agreement" "voyage" "LShipOffice$Voyage;") iw_X1_nextChange_2) (fun _ h9 => h9) (o_rd fv3o) dX1_nextChange_44 ?_
  refine lv_iload_n hx hb dX1_nextChange_47 rfl (lv_at hl 2 rfl) ?_
  refine lv_iload_n hx hb dX1_nextChange_48 rfl (lv_at hl 3 rfl) ?_
  have hFc : ∀ q, va_A [] H.size q → A q := pu_free hS hA
  refine va_calli (va_runV (As := [.int x1, .int x2]) (rest := [.int x1]) ⟨hx, hb, hml, hown, hts⟩ (c_X9_lastHeard_c l dC dI H.size cq Z gI avo tavo x1 x2 h0 th v fa hR ((fa 21 a).toNatClampNeg) lavo eavo (by omega)) (cwV 2 hts gX1_nextChange_X9_lastHeard rfl rfl rfl (by decide +kernel) ⟨(Nat.le_of_ble_eq_true rfl), (Nat.le_of_ble_eq_true rfl)⟩) (pr_V (r := (RX9, TX9, 10)) hP hK hD q_6 9 rfl hq_6) rfl rfl hl.1 rfl (lv_room (Nat.le_of_ble_eq_true rfl)) dX1_nextChange_49 ⟨(Nat.le_of_ble_eq_true rfl), (Nat.le_of_ble_eq_true rfl)⟩) hS (fun q _ h => hFc q h) hFc (fun r_23 u t H locs ht hvm w_22 hB hz1 hk1 hS => ?_)
  have hP := pu_keep hP hk1
  clear hk1 hz1 hvm hB ht hFc
  obtain ⟨hb_24, hx_25⟩ := w_22
  have hx_25n := hx_25
  rw [navo] at hx_25n
  refine lv_aload_n hx hb dX1_nextChange_52 rfl (lv_at hl 4 rfl) ?_
  refine lv_iconst (v := 4) hx hb dX1_nextChange_53 (by decide) ?_
  refine lv_iload_n hx hb dX1_nextChange_54 rfl (lv_at hl 2 rfl) ?_
  have hFc : ∀ q, va_A [] H.size q → A q := pu_free hS hA
  refine va_callq (va_runV (As := [.int 4, .int x1]) (rest := [.int r_23, .int x1]) ⟨hx, hb, hml, hown, hts⟩ (c_X5_inForce_c l dC dI H.size cq Z gI a3 ta3 4 (by decide) x1 v fa hLr) (cwV 2 hts gX1_nextChange_X5_inForce rfl rfl rfl (by decide +kernel) ⟨(Nat.le_of_ble_eq_true rfl), (Nat.le_of_ble_eq_true rfl)⟩) (pr_V (r := (RX5, TX5, 3)) hP hK hD q_14 5 rfl hq_14) rfl rfl hl.1 rfl (lv_room (Nat.le_of_ble_eq_true rfl)) dX1_nextChange_55 ⟨(Nat.le_of_ble_eq_true rfl), (Nat.le_of_ble_eq_true rfl)⟩) hS (fun q _ h => hFc q h) hFc (fun r_27 u t H locs ht hvm w_26 hB hz1 hk1 hS => ?_)
  have hP := pu_keep hP hk1
  clear hk1 hz1 hvm hB ht hFc
  obtain ⟨hk_28, hx_29⟩ := w_26
  obtain ⟨b_30, rfl, tb_30⟩ := hk_28
  refine W.eq (g2 := F0 m 58 ls [.ref b_30, .int r_23, .int x1]) rfl ?_
  have hpwb_30 : (oI Z b_30 2).toInt = wPr v fa x1.toInt := ifA_w hLr (by have q := hx_29; rw [show (4 : Int32).toInt = 4 from (by decide)] at q; exact Option.some.inj q)
  have hpbb_30 := wPr_b (d := x1.toInt) (rLw_wl hLr)
  obtain ⟨q_31, hq_31⟩ := og (cq := cq) tb_30.1 (oE_0 tb_30.2)
  refine va_get (D := (dC, dI)) (ci := 0) (v := .int (oI Z b_30 2)) (C := RX0) (T := TX0) (N := 5) hx hb hts in_wsX1_nextChange_X0 hown hK hP q_31 hq_31 rfl 2 (by decide) (hts (.fieldLink RX1 82 "ShipOffice$Act" "plainWorth" "I") iw_X1_nextChange_3) (fun _ h9 => h9) rfl dX1_nextChange_58 ?_
  refine lv_topi (fun x_32 ex_32 => ?_)
  have hx_32 : -1000000000 ≤ x_32.toInt ∧ x_32.toInt ≤ 1000000000 := iv_of ex_32 (by omega)
  have gx_32 : x_32.toInt = (oI Z b_30 2).toInt := iv_to ex_32
  clear ex_32
  refine lv_iadd hx hb dX1_nextChange_61 ?_
  refine lv_topi (fun x_33 ex_33 => ?_)
  have hx_33 : x_33.toInt = r_23.toInt + x_32.toInt := (iv_to ex_33).trans (ad_i rfl rfl (by omega) (by omega))
  clear ex_33
  refine lv_iconst (v := 1) hx hb dX1_nextChange_62 (by decide) ?_
  refine lv_iadd hx hb dX1_nextChange_63 ?_
  refine lv_topi (fun x_34 ex_34 => ?_)
  have hx_34 : x_34.toInt = x_33.toInt + 1 := (iv_to ex_34).trans (ad_i rfl (by decide) (by omega) (by omega))
  clear ex_34
  refine lv_iload hx hb dX1_nextChange_64 (lv_at hl 0 rfl) ?_
  have hFc : ∀ q, va_A [] H.size q → A q := pu_free hS hA
  have hPc := hP.sub (ws' := []) [] rfl
  have hDc := hD.sub (ws' := []) [] (by decide) rfl
  have hKc := hK.sub (tys' := []) [] rfl
  refine va_calli (va_runS (As := [.int x1, .int x_34, .int r_20]) (rest := []) ⟨hx, hb, hml, hown, hts⟩ (c_X1_nearer_c l dC dI H.size  x1 x_34 r_20) (va_cwS 3 hts gX1_nextChange_X1_nearer rfl rfl rfl (by decide +kernel) ⟨(Nat.le_of_ble_eq_true rfl), (Nat.le_of_ble_eq_true rfl)⟩) (pr_S hPc hKc hDc) rfl rfl hl.1 rfl (lv_room (Nat.le_of_ble_eq_true rfl)) dX1_nextChange_66 ⟨(Nat.le_of_ble_eq_true rfl), (Nat.le_of_ble_eq_true rfl)⟩) hS (fun q _ h => hFc q h) hFc (fun r_36 u t H locs ht hvm w_35 hB hz1 hk1 hS => ?_)
  have hP := pu_keep hP hk1
  clear hk1 hz1 hvm hB ht hFc hPc hDc hKc
  have hx_37 := w_35
  refine lv_istore (lv' := [(4, .int r_36), (0, .ref o), (1, .int x1), (2, .int x2), (3, .ref a3)]) hx hb dX1_nextChange_69 hl (by decide) rfl (fun ls hl => ?_)
  refine lv_aload_n hx hb dX1_nextChange_71 rfl (lv_at hl 1 rfl) ?_
  rcases hb_39 : oP Z o 8 with _ | b_38
  · refine va_get (D := (dC, dI)) (ci := 1) (v := .null) (C := RX1) (T := TX1) (N := 18) hx hb hts in_wsX1_nextChange_X1 hown hK hP q_1 hq_1 rfl 8 (by decide) (hts (.fieldLink RX1 87 "ShipOffice$Agreement" "tidings" "LShipOffice$Happening;") iw_X1_nextChange_4) (fun _ h9 => h9) (o_rd hb_39) dX1_nextChange_72 ?_
    refine lv_astoreN (lv' := [(5, .null), (4, .int r_36), (0, .ref o), (1, .int x1), (2, .int x2), (3, .ref a3)]) hx hb dX1_nextChange_75 hl (by decide) rfl (fun ls hl => ?_)
    have cut_40 : ∀ (n : Nat) (y_41 : Option Nat) (y_42 : Int32) (H : Heap) (locs : List Loc) (ls : Array Slot), (oR Z y_41 : Int) ≤ (n : Int) → (∀ b, y_41 = some b → oty Z b 3) → (1 ≤ y_42.toInt ∧ y_42.toInt ≤ 1000000) → (x1.toInt < y_42.toInt ∧ y_42.toInt ≤ r_36.toInt) → chQ Z v fa (pA fa (a : Int)) x2.toInt x1.toInt y_42.toInt y_41 → va_P (dC, dI) vwCl (oW cq Z) H → va_S A s.heap H locs → lv_has ls 6 [(5, va_rf y_41), (4, .int y_42), (0, .ref o), (1, .int x1), (2, .int x2), (3, .ref a3)] → W p l e (headSpec wsX1_nextChange { frames := 1, cells := 0, slots := 0, locals := 25 }).room s m #[Value.ref o, Value.int x1, Value.int x2, Value.ref a3] below meth c H locs 0 0 (MQ below (va_Qi (fun (r : Int32) (u : Unit) => (1 ≤ r.toInt ∧ r.toInt ≤ 1000000) ∧ (ncR v fa a x2.toInt x1.toInt r.toInt)) (fun _ _ => True) A) #[Value.ref o, Value.int x1, Value.int x2, Value.ref a3] s 0 0 A) (F0 m 77 ls []) := by
      intro n
      induction n using Nat.strongRecOn with
      | ind n ih =>
        intro y_41 y_42 H locs ls hm ty_41 hy_42 hq0_cut_40 hq1_cut_40 hP hS hl
        rcases y_41 with _ | b_43
        · have hl : lv_has ls 6 [(5, .null), (4, .int y_42), (0, .ref o), (1, .int x1), (2, .int x2), (3, .ref a3)] := hl
          refine lv_aloadN hx hb dX1_nextChange_77 (lv_at hl 0 rfl) ?_
          refine lv_ifnullN (tgt := 114) hx hb dX1_nextChange_79 (by decide) ?_
          refine lv_iload hx hb dX1_nextChange_114 (lv_at hl 1 rfl) ?_
          exact W.iret (v := y_42) hx hb hr (fun t ht hW => ⟨⟨y_42, (), rfl, ⟨(by omega), ⟨by omega, by omega, fun t h1 h2 => stF_q hsg (by omega) (qV_m hx_10n.2.2 (by omega)) (fun i i1 i2 i3 i4 => chQ_n hq1_cut_40 i i1 ⟨i2, i3⟩ i4) (qP_m hx_18.2 (by omega)) (by omega) h1 h2⟩⟩, trivial⟩, hS.F ht⟩) hS.2.2 dX1_nextChange_116
        · have hl : lv_has ls 6 [(5, .ref b_43), (4, .int y_42), (0, .ref o), (1, .int x1), (2, .int x2), (3, .ref a3)] := hl
          have tb_43 : oty Z b_43 3 := ty_41 b_43 rfl
          have rb_43 : oR Z (some b_43) = oG Z b_43 + 1 := rfl
          refine lv_aload hx hb dX1_nextChange_77 (lv_at hl 0 rfl) ?_
          refine lv_ifnull hx hb dX1_nextChange_79 ?_
          refine lv_aload hx hb dX1_nextChange_82 (lv_at hl 0 rfl) ?_
          obtain ⟨q_44, hq_44⟩ := og (cq := cq) tb_43.1 (oE_3 tb_43.2)
          refine va_get (D := (dC, dI)) (ci := 3) (v := .int (oI Z b_43 2)) (C := RX3) (T := TX3) (N := 6) hx hb hts in_wsX1_nextChange_X3 hown hK hP q_44 hq_44 rfl 2 (by decide) (hts (.fieldLink RX1 91 "ShipOffice$Happening" "told" "I") iw_X1_nextChange_5) (fun _ h9 => h9) rfl dX1_nextChange_84 ?_
          refine lv_topi (fun x_45 ex_45 => ?_)
          have gx_45 : x_45.toInt = (oI Z b_43 2).toInt := iv_to ex_45
          clear ex_45
          refine lv_iload_n hx hb dX1_nextChange_87 rfl (lv_at hl 4 rfl) ?_
          refine lv_icmp_gt (tgt := 104) hx hb dX1_nextChange_88 (by decide) (fun c_46 => ?_) (fun c_46 => ?_)
          · have dc_46 := c_lt (a := x2.toInt) (b := x_45.toInt) rfl rfl c_46
            refine lv_aload hx hb dX1_nextChange_104 (lv_at hl 0 rfl) ?_
            rcases hb_48 : oP Z b_43 5 with _ | b_47
            · refine va_get (D := (dC, dI)) (ci := 3) (v := .null) (C := RX3) (T := TX3) (N := 6) hx hb hts in_wsX1_nextChange_X3 hown hK hP q_44 hq_44 rfl 5 (by decide) (hts (.fieldLink RX1 97 "ShipOffice$Happening" "before" "LShipOffice$Happening;") iw_X1_nextChange_6) (fun _ h9 => h9) (o_rd hb_48) dX1_nextChange_106 ?_
              have r_49 : oR Z none = 0 := rfl
              refine lv_astoreN (lv' := [(5, .null), (4, .int y_42), (0, .ref o), (1, .int x1), (2, .int x2), (3, .ref a3)]) hx hb dX1_nextChange_109 hl (by decide) rfl (fun ls hl => ?_)
              refine lv_goto (tgt := 77) hx hb dX1_nextChange_111 (by decide) ?_
              exact ih (n - 1) (by omega) none y_42 _ _ ls (by omega) (fun b h => by cases h) (by omega) (by omega) (chQ_s hq1_cut_40 hb_48 (by omega) (by intro h; omega)) hP hS (lv_sub hl [0, 1, 2, 3, 4, 5] rfl)
            · refine va_get (D := (dC, dI)) (ci := 3) (v := .ref b_47) (C := RX3) (T := TX3) (N := 6) hx hb hts in_wsX1_nextChange_X3 hown hK hP q_44 hq_44 rfl 5 (by decide) (hts (.fieldLink RX1 97 "ShipOffice$Happening" "before" "LShipOffice$Happening;") iw_X1_nextChange_6) (fun _ h9 => h9) (o_rd hb_48) dX1_nextChange_106 ?_
              have tb_47 : oty Z b_47 3 := oInv.rd gI tb_43.2 hb_48 rfl rfl
              have hGb_47 : oG Z b_47 < oG Z b_43 := gI.2.2.2.2.2.1 b_43 b_47 tb_43.2 hb_48
              have rb_47 : oR Z (some b_47) = oG Z b_47 + 1 := rfl
              refine lv_astore (lv' := [(5, .ref b_47), (4, .int y_42), (0, .ref o), (1, .int x1), (2, .int x2), (3, .ref a3)]) hx hb dX1_nextChange_109 hl (by decide) rfl (fun ls hl => ?_)
              refine lv_goto (tgt := 77) hx hb dX1_nextChange_111 (by decide) ?_
              exact ih (n - 1) (by omega) (some b_47) y_42 _ _ ls (by omega) (fun b h => by cases h; exact tb_47) (by omega) (by omega) (chQ_s hq1_cut_40 hb_48 (by omega) (by intro h; omega)) hP hS (lv_sub hl [0, 1, 2, 3, 4, 5] rfl)
          · have dc_46 := c_nlt (a := x2.toInt) (b := x_45.toInt) rfl rfl c_46
            refine lv_iload_n hx hb dX1_nextChange_91 rfl (lv_at hl 3 rfl) ?_
            refine lv_aload hx hb dX1_nextChange_92 (lv_at hl 0 rfl) ?_
            refine va_get (D := (dC, dI)) (ci := 3) (v := .int (oI Z b_43 1)) (C := RX3) (T := TX3) (N := 6) hx hb hts in_wsX1_nextChange_X3 hown hK hP q_44 hq_44 rfl 1 (by decide) (hts (.fieldLink RX1 94 "ShipOffice$Happening" "day" "I") iw_X1_nextChange_7) (fun _ h9 => h9) rfl dX1_nextChange_94 ?_
            refine lv_topi (fun x_50 ex_50 => ?_)
            have gx_50 : x_50.toInt = (oI Z b_43 1).toInt := iv_to ex_50
            clear ex_50
            refine lv_iload hx hb dX1_nextChange_97 (lv_at hl 1 rfl) ?_
            have hFc : ∀ q, va_A [] H.size q → A q := pu_free hS hA
            have hPc := hP.sub (ws' := []) [] rfl
            have hDc := hD.sub (ws' := []) [] (by decide) rfl
            have hKc := hK.sub (tys' := []) [] rfl
            refine va_calli (va_runS (As := [.int x1, .int x_50, .int y_42]) (rest := []) ⟨hx, hb, hml, hown, hts⟩ (c_X1_nearer_c l dC dI H.size  x1 x_50 y_42) (va_cwS 3 hts gX1_nextChange_X1_nearer rfl rfl rfl (by decide +kernel) ⟨(Nat.le_of_ble_eq_true rfl), (Nat.le_of_ble_eq_true rfl)⟩) (pr_S hPc hKc hDc) rfl rfl hl.1 rfl (lv_room (Nat.le_of_ble_eq_true rfl)) dX1_nextChange_99 ⟨(Nat.le_of_ble_eq_true rfl), (Nat.le_of_ble_eq_true rfl)⟩) hS (fun q _ h => hFc q h) hFc (fun r_52 u t H locs ht hvm w_51 hB hz1 hk1 hS => ?_)
            have hP := pu_keep hP hk1
            clear hk1 hz1 hvm hB ht hFc hPc hDc hKc
            have hx_53 := w_51
            refine lv_istore (lv' := [(4, .int r_52), (5, .ref b_43), (0, .ref o), (1, .int x1), (2, .int x2), (3, .ref a3)]) hx hb dX1_nextChange_102 hl (by decide) rfl (fun ls hl => ?_)
            refine lv_aload hx hb dX1_nextChange_104 (lv_at hl 1 rfl) ?_
            rcases hb_55 : oP Z b_43 5 with _ | b_54
            · refine va_get (D := (dC, dI)) (ci := 3) (v := .null) (C := RX3) (T := TX3) (N := 6) hx hb hts in_wsX1_nextChange_X3 hown hK hP q_44 hq_44 rfl 5 (by decide) (hts (.fieldLink RX1 97 "ShipOffice$Happening" "before" "LShipOffice$Happening;") iw_X1_nextChange_6) (fun _ h9 => h9) (o_rd hb_55) dX1_nextChange_106 ?_
              have r_56 : oR Z none = 0 := rfl
              refine lv_astoreN (lv' := [(5, .null), (4, .int r_52), (0, .ref o), (1, .int x1), (2, .int x2), (3, .ref a3)]) hx hb dX1_nextChange_109 hl (by decide) rfl (fun ls hl => ?_)
              refine lv_goto (tgt := 77) hx hb dX1_nextChange_111 (by decide) ?_
              exact ih (n - 1) (by omega) none r_52 _ _ ls (by omega) (fun b h => by cases h) (by omega) (by omega) (chQ_s hq1_cut_40 hb_55 (by omega) (by intro h; omega)) hP hS (lv_sub hl [0, 1, 2, 3, 4, 5] rfl)
            · refine va_get (D := (dC, dI)) (ci := 3) (v := .ref b_54) (C := RX3) (T := TX3) (N := 6) hx hb hts in_wsX1_nextChange_X3 hown hK hP q_44 hq_44 rfl 5 (by decide) (hts (.fieldLink RX1 97 "ShipOffice$Happening" "before" "LShipOffice$Happening;") iw_X1_nextChange_6) (fun _ h9 => h9) (o_rd hb_55) dX1_nextChange_106 ?_
              have tb_54 : oty Z b_54 3 := oInv.rd gI tb_43.2 hb_55 rfl rfl
              have hGb_54 : oG Z b_54 < oG Z b_43 := gI.2.2.2.2.2.1 b_43 b_54 tb_43.2 hb_55
              have rb_54 : oR Z (some b_54) = oG Z b_54 + 1 := rfl
              refine lv_astore (lv' := [(5, .ref b_54), (4, .int r_52), (0, .ref o), (1, .int x1), (2, .int x2), (3, .ref a3)]) hx hb dX1_nextChange_109 hl (by decide) rfl (fun ls hl => ?_)
              refine lv_goto (tgt := 77) hx hb dX1_nextChange_111 (by decide) ?_
              exact ih (n - 1) (by omega) (some b_54) r_52 _ _ ls (by omega) (fun b h => by cases h; exact tb_54) (by omega) (by omega) (chQ_s hq1_cut_40 hb_55 (by omega) (by intro h; omega)) hP hS (lv_sub hl [0, 1, 2, 3, 4, 5] rfl)
    exact cut_40 (oR Z none) none r_36 _ _ ls (by omega) (fun b h => by cases h) (by omega) (by omega) (chQ_i (Q := tdS fa a) fcho hb_39 (fun i h => decide_eq_true h)) hP hS (lv_sub hl [0, 1, 2, 3, 4, 5] rfl)
  · refine va_get (D := (dC, dI)) (ci := 1) (v := .ref b_38) (C := RX1) (T := TX1) (N := 18) hx hb hts in_wsX1_nextChange_X1 hown hK hP q_1 hq_1 rfl 8 (by decide) (hts (.fieldLink RX1 87 "ShipOffice$Agreement" "tidings" "LShipOffice$Happening;") iw_X1_nextChange_4) (fun _ h9 => h9) (o_rd hb_39) dX1_nextChange_72 ?_
    have tb_38 : oty Z b_38 3 := oInv.rd gI to.2 hb_39 rfl rfl
    refine lv_astore (lv' := [(5, .ref b_38), (4, .int r_36), (0, .ref o), (1, .int x1), (2, .int x2), (3, .ref a3)]) hx hb dX1_nextChange_75 hl (by decide) rfl (fun ls hl => ?_)
    have cut_57 : ∀ (n : Nat) (y_58 : Option Nat) (y_59 : Int32) (H : Heap) (locs : List Loc) (ls : Array Slot), (oR Z y_58 : Int) ≤ (n : Int) → (∀ b, y_58 = some b → oty Z b 3) → (1 ≤ y_59.toInt ∧ y_59.toInt ≤ 1000000) → (x1.toInt < y_59.toInt ∧ y_59.toInt ≤ r_36.toInt) → chQ Z v fa (pA fa (a : Int)) x2.toInt x1.toInt y_59.toInt y_58 → va_P (dC, dI) vwCl (oW cq Z) H → va_S A s.heap H locs → lv_has ls 6 [(5, va_rf y_58), (4, .int y_59), (0, .ref o), (1, .int x1), (2, .int x2), (3, .ref a3)] → W p l e (headSpec wsX1_nextChange { frames := 1, cells := 0, slots := 0, locals := 25 }).room s m #[Value.ref o, Value.int x1, Value.int x2, Value.ref a3] below meth c H locs 0 0 (MQ below (va_Qi (fun (r : Int32) (u : Unit) => (1 ≤ r.toInt ∧ r.toInt ≤ 1000000) ∧ (ncR v fa a x2.toInt x1.toInt r.toInt)) (fun _ _ => True) A) #[Value.ref o, Value.int x1, Value.int x2, Value.ref a3] s 0 0 A) (F0 m 77 ls []) := by
      intro n
      induction n using Nat.strongRecOn with
      | ind n ih =>
        intro y_58 y_59 H locs ls hm ty_58 hy_59 hq0_cut_57 hq1_cut_57 hP hS hl
        rcases y_58 with _ | b_60
        · have hl : lv_has ls 6 [(5, .null), (4, .int y_59), (0, .ref o), (1, .int x1), (2, .int x2), (3, .ref a3)] := hl
          refine lv_aloadN hx hb dX1_nextChange_77 (lv_at hl 0 rfl) ?_
          refine lv_ifnullN (tgt := 114) hx hb dX1_nextChange_79 (by decide) ?_
          refine lv_iload hx hb dX1_nextChange_114 (lv_at hl 1 rfl) ?_
          exact W.iret (v := y_59) hx hb hr (fun t ht hW => ⟨⟨y_59, (), rfl, ⟨(by omega), ⟨by omega, by omega, fun t h1 h2 => stF_q hsg (by omega) (qV_m hx_10n.2.2 (by omega)) (fun i i1 i2 i3 i4 => chQ_n hq1_cut_57 i i1 ⟨i2, i3⟩ i4) (qP_m hx_18.2 (by omega)) (by omega) h1 h2⟩⟩, trivial⟩, hS.F ht⟩) hS.2.2 dX1_nextChange_116
        · have hl : lv_has ls 6 [(5, .ref b_60), (4, .int y_59), (0, .ref o), (1, .int x1), (2, .int x2), (3, .ref a3)] := hl
          have tb_60 : oty Z b_60 3 := ty_58 b_60 rfl
          have rb_60 : oR Z (some b_60) = oG Z b_60 + 1 := rfl
          refine lv_aload hx hb dX1_nextChange_77 (lv_at hl 0 rfl) ?_
          refine lv_ifnull hx hb dX1_nextChange_79 ?_
          refine lv_aload hx hb dX1_nextChange_82 (lv_at hl 0 rfl) ?_
          obtain ⟨q_61, hq_61⟩ := og (cq := cq) tb_60.1 (oE_3 tb_60.2)
          refine va_get (D := (dC, dI)) (ci := 3) (v := .int (oI Z b_60 2)) (C := RX3) (T := TX3) (N := 6) hx hb hts in_wsX1_nextChange_X3 hown hK hP q_61 hq_61 rfl 2 (by decide) (hts (.fieldLink RX1 91 "ShipOffice$Happening" "told" "I") iw_X1_nextChange_5) (fun _ h9 => h9) rfl dX1_nextChange_84 ?_
          refine lv_topi (fun x_62 ex_62 => ?_)
          have gx_62 : x_62.toInt = (oI Z b_60 2).toInt := iv_to ex_62
          clear ex_62
          refine lv_iload_n hx hb dX1_nextChange_87 rfl (lv_at hl 4 rfl) ?_
          refine lv_icmp_gt (tgt := 104) hx hb dX1_nextChange_88 (by decide) (fun c_63 => ?_) (fun c_63 => ?_)
          · have dc_63 := c_lt (a := x2.toInt) (b := x_62.toInt) rfl rfl c_63
            refine lv_aload hx hb dX1_nextChange_104 (lv_at hl 0 rfl) ?_
            rcases hb_65 : oP Z b_60 5 with _ | b_64
            · refine va_get (D := (dC, dI)) (ci := 3) (v := .null) (C := RX3) (T := TX3) (N := 6) hx hb hts in_wsX1_nextChange_X3 hown hK hP q_61 hq_61 rfl 5 (by decide) (hts (.fieldLink RX1 97 "ShipOffice$Happening" "before" "LShipOffice$Happening;") iw_X1_nextChange_6) (fun _ h9 => h9) (o_rd hb_65) dX1_nextChange_106 ?_
              have r_66 : oR Z none = 0 := rfl
              refine lv_astoreN (lv' := [(5, .null), (4, .int y_59), (0, .ref o), (1, .int x1), (2, .int x2), (3, .ref a3)]) hx hb dX1_nextChange_109 hl (by decide) rfl (fun ls hl => ?_)
              refine lv_goto (tgt := 77) hx hb dX1_nextChange_111 (by decide) ?_
              exact ih (n - 1) (by omega) none y_59 _ _ ls (by omega) (fun b h => by cases h) (by omega) (by omega) (chQ_s hq1_cut_57 hb_65 (by omega) (by intro h; omega)) hP hS (lv_sub hl [0, 1, 2, 3, 4, 5] rfl)
            · refine va_get (D := (dC, dI)) (ci := 3) (v := .ref b_64) (C := RX3) (T := TX3) (N := 6) hx hb hts in_wsX1_nextChange_X3 hown hK hP q_61 hq_61 rfl 5 (by decide) (hts (.fieldLink RX1 97 "ShipOffice$Happening" "before" "LShipOffice$Happening;") iw_X1_nextChange_6) (fun _ h9 => h9) (o_rd hb_65) dX1_nextChange_106 ?_
              have tb_64 : oty Z b_64 3 := oInv.rd gI tb_60.2 hb_65 rfl rfl
              have hGb_64 : oG Z b_64 < oG Z b_60 := gI.2.2.2.2.2.1 b_60 b_64 tb_60.2 hb_65
              have rb_64 : oR Z (some b_64) = oG Z b_64 + 1 := rfl
              refine lv_astore (lv' := [(5, .ref b_64), (4, .int y_59), (0, .ref o), (1, .int x1), (2, .int x2), (3, .ref a3)]) hx hb dX1_nextChange_109 hl (by decide) rfl (fun ls hl => ?_)
              refine lv_goto (tgt := 77) hx hb dX1_nextChange_111 (by decide) ?_
              exact ih (n - 1) (by omega) (some b_64) y_59 _ _ ls (by omega) (fun b h => by cases h; exact tb_64) (by omega) (by omega) (chQ_s hq1_cut_57 hb_65 (by omega) (by intro h; omega)) hP hS (lv_sub hl [0, 1, 2, 3, 4, 5] rfl)
          · have dc_63 := c_nlt (a := x2.toInt) (b := x_62.toInt) rfl rfl c_63
            refine lv_iload_n hx hb dX1_nextChange_91 rfl (lv_at hl 3 rfl) ?_
            refine lv_aload hx hb dX1_nextChange_92 (lv_at hl 0 rfl) ?_
            refine va_get (D := (dC, dI)) (ci := 3) (v := .int (oI Z b_60 1)) (C := RX3) (T := TX3) (N := 6) hx hb hts in_wsX1_nextChange_X3 hown hK hP q_61 hq_61 rfl 1 (by decide) (hts (.fieldLink RX1 94 "ShipOffice$Happening" "day" "I") iw_X1_nextChange_7) (fun _ h9 => h9) rfl dX1_nextChange_94 ?_
            refine lv_topi (fun x_67 ex_67 => ?_)
            have gx_67 : x_67.toInt = (oI Z b_60 1).toInt := iv_to ex_67
            clear ex_67
            refine lv_iload hx hb dX1_nextChange_97 (lv_at hl 1 rfl) ?_
            have hFc : ∀ q, va_A [] H.size q → A q := pu_free hS hA
            have hPc := hP.sub (ws' := []) [] rfl
            have hDc := hD.sub (ws' := []) [] (by decide) rfl
            have hKc := hK.sub (tys' := []) [] rfl
            refine va_calli (va_runS (As := [.int x1, .int x_67, .int y_59]) (rest := []) ⟨hx, hb, hml, hown, hts⟩ (c_X1_nearer_c l dC dI H.size  x1 x_67 y_59) (va_cwS 3 hts gX1_nextChange_X1_nearer rfl rfl rfl (by decide +kernel) ⟨(Nat.le_of_ble_eq_true rfl), (Nat.le_of_ble_eq_true rfl)⟩) (pr_S hPc hKc hDc) rfl rfl hl.1 rfl (lv_room (Nat.le_of_ble_eq_true rfl)) dX1_nextChange_99 ⟨(Nat.le_of_ble_eq_true rfl), (Nat.le_of_ble_eq_true rfl)⟩) hS (fun q _ h => hFc q h) hFc (fun r_69 u t H locs ht hvm w_68 hB hz1 hk1 hS => ?_)
            have hP := pu_keep hP hk1
            clear hk1 hz1 hvm hB ht hFc hPc hDc hKc
            have hx_70 := w_68
            refine lv_istore (lv' := [(4, .int r_69), (5, .ref b_60), (0, .ref o), (1, .int x1), (2, .int x2), (3, .ref a3)]) hx hb dX1_nextChange_102 hl (by decide) rfl (fun ls hl => ?_)
            refine lv_aload hx hb dX1_nextChange_104 (lv_at hl 1 rfl) ?_
            rcases hb_72 : oP Z b_60 5 with _ | b_71
            · refine va_get (D := (dC, dI)) (ci := 3) (v := .null) (C := RX3) (T := TX3) (N := 6) hx hb hts in_wsX1_nextChange_X3 hown hK hP q_61 hq_61 rfl 5 (by decide) (hts (.fieldLink RX1 97 "ShipOffice$Happening" "before" "LShipOffice$Happening;") iw_X1_nextChange_6) (fun _ h9 => h9) (o_rd hb_72) dX1_nextChange_106 ?_
              have r_73 : oR Z none = 0 := rfl
              refine lv_astoreN (lv' := [(5, .null), (4, .int r_69), (0, .ref o), (1, .int x1), (2, .int x2), (3, .ref a3)]) hx hb dX1_nextChange_109 hl (by decide) rfl (fun ls hl => ?_)
              refine lv_goto (tgt := 77) hx hb dX1_nextChange_111 (by decide) ?_
              exact ih (n - 1) (by omega) none r_69 _ _ ls (by omega) (fun b h => by cases h) (by omega) (by omega) (chQ_s hq1_cut_57 hb_72 (by omega) (by intro h; omega)) hP hS (lv_sub hl [0, 1, 2, 3, 4, 5] rfl)
            · refine va_get (D := (dC, dI)) (ci := 3) (v := .ref b_71) (C := RX3) (T := TX3) (N := 6) hx hb hts in_wsX1_nextChange_X3 hown hK hP q_61 hq_61 rfl 5 (by decide) (hts (.fieldLink RX1 97 "ShipOffice$Happening" "before" "LShipOffice$Happening;") iw_X1_nextChange_6) (fun _ h9 => h9) (o_rd hb_72) dX1_nextChange_106 ?_
              have tb_71 : oty Z b_71 3 := oInv.rd gI tb_60.2 hb_72 rfl rfl
              have hGb_71 : oG Z b_71 < oG Z b_60 := gI.2.2.2.2.2.1 b_60 b_71 tb_60.2 hb_72
              have rb_71 : oR Z (some b_71) = oG Z b_71 + 1 := rfl
              refine lv_astore (lv' := [(5, .ref b_71), (4, .int r_69), (0, .ref o), (1, .int x1), (2, .int x2), (3, .ref a3)]) hx hb dX1_nextChange_109 hl (by decide) rfl (fun ls hl => ?_)
              refine lv_goto (tgt := 77) hx hb dX1_nextChange_111 (by decide) ?_
              exact ih (n - 1) (by omega) (some b_71) r_69 _ _ ls (by omega) (fun b h => by cases h; exact tb_71) (by omega) (by omega) (chQ_s hq1_cut_57 hb_72 (by omega) (by intro h; omega)) hP hS (lv_sub hl [0, 1, 2, 3, 4, 5] rfl)
    exact cut_57 (oR Z (some b_38)) (some b_38) r_36 _ _ ls (by omega) (fun b h => by cases h; exact tb_38) (by omega) (by omega) (chQ_i (Q := tdS fa a) fcho hb_39 (fun i h => decide_eq_true h)) hP hS (lv_sub hl [0, 1, 2, 3, 4, 5] rfl)
