


set_option maxHeartbeats 4000000 in
set_option maxRecDepth 100000 in
theorem c_X10_stands_c (l : Launch) (dC : Nat → ClassId) (dI : Nat → Nat → Nat) (sz : Nat) (cq : Nat → ClassId) (Z : oS) (gI : oInv Z) (o : Nat) (to : oty Z o 10) (x1 : Int32) (x2 : Int32) (x3 : Int32) (v : Nat → Int32) (fa : Nat → Nat → Int32) (hR : RC Z o v fa) (hE : RX Z o v fa) : Met l yX10_stands wsX10_stands ({ frames := 5, cells := 0, slots := 0, locals := 130 }) (va_Pc [.ref o, .int x1, .int x2, .int x3] (pcW (dC, dI) (oT cq) (oW cq Z) sz)) (va_Qi (fun (r : Int32) (u : oS) => oInv u ∧ oX [2107, 2108, 5001] Z u ∧ (sdA (v 43).toInt x1.toInt (fa 30 x1.toNatClampNeg).toInt x2.toInt x3.toInt (v 38).toInt r.toInt ∧ rZo Z o u r (sdB (v 43).toInt x1.toInt (fa 30 x1.toNatClampNeg).toInt x2.toInt x3.toInt (v 38).toInt))) (fun u t => va_P (dC, dI) vwCl (oW cq u) t.heap ∧ va_K (dC, dI) vwCl (oT cq) t ∧ va_D (va_A (oW cq Z) sz) (oW cq u)) (va_A (oW cq Z) sz)) 0 0 (va_A (oW cq Z) sz) := by
  refine Met.ofW (cc := cX10_stands) (maxL := 6) (ret := (some .int)) (by decide) rfl ?_
  intro p e s m args below meth c s₁ B hml hv
  obtain ⟨rfl, hsz, hP, hK, hD0⟩ := hv
  have hx := B.exec
  have hb := B.bytes
  have hr := B.returns
  have hts := atoms_spec (ws := wsX10_stands) B.pre
  have hown : s.vm.findClass RX10 = some m.cls := findClass_of_methodNamed B.named
  have hlocks := B.notSynchronized
  subst hsz
  have hD := hD0.self (sz := s.heap.size)
  generalize hAe : va_A (oW cq Z) s.heap.size = A at hD ⊢
  have hA : ∀ q : Nat, s.heap.size ≤ q → A q := fun q h => by rw [← hAe]; exact Or.inr h
  have hS : va_S A s.heap s.heap [] := va_S.rf
  have hP : va_P (dC, dI) vwCl (oW cq Z) s.heap := hP
  have hl := lv_entry ([.ref o, .int x1, .int x2, .int x3]) (n := 6) (Nat.le_of_ble_eq_true rfl)
  rw [lg_entry_eq]
  generalize (lg_sl ([.ref o, .int x1, .int x2, .int x3]) ++ List.replicate (6 - (lg_sl ([.ref o, .int x1, .int x2, .int x3])).length) Slot.unset).toArray = ls at hl ⊢
  have hl : lv_has ls 6 [(0, .ref o), (1, .int x1), (2, .int x2), (3, .int x3)] := hl
  obtain ⟨fn0, fn1, fn2, fn3, fn4⟩ := RC.n hR
  have fb38 : 0 ≤ (v 38).toInt ∧ (v 38).toInt ≤ 3000 := RC.V hR 38
  have fb39 : 0 ≤ (v 39).toInt ∧ (v 39).toInt ≤ 40 := RC.V hR 39
  have fb40 : 0 ≤ (v 40).toInt ∧ (v 40).toInt ≤ 20 := RC.V hR 40
  have fb43 : 0 ≤ (v 43).toInt ∧ (v 43).toInt ≤ 60 := RC.V hR 43
  have fb41 : 0 ≤ (v 41).toInt ∧ (v 41).toInt ≤ 200 := RC.V hR 41
  obtain ⟨lw, hlw0⟩ := oInv.nn (i := 8) gI to rfl
  have tlw : oty Z lw 5 := oInv.rd gI to.2 hlw0 rfl rfl
  have hLr : rLw Z lw v fa := by have q := RC.l hR; rw [oQ_e hlw0] at q; exact q
  refine lv_aload_n hx hb dX10_stands_0 rfl (lv_at hl 0 rfl) ?_
  refine lv_iload_n hx hb dX10_stands_1 rfl (lv_at hl 1 rfl) ?_
  have hFc : ∀ q, va_A [] s.heap.size q → A q := pu_free hS hA
  obtain ⟨q_1, hq_1⟩ := og (cq := cq) to.1 (oE_10 to.2)
  refine va_callq (va_runV (As := [.int x1]) (rest := []) ⟨hx, hb, hml, hown, hts⟩ (c_X10_agreementAt_c l dC dI s.heap.size cq Z gI o to x1 v fa hR) (cwV 1 hts gX10_stands_X10_agreementAt rfl rfl rfl (by decide +kernel) ⟨(Nat.le_of_ble_eq_true rfl), (Nat.le_of_ble_eq_true rfl)⟩) (pr_V (r := (RX10, TX10, 16)) hP hK hD q_1 10 rfl hq_1) rfl rfl hl.1 rfl (lv_room (Nat.le_of_ble_eq_true rfl)) dX10_stands_2 ⟨(Nat.le_of_ble_eq_true rfl), (Nat.le_of_ble_eq_true rfl)⟩) hS (fun q _ h => hFc q h) hFc (fun r_3 u t H locs ht hvm w_2 hB hz1 hk1 hS => ?_)
  have hP := pu_keep hP hk1
  clear hk1 hz1 hvm hB ht hFc
  obtain ⟨hk_4, hx_5⟩ := w_2
  rcases r_3 with _ | b_6
  · refine W.eq (g2 := F0 m 5 ls [.null]) rfl ?_
    have hnr_3 := atF_n hx_5
    refine lv_astoreN (lv' := [(4, .null), (0, .ref o), (1, .int x1), (2, .int x2), (3, .int x3)]) hx hb dX10_stands_5 hl (by decide) rfl (fun ls hl => ?_)
    refine lv_aloadN hx hb dX10_stands_7 (lv_at hl 0 rfl) ?_
    refine lv_iload_n hx hb dX10_stands_9 rfl (lv_at hl 3 rfl) ?_
    have hFc : ∀ q, va_A [] H.size q → A q := pu_free hS hA
    refine va_callq (va_runS (As := [.null, .int x2]) (rest := []) ⟨hx, hb, hml, hown, hts⟩ (c_X10_fineAt_c l dC dI H.size cq Z gI none (fun b h => by cases h) x2) (va_cwS 2 hts gX10_stands_X10_fineAt rfl rfl rfl (by decide +kernel) ⟨(Nat.le_of_ble_eq_true rfl), (Nat.le_of_ble_eq_true rfl)⟩) (pr_S hP hK hD) rfl rfl hl.1 rfl (lv_room (Nat.le_of_ble_eq_true rfl)) dX10_stands_10 ⟨(Nat.le_of_ble_eq_true rfl), (Nat.le_of_ble_eq_true rfl)⟩) hS (fun q _ h => hFc q h) hFc (fun r_8 u t H locs ht hvm w_7 hB hz1 hk1 hS => ?_)
    have hP := pu_keep hP hk1
    clear hk1 hz1 hvm hB ht hFc
    obtain ⟨hk_9, hx_10⟩ := w_7
    rcases r_8 with _ | b_11
    · refine W.eq (g2 := F0 m 13 ls [.null]) rfl ?_
      refine lv_astoreN (lv' := [(5, .null), (4, .null), (0, .ref o), (1, .int x1), (2, .int x2), (3, .int x3)]) hx hb dX10_stands_13 hl (by decide) rfl (fun ls hl => ?_)
      refine lv_aloadN hx hb dX10_stands_15 (lv_at hl 1 rfl) ?_
      refine lv_ifnullN (tgt := 25) hx hb dX10_stands_17 (by decide) ?_
      refine lv_aload_n hx hb dX10_stands_25 rfl (lv_at hl 2 rfl) ?_
      refine lv_iconst (v := (-1)) hx hb dX10_stands_26 (by decide) ?_
      have hFc := o_free hD hS hA
      refine va_calli (va_runV (As := [.int (-1)]) (rest := []) ⟨hx, hb, hml, hown, hts⟩ (c_X10_refuse_c l dC dI H.size cq Z gI o to (-1) (by decide)) (cwV 1 hts gX10_stands_X10_refuse rfl rfl rfl (by decide +kernel) ⟨(Nat.le_of_ble_eq_true rfl), (Nat.le_of_ble_eq_true rfl)⟩) (pr_V (r := (RX10, TX10, 16)) hP hK hD q_1 10 rfl hq_1) rfl rfl hl.1 rfl (lv_room (Nat.le_of_ble_eq_true rfl)) dX10_stands_27 ⟨(Nat.le_of_ble_eq_true rfl), (Nat.le_of_ble_eq_true rfl)⟩) hS (fun q _ h => hFc q h) hFc (fun r_13 u t H locs ht hvm w_12 hB hz1 hk1 hS => ?_)
      obtain ⟨S_14, rfl⟩ : ∃ z, z = u := ⟨_, rfl⟩
      obtain ⟨hP1, hK1, hD1⟩ := hB
      rw [ht] at hP1
      have hP : va_P (dC, dI) vwCl (oW cq S_14) H := hP1
      have hD : va_D A (oW cq S_14) := hD1.weaken (fun _ _ _ h => hFc _ h)
      clear hP1 hK1 hD1 hk1 hz1 hvm ht hFc
      obtain ⟨hIS_14, XS_14, hb_15, hx_16⟩ := w_12
      have X_17 : oX [2107, 2108, 5001] Z S_14 := oX.st oX.rf XS_14 (by decide)
      have g_18 : (oI S_14 o 0).toInt = (oI Z o 0).toInt := by rw [oX.i XS_14 to (by decide)]
      have pk_19 : oP S_14 o 8 = some lw := by rw [oX.p XS_14 to (by decide)]; exact hlw0
      have rf_20 : r_13.toInt = -1 := by rw [hx_16.1]; decide
      exact W.iret (v := r_13) hx hb hr (fun t ht hW => ⟨⟨r_13, S_14, rfl, ⟨hIS_14, X_17, ⟨by have kc0 : (0 : Int32).toInt = 0 := (by decide); have kc1 : (1 : Int32).toInt = 1 := (by decide); have kc2 : (2 : Int32).toInt = 2 := (by decide); unfold sdA; omega, (Or.inl ⟨by have kc0 : (0 : Int32).toInt = 0 := (by decide); have kc1 : (1 : Int32).toInt = 1 := (by decide); have kc2 : (2 : Int32).toInt = 2 := (by decide); unfold sdB; omega, by rw [hx_16.1]; exact hx_16.2⟩)⟩⟩, ⟨by rw [ht]; exact hP, va_K.moved hW.alike hK, hD⟩⟩, hS.F ht⟩) hS.2.2 dX10_stands_30
    · refine W.eq (g2 := F0 m 13 ls [.ref b_11]) rfl ?_
      have tb_11 : oty Z b_11 2 := hk_9 b_11 rfl
      exact absurd (fiR_0 hx_10) (fun q => q)
  · refine W.eq (g2 := F0 m 5 ls [.ref b_6]) rfl ?_
    have tb_6 : oty Z b_6 1 := hk_4 b_6 rfl
    obtain ⟨hjb_6, ejb_6⟩ := atF_s hx_5
    have ljb_6 := ni_lt hjb_6.1 hjb_6.2
    have njb_6 := tn_i hjb_6.1
    have fAb_6 := RC.a hR ljb_6
    rw [← ejb_6] at fAb_6
    obtain ⟨⟨fm1b_6, fm2b_6, fm3b_6⟩, ⟨fv1b_6, fv2b_6, fv3b_6⟩, fsib_6, fppb_6, fwgb_6, frkb_6, fofb_6, fdeb_6, fchb_6⟩ := fAb_6
    have fBb_6 : 0 ≤ (fa 25 x1.toNatClampNeg).toInt ∧ (fa 25 x1.toNatClampNeg).toInt ≤ 3000 := RC.A hR 25 _
    have lamb_6 : (fa 20 x1.toNatClampNeg).toNatClampNeg < (v 39).toNatClampNeg := ni_lt fm1b_6 fm2b_6
    have namb_6 : (((fa 20 x1.toNatClampNeg).toNatClampNeg : Nat) : Int) = (fa 20 x1.toNatClampNeg).toInt := tn_i fm1b_6
    obtain ⟨amb_6, eamb_6⟩ : ∃ z, z = mnA Z o (fa 20 x1.toNatClampNeg).toNatClampNeg := ⟨_, rfl⟩
    rw [← eamb_6] at fm3b_6
    have tamb_6 : oty Z amb_6 6 := by rw [eamb_6]; exact (RC.tm hR gI to lamb_6).2
    have fMamb_6 := RC.m hR lamb_6
    rw [← eamb_6] at fMamb_6
    obtain ⟨fz0amb_6, fz1amb_6, fz2amb_6, fz3amb_6⟩ := fMamb_6
    rw [namb_6] at fz0amb_6
    have lavb_6 : (fa 21 x1.toNatClampNeg).toNatClampNeg < (v 40).toNatClampNeg := ni_lt fv1b_6 fv2b_6
    have navb_6 : (((fa 21 x1.toNatClampNeg).toNatClampNeg : Nat) : Int) = (fa 21 x1.toNatClampNeg).toInt := tn_i fv1b_6
    obtain ⟨avb_6, eavb_6⟩ : ∃ z, z = voA Z o (fa 21 x1.toNatClampNeg).toNatClampNeg := ⟨_, rfl⟩
    rw [← eavb_6] at fv3b_6
    have tavb_6 : oty Z avb_6 9 := by rw [eavb_6]; exact (RC.tv hR gI to lavb_6).2
    have fVavb_6 := RC.vo hR lavb_6
    rw [← eavb_6] at fVavb_6
    obtain ⟨fy0avb_6, fy1avb_6, fy2avb_6, fy3avb_6, fy4avb_6, fySavb_6, fyLavb_6, fyhavb_6⟩ := fVavb_6
    have fBavb_6 : 0 ≤ (fa 7 ((fa 21 x1.toNatClampNeg).toNatClampNeg)).toInt ∧ (fa 7 ((fa 21 x1.toNatClampNeg).toNatClampNeg)).toInt ≤ 3000 := RC.A hR 7 _
    have fSavb_6 := onc_i fySavb_6
    have fLavb_6 := onc_i fyLavb_6
    rw [navb_6] at fy0avb_6 fSavb_6 fLavb_6
    have fEb_6 := hE.1 x1.toNatClampNeg ljb_6
    rw [← ejb_6] at fEb_6
    obtain ⟨⟨fn1b_6, fn2b_6, fn3b_6⟩, fgb_6, ⟨fl1b_6, fl2b_6, fl3b_6⟩, ⟨ff1b_6, ff2b_6⟩, ⟨fs1b_6, fs2b_6, fs3b_6, fs4b_6, fs5b_6⟩⟩ := fEb_6
    unfold rXg at fgb_6
    have fX_21 : 0 ≤ (fa 30 x1.toNatClampNeg).toInt ∧ (fa 30 x1.toNatClampNeg).toInt ≤ 6 := RC.A hR 30 _
    have fX_22 : 0 ≤ (fa 31 x1.toNatClampNeg).toInt ∧ (fa 31 x1.toNatClampNeg).toInt ≤ 20 := RC.A hR 31 _
    refine lv_astore (lv' := [(4, .ref b_6), (0, .ref o), (1, .int x1), (2, .int x2), (3, .int x3)]) hx hb dX10_stands_5 hl (by decide) rfl (fun ls hl => ?_)
    refine lv_aload hx hb dX10_stands_7 (lv_at hl 0 rfl) ?_
    refine lv_iload_n hx hb dX10_stands_9 rfl (lv_at hl 3 rfl) ?_
    have hFc : ∀ q, va_A [] H.size q → A q := pu_free hS hA
    refine va_callq (va_runS (As := [.ref b_6, .int x2]) (rest := []) ⟨hx, hb, hml, hown, hts⟩ (c_X10_fineAt_c l dC dI H.size cq Z gI (some b_6) (fun b h => by cases h; exact tb_6) x2) (va_cwS 2 hts gX10_stands_X10_fineAt rfl rfl rfl (by decide +kernel) ⟨(Nat.le_of_ble_eq_true rfl), (Nat.le_of_ble_eq_true rfl)⟩) (pr_S hP hK hD) rfl rfl hl.1 rfl (lv_room (Nat.le_of_ble_eq_true rfl)) dX10_stands_10 ⟨(Nat.le_of_ble_eq_true rfl), (Nat.le_of_ble_eq_true rfl)⟩) hS (fun q _ h => hFc q h) hFc (fun r_24 u t H locs ht hvm w_23 hB hz1 hk1 hS => ?_)
    have hP := pu_keep hP hk1
    clear hk1 hz1 hvm hB ht hFc
    obtain ⟨hk_25, hx_26⟩ := w_23
    rcases r_24 with _ | b_27
    · refine W.eq (g2 := F0 m 13 ls [.null]) rfl ?_
      have hfr_24 := fiR_n hx_26
      refine lv_astoreN (lv' := [(5, .null), (4, .ref b_6), (0, .ref o), (1, .int x1), (2, .int x2), (3, .int x3)]) hx hb dX10_stands_13 hl (by decide) rfl (fun ls hl => ?_)
      refine lv_aload hx hb dX10_stands_15 (lv_at hl 1 rfl) ?_
      refine lv_ifnull hx hb dX10_stands_17 ?_
      refine lv_aloadN hx hb dX10_stands_20 (lv_at hl 0 rfl) ?_
      refine lv_ifnonnullN hx hb dX10_stands_22 ?_
      refine lv_aload_n hx hb dX10_stands_25 rfl (lv_at hl 2 rfl) ?_
      refine lv_iconst (v := (-1)) hx hb dX10_stands_26 (by decide) ?_
      have hFc := o_free hD hS hA
      refine va_calli (va_runV (As := [.int (-1)]) (rest := []) ⟨hx, hb, hml, hown, hts⟩ (c_X10_refuse_c l dC dI H.size cq Z gI o to (-1) (by decide)) (cwV 1 hts gX10_stands_X10_refuse rfl rfl rfl (by decide +kernel) ⟨(Nat.le_of_ble_eq_true rfl), (Nat.le_of_ble_eq_true rfl)⟩) (pr_V (r := (RX10, TX10, 16)) hP hK hD q_1 10 rfl hq_1) rfl rfl hl.1 rfl (lv_room (Nat.le_of_ble_eq_true rfl)) dX10_stands_27 ⟨(Nat.le_of_ble_eq_true rfl), (Nat.le_of_ble_eq_true rfl)⟩) hS (fun q _ h => hFc q h) hFc (fun r_29 u t H locs ht hvm w_28 hB hz1 hk1 hS => ?_)
      obtain ⟨S_30, rfl⟩ : ∃ z, z = u := ⟨_, rfl⟩
      obtain ⟨hP1, hK1, hD1⟩ := hB
      rw [ht] at hP1
      have hP : va_P (dC, dI) vwCl (oW cq S_30) H := hP1
      have hD : va_D A (oW cq S_30) := hD1.weaken (fun _ _ _ h => hFc _ h)
      clear hP1 hK1 hD1 hk1 hz1 hvm ht hFc
      obtain ⟨hIS_30, XS_30, hb_31, hx_32⟩ := w_28
      have X_33 : oX [2107, 2108, 5001] Z S_30 := oX.st oX.rf XS_30 (by decide)
      have g_34 : (oI S_30 o 0).toInt = (oI Z o 0).toInt := by rw [oX.i XS_30 to (by decide)]
      have pk_35 : oP S_30 o 8 = some lw := by rw [oX.p XS_30 to (by decide)]; exact hlw0
      have pk_36 : oP S_30 b_6 0 = some amb_6 := by rw [oX.p XS_30 tb_6 (by decide)]; exact fm3b_6
      have pk_37 : oP S_30 b_6 1 = some avb_6 := by rw [oX.p XS_30 tb_6 (by decide)]; exact fv3b_6
      have rf_38 : r_29.toInt = -1 := by rw [hx_32.1]; decide
      exact W.iret (v := r_29) hx hb hr (fun t ht hW => ⟨⟨r_29, S_30, rfl, ⟨hIS_30, X_33, ⟨by have kc0 : (0 : Int32).toInt = 0 := (by decide); have kc1 : (1 : Int32).toInt = 1 := (by decide); have kc2 : (2 : Int32).toInt = 2 := (by decide); unfold sdA; omega, (Or.inl ⟨by have kc0 : (0 : Int32).toInt = 0 := (by decide); have kc1 : (1 : Int32).toInt = 1 := (by decide); have kc2 : (2 : Int32).toInt = 2 := (by decide); unfold sdB; omega, by rw [hx_32.1]; exact hx_32.2⟩)⟩⟩, ⟨by rw [ht]; exact hP, va_K.moved hW.alike hK, hD⟩⟩, hS.F ht⟩) hS.2.2 dX10_stands_30
    · refine W.eq (g2 := F0 m 13 ls [.ref b_27]) rfl ?_
      have tb_27 : oty Z b_27 2 := hk_25 b_27 rfl
      obtain ⟨hfb_27, efb_27⟩ := fiR_s hx_26
      have fFb_27 := ff2b_6 x2.toNatClampNeg (show x2.toInt.toNat < (fa 30 x1.toNatClampNeg).toInt.toNat by omega)
      rw [← efb_27] at fFb_27
      obtain ⟨fd1b_27, fd2b_27, fd3b_27, fd4b_27, fd5b_27, fd6b_27, fd7b_27⟩ := fFb_27
      refine lv_astore (lv' := [(5, .ref b_27), (4, .ref b_6), (0, .ref o), (1, .int x1), (2, .int x2), (3, .int x3)]) hx hb dX10_stands_13 hl (by decide) rfl (fun ls hl => ?_)
      refine lv_aload hx hb dX10_stands_15 (lv_at hl 1 rfl) ?_
      refine lv_ifnull hx hb dX10_stands_17 ?_
      refine lv_aload hx hb dX10_stands_20 (lv_at hl 0 rfl) ?_
      refine lv_ifnonnull (tgt := 31) hx hb dX10_stands_22 (by decide) ?_
      refine lv_iload_n hx hb dX10_stands_31 rfl (lv_at hl 5 rfl) ?_
      refine lv_if_ge (tgt := 42) hx hb dX10_stands_32 (by decide) (fun c_39 => ?_) (fun c_39 => ?_)
      · have dc_39 := c_le (a := 0) (b := x3.toInt) (by decide) rfl c_39
        refine lv_iload_n hx hb dX10_stands_42 rfl (lv_at hl 5 rfl) ?_
        refine lv_aload_n hx hb dX10_stands_43 rfl (lv_at hl 2 rfl) ?_
        refine va_get (D := (dC, dI)) (ci := 10) (v := .int (oI Z o 0)) (C := RX10) (T := TX10) (N := 16) hx hb hts in_wsX10_stands_X10 hown hK hP q_1 hq_1 rfl 0 (by decide) (hts (.fieldLink RX10 73 "ShipOffice" "now" "I") iw_X10_stands_1) (fun _ h9 => h9) rfl dX10_stands_44 ?_
        refine lv_topi (fun x_40 ex_40 => ?_)
        have hx_40 : 0 ≤ x_40.toInt ∧ x_40.toInt ≤ 3000 := iv_of ex_40 (oInv.iv gI to.2 rfl rfl)
        have gx_40 : x_40.toInt = (oI Z o 0).toInt := iv_to ex_40
        clear ex_40
        refine lv_icmp_le (tgt := 57) hx hb dX10_stands_47 (by decide) (fun c_41 => ?_) (fun c_41 => ?_)
        · have dc_41 := c_le (a := x3.toInt) (b := x_40.toInt) rfl rfl c_41
          refine lv_aload_n hx hb dX10_stands_57 rfl (lv_at hl 2 rfl) ?_
          refine lv_aload hx hb dX10_stands_58 (lv_at hl 1 rfl) ?_
          refine lv_aload hx hb dX10_stands_60 (lv_at hl 0 rfl) ?_
          refine lv_iload_n hx hb dX10_stands_62 rfl (lv_at hl 5 rfl) ?_
          have hFc := o_free hD hS hA
          refine va_calli (va_runV (As := [.ref b_6, .ref b_27, .int x3]) (rest := []) ⟨hx, hb, hml, hown, hts⟩ (c_X10_standing l dC dI H.size cq Z gI o to b_6 tb_6 b_27 tb_27 x3) (cwV 3 hts gX10_stands_X10_standing rfl rfl rfl (by decide +kernel) ⟨(Nat.le_of_ble_eq_true rfl), (Nat.le_of_ble_eq_true rfl)⟩) (pr_V (r := (RX10, TX10, 16)) hP hK hD q_1 10 rfl hq_1) rfl rfl hl.1 rfl (lv_room (Nat.le_of_ble_eq_true rfl)) dX10_stands_63 ⟨(Nat.le_of_ble_eq_true rfl), (Nat.le_of_ble_eq_true rfl)⟩) hS (fun q _ h => hFc q h) hFc (fun r_43 u t H locs ht hvm w_42 hB hz1 hk1 hS => ?_)
          obtain ⟨S_44, rfl⟩ : ∃ z, z = u := ⟨_, rfl⟩
          obtain ⟨hP1, hK1, hD1⟩ := hB
          rw [ht] at hP1
          have hP : va_P (dC, dI) vwCl (oW cq S_44) H := hP1
          have hD : va_D A (oW cq S_44) := hD1.weaken (fun _ _ _ h => hFc _ h)
          clear hP1 hK1 hD1 hk1 hz1 hvm ht hFc
          obtain ⟨hIS_44, XS_44⟩ := w_42
          have X_45 : oX [2107, 2108, 5001] Z S_44 := oX.st oX.rf XS_44 (by decide)
          have g_46 : (oI S_44 o 0).toInt = (oI Z o 0).toInt := by rw [oX.i XS_44 to (by decide)]
          have pk_47 : oP S_44 o 8 = some lw := by rw [oX.p XS_44 to (by decide)]; exact hlw0
          have pk_48 : oP S_44 b_6 0 = some amb_6 := by rw [oX.p XS_44 tb_6 (by decide)]; exact fm3b_6
          have pk_49 : oP S_44 b_6 1 = some avb_6 := by rw [oX.p XS_44 tb_6 (by decide)]; exact fv3b_6
          exact W.iret (v := r_43) hx hb hr (fun t ht hW => ⟨⟨r_43, S_44, rfl, ⟨hIS_44, X_45, ⟨by have kc0 : (0 : Int32).toInt = 0 := (by decide); have kc1 : (1 : Int32).toInt = 1 := (by decide); have kc2 : (2 : Int32).toInt = 2 := (by decide); unfold sdA; omega, (Or.inr ⟨by have kc0 : (0 : Int32).toInt = 0 := (by decide); have kc1 : (1 : Int32).toInt = 1 := (by decide); have kc2 : (2 : Int32).toInt = 2 := (by decide); unfold sdB; omega, (sR_x (W := [2108, 5001]) (oX.st oX.rf XS_44 (by decide)) (rw15 gI to) to (by decide))⟩)⟩⟩, ⟨by rw [ht]; exact hP, va_K.moved hW.alike hK, hD⟩⟩, hS.F ht⟩) hS.2.2 dX10_stands_66
        · have dc_41 := c_nle (a := x3.toInt) (b := x_40.toInt) rfl rfl c_41
          refine lv_aload_n hx hb dX10_stands_50 rfl (lv_at hl 2 rfl) ?_
          refine lv_bipush (v := (-6)) hx hb dX10_stands_51 (by decide) ?_
          have hFc := o_free hD hS hA
          refine va_calli (va_runV (As := [.int (-6)]) (rest := []) ⟨hx, hb, hml, hown, hts⟩ (c_X10_refuse_c l dC dI H.size cq Z gI o to (-6) (by decide)) (cwV 1 hts gX10_stands_X10_refuse rfl rfl rfl (by decide +kernel) ⟨(Nat.le_of_ble_eq_true rfl), (Nat.le_of_ble_eq_true rfl)⟩) (pr_V (r := (RX10, TX10, 16)) hP hK hD q_1 10 rfl hq_1) rfl rfl hl.1 rfl (lv_room (Nat.le_of_ble_eq_true rfl)) dX10_stands_53 ⟨(Nat.le_of_ble_eq_true rfl), (Nat.le_of_ble_eq_true rfl)⟩) hS (fun q _ h => hFc q h) hFc (fun r_51 u t H locs ht hvm w_50 hB hz1 hk1 hS => ?_)
          obtain ⟨S_52, rfl⟩ : ∃ z, z = u := ⟨_, rfl⟩
          obtain ⟨hP1, hK1, hD1⟩ := hB
          rw [ht] at hP1
          have hP : va_P (dC, dI) vwCl (oW cq S_52) H := hP1
          have hD : va_D A (oW cq S_52) := hD1.weaken (fun _ _ _ h => hFc _ h)
          clear hP1 hK1 hD1 hk1 hz1 hvm ht hFc
          obtain ⟨hIS_52, XS_52, hb_53, hx_54⟩ := w_50
          have X_55 : oX [2107, 2108, 5001] Z S_52 := oX.st oX.rf XS_52 (by decide)
          have g_56 : (oI S_52 o 0).toInt = (oI Z o 0).toInt := by rw [oX.i XS_52 to (by decide)]
          have pk_57 : oP S_52 o 8 = some lw := by rw [oX.p XS_52 to (by decide)]; exact hlw0
          have pk_58 : oP S_52 b_6 0 = some amb_6 := by rw [oX.p XS_52 tb_6 (by decide)]; exact fm3b_6
          have pk_59 : oP S_52 b_6 1 = some avb_6 := by rw [oX.p XS_52 tb_6 (by decide)]; exact fv3b_6
          have rf_60 : r_51.toInt = -6 := by rw [hx_54.1]; decide
          exact W.iret (v := r_51) hx hb hr (fun t ht hW => ⟨⟨r_51, S_52, rfl, ⟨hIS_52, X_55, ⟨by have kc0 : (0 : Int32).toInt = 0 := (by decide); have kc1 : (1 : Int32).toInt = 1 := (by decide); have kc2 : (2 : Int32).toInt = 2 := (by decide); unfold sdA; omega, (Or.inl ⟨by have kc0 : (0 : Int32).toInt = 0 := (by decide); have kc1 : (1 : Int32).toInt = 1 := (by decide); have kc2 : (2 : Int32).toInt = 2 := (by decide); unfold sdB; omega, by rw [hx_54.1]; exact hx_54.2⟩)⟩⟩, ⟨by rw [ht]; exact hP, va_K.moved hW.alike hK, hD⟩⟩, hS.F ht⟩) hS.2.2 dX10_stands_56
      · have dc_39 := c_nle (a := 0) (b := x3.toInt) (by decide) rfl c_39
        refine lv_aload_n hx hb dX10_stands_35 rfl (lv_at hl 2 rfl) ?_
        refine lv_bipush (v := (-4)) hx hb dX10_stands_36 (by decide) ?_
        have hFc := o_free hD hS hA
        refine va_calli (va_runV (As := [.int (-4)]) (rest := []) ⟨hx, hb, hml, hown, hts⟩ (c_X10_refuse_c l dC dI H.size cq Z gI o to (-4) (by decide)) (cwV 1 hts gX10_stands_X10_refuse rfl rfl rfl (by decide +kernel) ⟨(Nat.le_of_ble_eq_true rfl), (Nat.le_of_ble_eq_true rfl)⟩) (pr_V (r := (RX10, TX10, 16)) hP hK hD q_1 10 rfl hq_1) rfl rfl hl.1 rfl (lv_room (Nat.le_of_ble_eq_true rfl)) dX10_stands_38 ⟨(Nat.le_of_ble_eq_true rfl), (Nat.le_of_ble_eq_true rfl)⟩) hS (fun q _ h => hFc q h) hFc (fun r_62 u t H locs ht hvm w_61 hB hz1 hk1 hS => ?_)
        obtain ⟨S_63, rfl⟩ : ∃ z, z = u := ⟨_, rfl⟩
        obtain ⟨hP1, hK1, hD1⟩ := hB
        rw [ht] at hP1
        have hP : va_P (dC, dI) vwCl (oW cq S_63) H := hP1
        have hD : va_D A (oW cq S_63) := hD1.weaken (fun _ _ _ h => hFc _ h)
        clear hP1 hK1 hD1 hk1 hz1 hvm ht hFc
        obtain ⟨hIS_63, XS_63, hb_64, hx_65⟩ := w_61
        have X_66 : oX [2107, 2108, 5001] Z S_63 := oX.st oX.rf XS_63 (by decide)
        have g_67 : (oI S_63 o 0).toInt = (oI Z o 0).toInt := by rw [oX.i XS_63 to (by decide)]
        have pk_68 : oP S_63 o 8 = some lw := by rw [oX.p XS_63 to (by decide)]; exact hlw0
        have pk_69 : oP S_63 b_6 0 = some amb_6 := by rw [oX.p XS_63 tb_6 (by decide)]; exact fm3b_6
        have pk_70 : oP S_63 b_6 1 = some avb_6 := by rw [oX.p XS_63 tb_6 (by decide)]; exact fv3b_6
        have rf_71 : r_62.toInt = -4 := by rw [hx_65.1]; decide
        exact W.iret (v := r_62) hx hb hr (fun t ht hW => ⟨⟨r_62, S_63, rfl, ⟨hIS_63, X_66, ⟨by have kc0 : (0 : Int32).toInt = 0 := (by decide); have kc1 : (1 : Int32).toInt = 1 := (by decide); have kc2 : (2 : Int32).toInt = 2 := (by decide); unfold sdA; omega, (Or.inl ⟨by have kc0 : (0 : Int32).toInt = 0 := (by decide); have kc1 : (1 : Int32).toInt = 1 := (by decide); have kc2 : (2 : Int32).toInt = 2 := (by decide); unfold sdB; omega, by rw [hx_65.1]; exact hx_65.2⟩)⟩⟩, ⟨by rw [ht]; exact hP, va_K.moved hW.alike hK, hD⟩⟩, hS.F ht⟩) hS.2.2 dX10_stands_41
set_option maxHeartbeats 4000000 in
set_option maxRecDepth 100000 in
theorem c_X10_ask_r (l : Launch) (dC : Nat → ClassId) (dI : Nat → Nat → Nat) (sz : Nat) (cq : Nat → ClassId) (Z : oS) (gI : oInv Z) (o : Nat) (to : oty Z o 10) (x1 : Int32) (x2 : Int32) (x3 : Int32) : Met l yX10_ask wsX10_ask ({ frames := 1, cells := 0, slots := 0, locals := 21 }) (va_Pc [.ref o, .int x1, .int x2, .int x3] (pcW (dC, dI) (oT cq) (oW cq Z) sz)) (va_Qi (fun (r : Int32) (u : oS) => oInv u ∧ oX [2104, 2107] Z u ∧ ((∀ row, oP Z o 1 = some row → gas Z u row (oI Z o 2).toInt x1 x2 x3 r) ∧ rZo Z o u r (¬ gaok (oI Z o 2).toInt x1.toInt x2.toInt x3.toInt))) (fun u t => va_P (dC, dI) vwCl (oW cq u) t.heap ∧ va_K (dC, dI) vwCl (oT cq) t ∧ va_D (va_A (oW cq Z) sz) (oW cq u)) (va_A (oW cq Z) sz)) 0 0 (va_A (oW cq Z) sz) := by
  refine Met.ofW (cc := cX10_ask) (maxL := 6) (ret := (some .int)) (by decide) rfl ?_
  intro p e s m args below meth c s₁ B hml hv
  obtain ⟨rfl, hsz, hP, hK, hD0⟩ := hv
  have hx := B.exec
  have hb := B.bytes
  have hr := B.returns
  have hts := atoms_spec (ws := wsX10_ask) B.pre
  have hown : s.vm.findClass RX10 = some m.cls := findClass_of_methodNamed B.named
  have hlocks := B.notSynchronized
  subst hsz
  have hD := hD0.self (sz := s.heap.size)
  generalize hAe : va_A (oW cq Z) s.heap.size = A at hD ⊢
  have hA : ∀ q : Nat, s.heap.size ≤ q → A q := fun q h => by rw [← hAe]; exact Or.inr h
  have hS : va_S A s.heap s.heap [] := va_S.rf
  have hP : va_P (dC, dI) vwCl (oW cq Z) s.heap := hP
  have hl := lv_entry ([.ref o, .int x1, .int x2, .int x3]) (n := 6) (Nat.le_of_ble_eq_true rfl)
  rw [lg_entry_eq]
  generalize (lg_sl ([.ref o, .int x1, .int x2, .int x3]) ++ List.replicate (6 - (lg_sl ([.ref o, .int x1, .int x2, .int x3])).length) Slot.unset).toArray = ls at hl ⊢
  have hl : lv_has ls 6 [(0, .ref o), (1, .int x1), (2, .int x2), (3, .int x3)] := hl
  refine lv_aload_n hx hb dX10_ask_0 rfl (lv_at hl 0 rfl) ?_
  refine lv_iload_n hx hb dX10_ask_1 rfl (lv_at hl 1 rfl) ?_
  have hFc : ∀ q, va_A [] s.heap.size q → A q := pu_free hS hA
  obtain ⟨q_1, hq_1⟩ := og (cq := cq) to.1 (oE_10 to.2)
  refine va_callq (va_runV (As := [.int x1]) (rest := []) ⟨hx, hb, hml, hown, hts⟩ (c_X10_manAt_f l dC dI s.heap.size cq Z gI o to x1) (cwV 1 hts gX10_ask_X10_manAt rfl rfl rfl (by decide +kernel) ⟨(Nat.le_of_ble_eq_true rfl), (Nat.le_of_ble_eq_true rfl)⟩) (pr_V (r := (RX10, TX10, 16)) hP hK hD q_1 10 rfl hq_1) rfl rfl hl.1 rfl (lv_room (Nat.le_of_ble_eq_true rfl)) dX10_ask_2 ⟨(Nat.le_of_ble_eq_true rfl), (Nat.le_of_ble_eq_true rfl)⟩) hS (fun q _ h => hFc q h) hFc (fun r_3 u t H locs ht hvm w_2 hB hz1 hk1 hS => ?_)
  have hP := pu_keep hP hk1
  clear hk1 hz1 hvm hB ht hFc
  obtain ⟨hk_4, hx_5⟩ := w_2
  rcases r_3 with _ | b_6
  · refine W.eq (g2 := F0 m 5 ls [.null]) rfl ?_
    refine lv_astoreN (lv' := [(4, .null), (0, .ref o), (1, .int x1), (2, .int x2), (3, .int x3)]) hx hb dX10_ask_5 hl (by decide) rfl (fun ls hl => ?_)
    refine lv_aloadN hx hb dX10_ask_7 (lv_at hl 0 rfl) ?_
    refine lv_ifnonnullN hx hb dX10_ask_9 ?_
    refine lv_aload_n hx hb dX10_ask_12 rfl (lv_at hl 1 rfl) ?_
    refine lv_iconst (v := (-1)) hx hb dX10_ask_13 (by decide) ?_
    have hFc := o_free hD hS hA
    refine va_calli (va_runV (As := [.int (-1)]) (rest := []) ⟨hx, hb, hml, hown, hts⟩ (c_X10_refuse_c l dC dI H.size cq Z gI o to (-1) (by decide)) (cwV 1 hts gX10_ask_X10_refuse rfl rfl rfl (by decide +kernel) ⟨(Nat.le_of_ble_eq_true rfl), (Nat.le_of_ble_eq_true rfl)⟩) (pr_V (r := (RX10, TX10, 16)) hP hK hD q_1 10 rfl hq_1) rfl rfl hl.1 rfl (lv_room (Nat.le_of_ble_eq_true rfl)) dX10_ask_14 ⟨(Nat.le_of_ble_eq_true rfl), (Nat.le_of_ble_eq_true rfl)⟩) hS (fun q _ h => hFc q h) hFc (fun r_8 u t H locs ht hvm w_7 hB hz1 hk1 hS => ?_)
    obtain ⟨S_9, rfl⟩ : ∃ z, z = u := ⟨_, rfl⟩
    obtain ⟨hP1, hK1, hD1⟩ := hB
    rw [ht] at hP1
    have hP : va_P (dC, dI) vwCl (oW cq S_9) H := hP1
    have hD : va_D A (oW cq S_9) := hD1.weaken (fun _ _ _ h => hFc _ h)
    clear hP1 hK1 hD1 hk1 hz1 hvm ht hFc
    obtain ⟨hIS_9, XS_9, hb_10, hx_11⟩ := w_7
    have X_12 : oX [2104, 2107] Z S_9 := oX.st oX.rf XS_9 (by decide)
    have rf_13 : r_8.toInt = -1 := by rw [hx_11.1]; decide
    exact W.iret (v := r_8) hx hb hr (fun t ht hW => ⟨⟨r_8, S_9, rfl, ⟨hIS_9, X_12, ⟨(fun row hq => match hx_5 row hq with | Or.inl ⟨_, hm⟩ => Or.inl ⟨by unfold gao; omega, fun a t => oX.f XS_9 t (fun _ => nkw (by decide) (by decide) (by decide))⟩ | Or.inr ⟨_, b9, e9, _⟩ => by cases e9), (by obtain ⟨row9, hr9⟩ := oInv.nn (i := 1) gI to rfl; have q9 := hx_5 row9 hr9; unfold gat at q9; have g9 : ¬ (0 ≤ x1.toInt ∧ x1.toInt < (oI Z o 2).toInt) := (by rcases q9 with ⟨q8, q9⟩ | ⟨q8, q9, q7, q6⟩; exact q9; cases q7); exact (Or.inl ⟨by unfold gaok; omega, by rw [hx_11.1]; exact hx_11.2⟩))⟩⟩, ⟨by rw [ht]; exact hP, va_K.moved hW.alike hK, hD⟩⟩, hS.F ht⟩) hS.2.2 dX10_ask_17
  · refine W.eq (g2 := F0 m 5 ls [.ref b_6]) rfl ?_
    have tb_6 : oty Z b_6 6 := hk_4 b_6 rfl
    refine lv_astore (lv' := [(4, .ref b_6), (0, .ref o), (1, .int x1), (2, .int x2), (3, .int x3)]) hx hb dX10_ask_5 hl (by decide) rfl (fun ls hl => ?_)
    refine lv_aload hx hb dX10_ask_7 (lv_at hl 0 rfl) ?_
    refine lv_ifnonnull (tgt := 18) hx hb dX10_ask_9 (by decide) ?_
    refine lv_iload_n hx hb dX10_ask_18 rfl (lv_at hl 3 rfl) ?_
    refine lv_if_lt (tgt := 26) hx hb dX10_ask_19 (by decide) (fun c_14 => ?_) (fun c_14 => ?_)
    · have dc_14 := c_lt (a := x2.toInt) (b := 0) rfl (by decide) c_14
      refine lv_aload_n hx hb dX10_ask_26 rfl (lv_at hl 1 rfl) ?_
      refine lv_bipush (v := (-4)) hx hb dX10_ask_27 (by decide) ?_
      have hFc := o_free hD hS hA
      refine va_calli (va_runV (As := [.int (-4)]) (rest := []) ⟨hx, hb, hml, hown, hts⟩ (c_X10_refuse_c l dC dI H.size cq Z gI o to (-4) (by decide)) (cwV 1 hts gX10_ask_X10_refuse rfl rfl rfl (by decide +kernel) ⟨(Nat.le_of_ble_eq_true rfl), (Nat.le_of_ble_eq_true rfl)⟩) (pr_V (r := (RX10, TX10, 16)) hP hK hD q_1 10 rfl hq_1) rfl rfl hl.1 rfl (lv_room (Nat.le_of_ble_eq_true rfl)) dX10_ask_29 ⟨(Nat.le_of_ble_eq_true rfl), (Nat.le_of_ble_eq_true rfl)⟩) hS (fun q _ h => hFc q h) hFc (fun r_16 u t H locs ht hvm w_15 hB hz1 hk1 hS => ?_)
      obtain ⟨S_17, rfl⟩ : ∃ z, z = u := ⟨_, rfl⟩
      obtain ⟨hP1, hK1, hD1⟩ := hB
      rw [ht] at hP1
      have hP : va_P (dC, dI) vwCl (oW cq S_17) H := hP1
      have hD : va_D A (oW cq S_17) := hD1.weaken (fun _ _ _ h => hFc _ h)
      clear hP1 hK1 hD1 hk1 hz1 hvm ht hFc
      obtain ⟨hIS_17, XS_17, hb_18, hx_19⟩ := w_15
      have X_20 : oX [2104, 2107] Z S_17 := oX.st oX.rf XS_17 (by decide)
      have rf_21 : r_16.toInt = -4 := by rw [hx_19.1]; decide
      exact W.iret (v := r_16) hx hb hr (fun t ht hW => ⟨⟨r_16, S_17, rfl, ⟨hIS_17, X_20, ⟨(fun row hq => match hx_5 row hq with | Or.inl ⟨e9, _⟩ => by cases e9 | Or.inr ⟨hm, _, _, _⟩ => Or.inl ⟨by unfold gao; omega, fun a t => oX.f XS_17 t (fun _ => nkw (by decide) (by decide) (by decide))⟩), (by obtain ⟨row9, hr9⟩ := oInv.nn (i := 1) gI to rfl; have q9 := hx_5 row9 hr9; unfold gat at q9; have g9 : (0 ≤ x1.toInt ∧ x1.toInt < (oI Z o 2).toInt) := (by rcases q9 with ⟨q8, q9⟩ | ⟨q8, q9, q7, q6⟩; cases q8; exact q8); exact (Or.inl ⟨by unfold gaok; omega, by rw [hx_19.1]; exact hx_19.2⟩))⟩⟩, ⟨by rw [ht]; exact hP, va_K.moved hW.alike hK, hD⟩⟩, hS.F ht⟩) hS.2.2 dX10_ask_32
    · have dc_14 := c_nlt (a := x2.toInt) (b := 0) rfl (by decide) c_14
      refine lv_iload_n hx hb dX10_ask_22 rfl (lv_at hl 4 rfl) ?_
      refine lv_if_ge (tgt := 33) hx hb dX10_ask_23 (by decide) (fun c_22 => ?_) (fun c_22 => ?_)
      · have dc_22 := c_le (a := 0) (b := x3.toInt) (by decide) rfl c_22
        refine lv_iload_n hx hb dX10_ask_33 rfl (lv_at hl 3 rfl) ?_
        refine lv_iconst (v := 4) hx hb dX10_ask_34 (by decide) ?_
        refine lv_icmp_ge (tgt := 45) hx hb dX10_ask_35 (by decide) (fun c_23 => ?_) (fun c_23 => ?_)
        · have dc_23 := c_le (a := 4) (b := x2.toInt) (by decide) rfl c_23
          refine lv_aload_n hx hb dX10_ask_45 rfl (lv_at hl 1 rfl) ?_
          refine lv_bipush (v := (-6)) hx hb dX10_ask_46 (by decide) ?_
          have hFc := o_free hD hS hA
          refine va_calli (va_runV (As := [.int (-6)]) (rest := []) ⟨hx, hb, hml, hown, hts⟩ (c_X10_refuse_c l dC dI H.size cq Z gI o to (-6) (by decide)) (cwV 1 hts gX10_ask_X10_refuse rfl rfl rfl (by decide +kernel) ⟨(Nat.le_of_ble_eq_true rfl), (Nat.le_of_ble_eq_true rfl)⟩) (pr_V (r := (RX10, TX10, 16)) hP hK hD q_1 10 rfl hq_1) rfl rfl hl.1 rfl (lv_room (Nat.le_of_ble_eq_true rfl)) dX10_ask_48 ⟨(Nat.le_of_ble_eq_true rfl), (Nat.le_of_ble_eq_true rfl)⟩) hS (fun q _ h => hFc q h) hFc (fun r_25 u t H locs ht hvm w_24 hB hz1 hk1 hS => ?_)
          obtain ⟨S_26, rfl⟩ : ∃ z, z = u := ⟨_, rfl⟩
          obtain ⟨hP1, hK1, hD1⟩ := hB
          rw [ht] at hP1
          have hP : va_P (dC, dI) vwCl (oW cq S_26) H := hP1
          have hD : va_D A (oW cq S_26) := hD1.weaken (fun _ _ _ h => hFc _ h)
          clear hP1 hK1 hD1 hk1 hz1 hvm ht hFc
          obtain ⟨hIS_26, XS_26, hb_27, hx_28⟩ := w_24
          have X_29 : oX [2104, 2107] Z S_26 := oX.st oX.rf XS_26 (by decide)
          have rf_30 : r_25.toInt = -6 := by rw [hx_28.1]; decide
          exact W.iret (v := r_25) hx hb hr (fun t ht hW => ⟨⟨r_25, S_26, rfl, ⟨hIS_26, X_29, ⟨(fun row hq => match hx_5 row hq with | Or.inl ⟨e9, _⟩ => by cases e9 | Or.inr ⟨hm, _, _, _⟩ => Or.inl ⟨by unfold gao; omega, fun a t => oX.f XS_26 t (fun _ => nkw (by decide) (by decide) (by decide))⟩), (by obtain ⟨row9, hr9⟩ := oInv.nn (i := 1) gI to rfl; have q9 := hx_5 row9 hr9; unfold gat at q9; have g9 : (0 ≤ x1.toInt ∧ x1.toInt < (oI Z o 2).toInt) := (by rcases q9 with ⟨q8, q9⟩ | ⟨q8, q9, q7, q6⟩; cases q8; exact q8); exact (Or.inl ⟨by unfold gaok; omega, by rw [hx_28.1]; exact hx_28.2⟩))⟩⟩, ⟨by rw [ht]; exact hP, va_K.moved hW.alike hK, hD⟩⟩, hS.F ht⟩) hS.2.2 dX10_ask_51
        · have dc_23 := c_nle (a := 4) (b := x2.toInt) (by decide) rfl c_23
          refine lv_iload_n hx hb dX10_ask_38 rfl (lv_at hl 4 rfl) ?_
          refine lv_sipush (v := 9999) hx hb dX10_ask_39 (by decide) ?_
          refine lv_icmp_le (tgt := 52) hx hb dX10_ask_42 (by decide) (fun c_31 => ?_) (fun c_31 => ?_)
          · have dc_31 := c_le (a := x3.toInt) (b := 9999) rfl (by decide) c_31
            refine lv_aload hx hb dX10_ask_52 (lv_at hl 0 rfl) ?_
            obtain ⟨q_32, hq_32⟩ := og (cq := cq) tb_6.1 (oE_6 tb_6.2)
            obtain ⟨b_33, hb_33⟩ := oInv.nn (i := 4) gI tb_6 rfl
            refine va_get (D := (dC, dI)) (ci := 6) (v := .ref b_33) (C := RX6) (T := TX6) (N := 6) hx hb hts in_wsX10_ask_X6 hown hK hP q_32 hq_32 rfl 4 (by decide) (hts (.fieldLink RX10 335 "ShipOffice$Man" "wages" "[I") iw_X10_ask_1) (fun _ h9 => h9) (o_rd hb_33) dX10_ask_54 ?_
            have tb_33 : oty Z b_33 104 := oInv.rd gI tb_6.2 hb_33 rfl rfl
            refine lv_iload_n hx hb dX10_ask_57 rfl (lv_at hl 3 rfl) ?_
            obtain ⟨q_34, hq_34⟩ := og (cq := cq) tb_33.1 (oE_a1 (n := 4) tb_33.2 (by decide))
            refine va_iald hx hb hK hP q_34 0 hq_34 rfl (vp_in_iff.mpr (by omega)) dX10_ask_58 ?_
            refine lv_topi (fun x_35 ex_35 => ?_)
            refine lv_istore (lv' := [(5, .int x_35), (4, .ref b_6), (0, .ref o), (1, .int x1), (2, .int x2), (3, .int x3)]) hx hb dX10_ask_59 hl (by decide) rfl (fun ls hl => ?_)
            refine lv_aload hx hb dX10_ask_61 (lv_at hl 1 rfl) ?_
            refine va_get (D := (dC, dI)) (ci := 6) (v := .ref b_33) (C := RX6) (T := TX6) (N := 6) hx hb hts in_wsX10_ask_X6 hown hK hP q_32 hq_32 rfl 4 (by decide) (hts (.fieldLink RX10 335 "ShipOffice$Man" "wages" "[I") iw_X10_ask_1) (fun _ h9 => h9) (o_rd hb_33) dX10_ask_63 ?_
            refine lv_iload_n hx hb dX10_ask_66 rfl (lv_at hl 4 rfl) ?_
            refine lv_iload_n hx hb dX10_ask_67 rfl (lv_at hl 5 rfl) ?_
            refine va_iast hx hb hK hP hD hS q_34 0 hq_34 rfl (vp_in_iff.mpr (by omega)) dX10_ask_68 (fun H locs hP1 hD1 hS => ?_)
            obtain ⟨S_36, eS_36⟩ : ∃ zq, zq = setI Z b_33 (x2 : Int32).toNatClampNeg x3 := ⟨_, rfl⟩
            have hP : va_P (dC, dI) vwCl (oW cq S_36) H := by rw [eS_36]; exact cP (oset tb_33.1 hq_34 hD rfl (he_a1 (n := 4) tb_33.2 (by decide)) neI) hP1
            have hD : va_D A (oW cq S_36) := by rw [eS_36]; exact cD (oset tb_33.1 hq_34 hD rfl (he_a1 (n := 4) tb_33.2 (by decide)) neI) hD1
            clear hP1 hD1
            have hIS_36 : oInv S_36 := by rw [eS_36]; exact oInv.A (k := 104) gI tb_33.2 (by decide)
            have XS_36 : oX [2104] Z S_36 := by rw [eS_36]; exact oX.I (k := 104) (key := 2104) tb_33.2 rfl (List.mem_singleton.mpr rfl)
            have pk_37 : oP S_36 b_6 4 = some b_33 := by rw [eS_36]; exact hb_33
            have X_38 : oX [2104, 2107] Z S_36 := oX.st oX.rf XS_36 (by decide)
            refine lv_iload hx hb dX10_ask_69 (lv_at hl 0 rfl) ?_
            exact W.iret (v := x_35) hx hb hr (fun t ht hW => ⟨⟨x_35, S_36, rfl, ⟨hIS_36, X_38, ⟨(fun row hq => match hx_5 row hq with | Or.inl ⟨e9, _⟩ => by cases e9 | Or.inr ⟨hm, b9, e9, hb9⟩ => by cases e9; exact Or.inr ⟨by unfold gaok; omega, b_6, b_33, hb9, hb_33, ex_35, by rw [eS_36, setI_fun], fun a t n => by rw [eS_36, setI_oth n]⟩), (by obtain ⟨row9, hr9⟩ := oInv.nn (i := 1) gI to rfl; have q9 := hx_5 row9 hr9; unfold gat at q9; have g9 : (0 ≤ x1.toInt ∧ x1.toInt < (oI Z o 2).toInt) := (by rcases q9 with ⟨q8, q9⟩ | ⟨q8, q9, q7, q6⟩; cases q8; exact q8); exact (Or.inr ⟨by unfold gaok; omega, (sR_x (W := [2104]) (oX.st oX.rf XS_36 (by decide)) (rw15 gI to) to (by decide))⟩))⟩⟩, ⟨by rw [ht]; exact hP, va_K.moved hW.alike hK, hD⟩⟩, hS.F ht⟩) hS.2.2 dX10_ask_71
          · have dc_31 := c_nle (a := x3.toInt) (b := 9999) rfl (by decide) c_31
            refine lv_aload_n hx hb dX10_ask_45 rfl (lv_at hl 1 rfl) ?_
            refine lv_bipush (v := (-6)) hx hb dX10_ask_46 (by decide) ?_
            have hFc := o_free hD hS hA
            refine va_calli (va_runV (As := [.int (-6)]) (rest := []) ⟨hx, hb, hml, hown, hts⟩ (c_X10_refuse_c l dC dI H.size cq Z gI o to (-6) (by decide)) (cwV 1 hts gX10_ask_X10_refuse rfl rfl rfl (by decide +kernel) ⟨(Nat.le_of_ble_eq_true rfl), (Nat.le_of_ble_eq_true rfl)⟩) (pr_V (r := (RX10, TX10, 16)) hP hK hD q_1 10 rfl hq_1) rfl rfl hl.1 rfl (lv_room (Nat.le_of_ble_eq_true rfl)) dX10_ask_48 ⟨(Nat.le_of_ble_eq_true rfl), (Nat.le_of_ble_eq_true rfl)⟩) hS (fun q _ h => hFc q h) hFc (fun r_40 u t H locs ht hvm w_39 hB hz1 hk1 hS => ?_)
            obtain ⟨S_41, rfl⟩ : ∃ z, z = u := ⟨_, rfl⟩
            obtain ⟨hP1, hK1, hD1⟩ := hB
            rw [ht] at hP1
            have hP : va_P (dC, dI) vwCl (oW cq S_41) H := hP1
            have hD : va_D A (oW cq S_41) := hD1.weaken (fun _ _ _ h => hFc _ h)
            clear hP1 hK1 hD1 hk1 hz1 hvm ht hFc
            obtain ⟨hIS_41, XS_41, hb_42, hx_43⟩ := w_39
            have X_44 : oX [2104, 2107] Z S_41 := oX.st oX.rf XS_41 (by decide)
            have rf_45 : r_40.toInt = -6 := by rw [hx_43.1]; decide
            exact W.iret (v := r_40) hx hb hr (fun t ht hW => ⟨⟨r_40, S_41, rfl, ⟨hIS_41, X_44, ⟨(fun row hq => match hx_5 row hq with | Or.inl ⟨e9, _⟩ => by cases e9 | Or.inr ⟨hm, _, _, _⟩ => Or.inl ⟨by unfold gao; omega, fun a t => oX.f XS_41 t (fun _ => nkw (by decide) (by decide) (by decide))⟩), (by obtain ⟨row9, hr9⟩ := oInv.nn (i := 1) gI to rfl; have q9 := hx_5 row9 hr9; unfold gat at q9; have g9 : (0 ≤ x1.toInt ∧ x1.toInt < (oI Z o 2).toInt) := (by rcases q9 with ⟨q8, q9⟩ | ⟨q8, q9, q7, q6⟩; cases q8; exact q8); exact (Or.inl ⟨by unfold gaok; omega, by rw [hx_43.1]; exact hx_43.2⟩))⟩⟩, ⟨by rw [ht]; exact hP, va_K.moved hW.alike hK, hD⟩⟩, hS.F ht⟩) hS.2.2 dX10_ask_51
      · have dc_22 := c_nle (a := 0) (b := x3.toInt) (by decide) rfl c_22
        refine lv_aload_n hx hb dX10_ask_26 rfl (lv_at hl 1 rfl) ?_
        refine lv_bipush (v := (-4)) hx hb dX10_ask_27 (by decide) ?_
        have hFc := o_free hD hS hA
        refine va_calli (va_runV (As := [.int (-4)]) (rest := []) ⟨hx, hb, hml, hown, hts⟩ (c_X10_refuse_c l dC dI H.size cq Z gI o to (-4) (by decide)) (cwV 1 hts gX10_ask_X10_refuse rfl rfl rfl (by decide +kernel) ⟨(Nat.le_of_ble_eq_true rfl), (Nat.le_of_ble_eq_true rfl)⟩) (pr_V (r := (RX10, TX10, 16)) hP hK hD q_1 10 rfl hq_1) rfl rfl hl.1 rfl (lv_room (Nat.le_of_ble_eq_true rfl)) dX10_ask_29 ⟨(Nat.le_of_ble_eq_true rfl), (Nat.le_of_ble_eq_true rfl)⟩) hS (fun q _ h => hFc q h) hFc (fun r_47 u t H locs ht hvm w_46 hB hz1 hk1 hS => ?_)
        obtain ⟨S_48, rfl⟩ : ∃ z, z = u := ⟨_, rfl⟩
        obtain ⟨hP1, hK1, hD1⟩ := hB
        rw [ht] at hP1
        have hP : va_P (dC, dI) vwCl (oW cq S_48) H := hP1
        have hD : va_D A (oW cq S_48) := hD1.weaken (fun _ _ _ h => hFc _ h)
        clear hP1 hK1 hD1 hk1 hz1 hvm ht hFc
        obtain ⟨hIS_48, XS_48, hb_49, hx_50⟩ := w_46
        have X_51 : oX [2104, 2107] Z S_48 := oX.st oX.rf XS_48 (by decide)
        have rf_52 : r_47.toInt = -4 := by rw [hx_50.1]; decide
        exact W.iret (v := r_47) hx hb hr (fun t ht hW => ⟨⟨r_47, S_48, rfl, ⟨hIS_48, X_51, ⟨(fun row hq => match hx_5 row hq with | Or.inl ⟨e9, _⟩ => by cases e9 | Or.inr ⟨hm, _, _, _⟩ => Or.inl ⟨by unfold gao; omega, fun a t => oX.f XS_48 t (fun _ => nkw (by decide) (by decide) (by decide))⟩), (by obtain ⟨row9, hr9⟩ := oInv.nn (i := 1) gI to rfl; have q9 := hx_5 row9 hr9; unfold gat at q9; have g9 : (0 ≤ x1.toInt ∧ x1.toInt < (oI Z o 2).toInt) := (by rcases q9 with ⟨q8, q9⟩ | ⟨q8, q9, q7, q6⟩; cases q8; exact q8); exact (Or.inl ⟨by unfold gaok; omega, by rw [hx_50.1]; exact hx_50.2⟩))⟩⟩, ⟨by rw [ht]; exact hP, va_K.moved hW.alike hK, hD⟩⟩, hS.F ht⟩) hS.2.2 dX10_ask_32
set_option maxHeartbeats 4000000 in
set_option maxRecDepth 100000 in
theorem c_X10_check_r (l : Launch) (dC : Nat → ClassId) (dI : Nat → Nat → Nat) (sz : Nat) (cq : Nat → ClassId) (Z : oS) (gI : oInv Z) (o : Nat) (to : oty Z o 10) (x1 : Int32) (x2 : Int32) (x3 : Int32) (v : Nat → Int32) (fa : Nat → Nat → Int32) (hR : RC Z o v fa) (hE : RX Z o v fa) (hRw : rRw Z o v fa) : Met l yX10_check wsX10_check ({ frames := 6, cells := 0, slots := 0, locals := 158 }) (va_Pc [.ref o, .int x1, .int x2, .int x3] (pcW (dC, dI) (oT cq) (oW cq Z) sz)) (va_Qi (fun (r : Int32) (u : oS) => oInv u ∧ oX [1014, 2107, 2108, 5001] Z u ∧ ((aSt (v 40).toInt (v 38).toInt x1.toInt x2.toInt x3.toInt r.toInt r.toInt ∧ (¬ bSt (v 40).toInt (v 38).toInt x1.toInt x2.toInt x3.toInt → ckA (fun a => (fa 21 a).toInt) (fun i => (fa 61 i).toInt) (fun a => owF v fa a x2 x3.toInt) x1.toInt (v 62).toInt (v 43).toNatClampNeg r.toInt) ∧ ((bSt (v 40).toInt (v 38).toInt x1.toInt x2.toInt x3.toInt ∧ rfO Z o u r) ∨ (¬ bSt (v 40).toInt (v 38).toInt x1.toInt x2.toInt x3.toInt ∧ (oI u o 14).toInt = 0))) ∧ (bSt (v 40).toInt (v 38).toInt x1.toInt x2.toInt x3.toInt ∨ sR Z o u))) (fun u t => va_P (dC, dI) vwCl (oW cq u) t.heap ∧ va_K (dC, dI) vwCl (oT cq) t ∧ va_D (va_A (oW cq Z) sz) (oW cq u)) (va_A (oW cq Z) sz)) 0 0 (va_A (oW cq Z) sz) := by
  refine Met.ofW (cc := cX10_check) (maxL := 9) (ret := (some .int)) (by decide) rfl ?_
  intro p e s m args below meth c s₁ B hml hv
  obtain ⟨rfl, hsz, hP, hK, hD0⟩ := hv
  have hx := B.exec
  have hb := B.bytes
  have hr := B.returns
  have hts := atoms_spec (ws := wsX10_check) B.pre
  have hown : s.vm.findClass RX10 = some m.cls := findClass_of_methodNamed B.named
  have hlocks := B.notSynchronized
  subst hsz
  have hD := hD0.self (sz := s.heap.size)
  generalize hAe : va_A (oW cq Z) s.heap.size = A at hD ⊢
  have hA : ∀ q : Nat, s.heap.size ≤ q → A q := fun q h => by rw [← hAe]; exact Or.inr h
  have hS : va_S A s.heap s.heap [] := va_S.rf
  have hP : va_P (dC, dI) vwCl (oW cq Z) s.heap := hP
  have hl := lv_entry ([.ref o, .int x1, .int x2, .int x3]) (n := 9) (Nat.le_of_ble_eq_true rfl)
  rw [lg_entry_eq]
  generalize (lg_sl ([.ref o, .int x1, .int x2, .int x3]) ++ List.replicate (9 - (lg_sl ([.ref o, .int x1, .int x2, .int x3])).length) Slot.unset).toArray = ls at hl ⊢
  have hl : lv_has ls 9 [(0, .ref o), (1, .int x1), (2, .int x2), (3, .int x3)] := hl
  obtain ⟨fn0, fn1, fn2, fn3, fn4⟩ := RC.n hR
  have fb38 : 0 ≤ (v 38).toInt ∧ (v 38).toInt ≤ 3000 := RC.V hR 38
  have fb39 : 0 ≤ (v 39).toInt ∧ (v 39).toInt ≤ 40 := RC.V hR 39
  have fb40 : 0 ≤ (v 40).toInt ∧ (v 40).toInt ≤ 20 := RC.V hR 40
  have fb43 : 0 ≤ (v 43).toInt ∧ (v 43).toInt ≤ 60 := RC.V hR 43
  have fb41 : 0 ≤ (v 41).toInt ∧ (v 41).toInt ≤ 200 := RC.V hR 41
  obtain ⟨lw, hlw0⟩ := oInv.nn (i := 8) gI to rfl
  have tlw : oty Z lw 5 := oInv.rd gI to.2 hlw0 rfl rfl
  have hLr : rLw Z lw v fa := by have q := RC.l hR; rw [oQ_e hlw0] at q; exact q
  have hRw1 := hRw.1
  refine lv_aload_n hx hb dX10_check_0 rfl (lv_at hl 0 rfl) ?_
  refine lv_iload_n hx hb dX10_check_1 rfl (lv_at hl 1 rfl) ?_
  have hFc : ∀ q, va_A [] s.heap.size q → A q := pu_free hS hA
  obtain ⟨q_1, hq_1⟩ := og (cq := cq) to.1 (oE_10 to.2)
  refine va_callq (va_runV (As := [.int x1]) (rest := []) ⟨hx, hb, hml, hown, hts⟩ (c_X10_voyageAt_c l dC dI s.heap.size cq Z gI o to x1 v fa hR) (cwV 1 hts gX10_check_X10_voyageAt rfl rfl rfl (by decide +kernel) ⟨(Nat.le_of_ble_eq_true rfl), (Nat.le_of_ble_eq_true rfl)⟩) (pr_V (r := (RX10, TX10, 16)) hP hK hD q_1 10 rfl hq_1) rfl rfl hl.1 rfl (lv_room (Nat.le_of_ble_eq_true rfl)) dX10_check_2 ⟨(Nat.le_of_ble_eq_true rfl), (Nat.le_of_ble_eq_true rfl)⟩) hS (fun q _ h => hFc q h) hFc (fun r_3 u t H locs ht hvm w_2 hB hz1 hk1 hS => ?_)
  have hP := pu_keep hP hk1
  clear hk1 hz1 hvm hB ht hFc
  obtain ⟨hk_4, hx_5⟩ := w_2
  rcases r_3 with _ | b_6
  · refine W.eq (g2 := F0 m 5 ls [.null]) rfl ?_
    have hnr_3 := atF_n hx_5
    refine lv_astoreN (lv' := [(4, .null), (0, .ref o), (1, .int x1), (2, .int x2), (3, .int x3)]) hx hb dX10_check_5 hl (by decide) rfl (fun ls hl => ?_)
    refine lv_aloadN hx hb dX10_check_7 (lv_at hl 0 rfl) ?_
    refine lv_ifnonnullN hx hb dX10_check_9 ?_
    refine lv_aload_n hx hb dX10_check_12 rfl (lv_at hl 1 rfl) ?_
    refine lv_iconst (v := (-1)) hx hb dX10_check_13 (by decide) ?_
    have hFc := o_free hD hS hA
    refine va_calli (va_runV (As := [.int (-1)]) (rest := []) ⟨hx, hb, hml, hown, hts⟩ (c_X10_refuse_c l dC dI H.size cq Z gI o to (-1) (by decide)) (cwV 1 hts gX10_check_X10_refuse rfl rfl rfl (by decide +kernel) ⟨(Nat.le_of_ble_eq_true rfl), (Nat.le_of_ble_eq_true rfl)⟩) (pr_V (r := (RX10, TX10, 16)) hP hK hD q_1 10 rfl hq_1) rfl rfl hl.1 rfl (lv_room (Nat.le_of_ble_eq_true rfl)) dX10_check_14 ⟨(Nat.le_of_ble_eq_true rfl), (Nat.le_of_ble_eq_true rfl)⟩) hS (fun q _ h => hFc q h) hFc (fun r_8 u t H locs ht hvm w_7 hB hz1 hk1 hS => ?_)
    obtain ⟨S_9, rfl⟩ : ∃ z, z = u := ⟨_, rfl⟩
    obtain ⟨hP1, hK1, hD1⟩ := hB
    rw [ht] at hP1
    have hP : va_P (dC, dI) vwCl (oW cq S_9) H := hP1
    have hD : va_D A (oW cq S_9) := hD1.weaken (fun _ _ _ h => hFc _ h)
    clear hP1 hK1 hD1 hk1 hz1 hvm ht hFc
    obtain ⟨hIS_9, XS_9, hb_10, hx_11⟩ := w_7
    have X_12 : oX [1014, 2107, 2108, 5001] Z S_9 := oX.st oX.rf XS_9 (by decide)
    have g_13 : (oI S_9 o 0).toInt = (oI Z o 0).toInt := by rw [oX.i XS_9 to (by decide)]
    have g_14 : (oI S_9 o 6).toInt = (oI Z o 6).toInt := by rw [oX.i XS_9 to (by decide)]
    have g_15 : (oI S_9 o 14).toInt = (oI Z o 14).toInt := by rw [oX.i XS_9 to (by decide)]
    have pk_16 : oP S_9 o 8 = some lw := by rw [oX.p XS_9 to (by decide)]; exact hlw0
    have rf_17 : r_8.toInt = -1 := by rw [hx_11.1]; decide
    exact W.iret (v := r_8) hx hb hr (fun t ht hW => ⟨⟨r_8, S_9, rfl, ⟨hIS_9, X_12, ⟨⟨by have kc0 : (0 : Int32).toInt = 0 := (by decide); have kc1 : (1 : Int32).toInt = 1 := (by decide); have kc2 : (2 : Int32).toInt = 2 := (by decide); unfold aSt; omega, fun q => absurd (by unfold bSt; omega) q, by have kc0 : (0 : Int32).toInt = 0 := (by decide); have kc1 : (1 : Int32).toInt = 1 := (by decide); have kc2 : (2 : Int32).toInt = 2 := (by decide); exact Or.inl ⟨by unfold bSt; omega, by rw [hx_11.1]; exact hx_11.2⟩⟩, Or.inl (by have kc0 : (0 : Int32).toInt = 0 := (by decide); have kc1 : (1 : Int32).toInt = 1 := (by decide); have kc2 : (2 : Int32).toInt = 2 := (by decide); unfold bSt; omega)⟩⟩, ⟨by rw [ht]; exact hP, va_K.moved hW.alike hK, hD⟩⟩, hS.F ht⟩) hS.2.2 dX10_check_17
  · refine W.eq (g2 := F0 m 5 ls [.ref b_6]) rfl ?_
    have tb_6 : oty Z b_6 9 := hk_4 b_6 rfl
    obtain ⟨hjb_6, ejb_6⟩ := atF_s hx_5
    have ljb_6 := ni_lt hjb_6.1 hjb_6.2
    have njb_6 := tn_i hjb_6.1
    have fVb_6 := RC.vo hR ljb_6
    rw [← ejb_6] at fVb_6
    obtain ⟨fy0b_6, fy1b_6, fy2b_6, fy3b_6, fy4b_6, fySb_6, fyLb_6, fyhb_6⟩ := fVb_6
    have fBb_6 : 0 ≤ (fa 7 x1.toNatClampNeg).toInt ∧ (fa 7 x1.toNatClampNeg).toInt ≤ 3000 := RC.A hR 7 _
    have fSb_6 := onc_i fySb_6
    have fLb_6 := onc_i fyLb_6
    rw [njb_6] at fy0b_6 fSb_6 fLb_6
    refine lv_astore (lv' := [(4, .ref b_6), (0, .ref o), (1, .int x1), (2, .int x2), (3, .int x3)]) hx hb dX10_check_5 hl (by decide) rfl (fun ls hl => ?_)
    refine lv_aload hx hb dX10_check_7 (lv_at hl 0 rfl) ?_
    refine lv_ifnonnull (tgt := 18) hx hb dX10_check_9 (by decide) ?_
    refine lv_aload_n hx hb dX10_check_18 rfl (lv_at hl 1 rfl) ?_
    refine lv_iload_n hx hb dX10_check_19 rfl (lv_at hl 3 rfl) ?_
    refine lv_iload_n hx hb dX10_check_20 rfl (lv_at hl 4 rfl) ?_
    have hFc : ∀ q, va_A [] H.size q → A q := pu_free hS hA
    refine va_calli (va_runV (As := [.int x2, .int x3]) (rest := []) ⟨hx, hb, hml, hown, hts⟩ (c_X10_askRefusal_c l dC dI H.size cq Z gI o to x2 x3) (cwV 2 hts gX10_check_X10_askRefusal rfl rfl rfl (by decide +kernel) ⟨(Nat.le_of_ble_eq_true rfl), (Nat.le_of_ble_eq_true rfl)⟩) (pr_V (r := (RX10, TX10, 16)) hP hK hD q_1 10 rfl hq_1) rfl rfl hl.1 rfl (lv_room (Nat.le_of_ble_eq_true rfl)) dX10_check_21 ⟨(Nat.le_of_ble_eq_true rfl), (Nat.le_of_ble_eq_true rfl)⟩) hS (fun q _ h => hFc q h) hFc (fun r_19 u t H locs ht hvm w_18 hB hz1 hk1 hS => ?_)
    have hP := pu_keep hP hk1
    clear hk1 hz1 hvm hB ht hFc
    obtain ⟨hb_20, hx_21⟩ := w_18
    refine lv_istore (lv' := [(5, .int r_19), (4, .ref b_6), (0, .ref o), (1, .int x1), (2, .int x2), (3, .int x3)]) hx hb dX10_check_24 hl (by decide) rfl (fun ls hl => ?_)
    refine lv_iload hx hb dX10_check_26 (lv_at hl 0 rfl) ?_
    refine lv_if_eq (tgt := 38) hx hb dX10_check_28 (by decide) (fun c_22 => ?_) (fun c_22 => ?_)
    · have dc_22 := c_eq (a := r_19.toInt) (b := 0) rfl (by decide) c_22
      refine lv_aload_n hx hb dX10_check_38 rfl (lv_at hl 2 rfl) ?_
      refine va_get (D := (dC, dI)) (ci := 10) (v := .int (oI Z o 14)) (C := RX10) (T := TX10) (N := 16) hx hb hts in_wsX10_check_X10 hown hK hP q_1 hq_1 rfl 14 (by decide) (hts (.fieldLink RX10 353 "ShipOffice" "rowCount" "I") iw_X10_check_1) (fun _ h9 => h9) rfl dX10_check_39 ?_
      refine lv_topi (fun x_23 ex_23 => ?_)
      have hx_23 : 0 ≤ x_23.toInt ∧ x_23.toInt ≤ 12 := iv_of ex_23 (oInv.iv gI to.2 rfl rfl)
      have gx_23 : x_23.toInt = (oI Z o 14).toInt := iv_to ex_23
      clear ex_23
      refine lv_istore (lv' := [(6, .int x_23), (5, .int r_19), (4, .ref b_6), (0, .ref o), (1, .int x1), (2, .int x2), (3, .int x3)]) hx hb dX10_check_42 hl (by decide) rfl (fun ls hl => ?_)
      refine lv_aload_n hx hb dX10_check_44 rfl (lv_at hl 3 rfl) ?_
      refine lv_iconst (v := 0) hx hb dX10_check_45 (by decide) ?_
      refine va_put (D := (dC, dI)) (ci := 10) (v := .int 0) (ty := .int) (C := RX10) (T := TX10) (N := 16) hx hb hts in_wsX10_check_X10 tyX10 tyX10_ok nmX10 hown hK hP hD hS q_1 hq_1 rfl 14 (by decide) (hts (.fieldLink RX10 353 "ShipOffice" "rowCount" "I") iw_X10_check_1) (fun _ h9 => h9) rfl (by decide +kernel) rfl rfl (Nat.le_of_ble_eq_true rfl) dX10_check_46 (fun H locs hP1 hD1 hS => ?_)
      obtain ⟨S_24, eS_24⟩ : ∃ zq, zq = setI Z o 14 0 := ⟨_, rfl⟩
      have hP : va_P (dC, dI) vwCl (oW cq S_24) H := by rw [eS_24]; exact cP (oset to.1 hq_1 hD rfl (he_10_14 to.2) neI) hP1
      have hD : va_D A (oW cq S_24) := by rw [eS_24]; exact cD (oset to.1 hq_1 hD rfl (he_10_14 to.2) neI) hD1
      clear hP1 hD1
      have hIS_24 : oInv S_24 := by rw [eS_24]; exact oInv.I0 (k := 10) (lo := 0) (hi := 12) gI to.2 (by decide) rfl rfl rfl (by decide)
      have XS_24 : oX [1014] Z S_24 := by rw [eS_24]; exact oX.I (k := 10) (key := 1014) to.2 rfl (List.mem_singleton.mpr rfl)
      have pk_25 : oP S_24 o 8 = some lw := by rw [eS_24]; exact hlw0
      have X_26 : oX [1014, 2107, 2108, 5001] Z S_24 := oX.st oX.rf XS_24 (by decide)
      have g_27 : (oI S_24 o 0).toInt = (oI Z o 0).toInt := by rw [eS_24, setI_ne (by decide)]
      have g_28 : (oI S_24 o 6).toInt = (oI Z o 6).toInt := by rw [eS_24, setI_ne (by decide)]
      have g_29 : (oI S_24 o 14).toInt = 0 := by rw [eS_24, setI_same]; decide
      refine lv_iconst (v := 0) hx hb dX10_check_49 (by decide) ?_
      refine lv_istore (lv' := [(7, .int 0), (6, .int x_23), (5, .int r_19), (4, .ref b_6), (0, .ref o), (1, .int x1), (2, .int x2), (3, .int x3)]) hx hb dX10_check_50 hl (by decide) rfl (fun ls hl => ?_)
      refine lv_iconst (v := 0) hx hb dX10_check_52 (by decide) ?_
      refine lv_istore (lv' := [(8, .int 0), (7, .int 0), (6, .int x_23), (5, .int r_19), (4, .ref b_6), (0, .ref o), (1, .int x1), (2, .int x2), (3, .int x3)]) hx hb dX10_check_53 hl (by decide) rfl (fun ls hl => ?_)
      have cut_30 : ∀ (n : Nat) (y_31 : Int32) (y_32 : Int32) (S_33 : oS) (H : Heap) (locs : List Loc) (ls : Array Slot), 60 - y_32.toInt ≤ (n : Int) → (0 ≤ y_31.toInt ∧ y_31.toInt ≤ 60) → (0 ≤ y_32.toInt ∧ y_32.toInt ≤ 60) → y_31.toInt ≤ y_32.toInt → ((oI S_33 o 14).toInt = 0 ∧ (oI S_33 o 6).toInt = (v 43).toInt) → y_31.toInt = ckC (fun a => (fa 21 a).toInt) x1.toInt y_32.toNatClampNeg → (∀ b, b < y_32.toNatClampNeg → ¬ ckD (fun a => (fa 21 a).toInt) (fun i => (fa 61 i).toInt) (fun a => owF v fa a x2 x3.toInt) x1.toInt (v 62).toInt b) → y_32.toInt ≤ (v 43).toInt → sR Z o S_33 → oInv S_33 → oX [1014, 2107, 2108, 5001] S_24 S_33 → va_P (dC, dI) vwCl (oW cq S_33) H → va_D A (oW cq S_33) → va_S A s.heap H locs → oP S_33 o 8 = some lw → lv_has ls 9 [(7, .int y_31), (8, .int y_32), (6, .int x_23), (5, .int r_19), (4, .ref b_6), (0, .ref o), (1, .int x1), (2, .int x2), (3, .int x3)] → W p l e (headSpec wsX10_check { frames := 6, cells := 0, slots := 0, locals := 158 }).room s m #[Value.ref o, Value.int x1, Value.int x2, Value.int x3] below meth c H locs 0 0 (MQ below (va_Qi (fun (r : Int32) (u : oS) => oInv u ∧ oX [1014, 2107, 2108, 5001] Z u ∧ ((aSt (v 40).toInt (v 38).toInt x1.toInt x2.toInt x3.toInt r.toInt r.toInt ∧ (¬ bSt (v 40).toInt (v 38).toInt x1.toInt x2.toInt x3.toInt → ckA (fun a => (fa 21 a).toInt) (fun i => (fa 61 i).toInt) (fun a => owF v fa a x2 x3.toInt) x1.toInt (v 62).toInt (v 43).toNatClampNeg r.toInt) ∧ ((bSt (v 40).toInt (v 38).toInt x1.toInt x2.toInt x3.toInt ∧ rfO Z o u r) ∨ (¬ bSt (v 40).toInt (v 38).toInt x1.toInt x2.toInt x3.toInt ∧ (oI u o 14).toInt = 0))) ∧ (bSt (v 40).toInt (v 38).toInt x1.toInt x2.toInt x3.toInt ∨ sR Z o u))) (fun u t => va_P (dC, dI) vwCl (oW cq u) t.heap ∧ va_K (dC, dI) vwCl (oT cq) t ∧ va_D A (oW cq u)) A) #[Value.ref o, Value.int x1, Value.int x2, Value.int x3] s 0 0 A) (F0 m 55 ls []) := by
        intro n
        induction n using Nat.strongRecOn with
        | ind n ih =>
          intro y_31 y_32 S_33 H locs ls hm hy_31 hy_32 hq0_cut_30 hq1_cut_30 hq2_cut_30 hq3_cut_30 hq4_cut_30 hq5_cut_30 hIS_33 XS_33 hP hD hS pk_34 hl
          have YS_33 : oX [1014, 2107, 2108, 5001] Z S_33 := oX.st X_26 XS_33 (fun _ q => q)
          refine lv_iload hx hb dX10_check_55 (lv_at hl 1 rfl) ?_
          refine lv_aload_n hx hb dX10_check_57 rfl (lv_at hl 5 rfl) ?_
          have t_35 : oty S_33 o 10 := (oX.ty XS_33 (oX.ty XS_24 to))
          obtain ⟨q_36, hq_36⟩ := og (cq := cq) t_35.1 (oE_10 t_35.2)
          refine va_get (D := (dC, dI)) (ci := 10) (v := .int (oI S_33 o 6)) (C := RX10) (T := TX10) (N := 16) hx hb hts in_wsX10_check_X10 hown hK hP q_36 hq_36 rfl 6 (by decide) (hts (.fieldLink RX10 115 "ShipOffice" "agreementCount" "I") iw_X10_check_2) (fun _ h9 => h9) rfl dX10_check_58 ?_
          refine lv_topi (fun x_37 ex_37 => ?_)
          have hx_37 : 0 ≤ x_37.toInt ∧ x_37.toInt ≤ 60 := iv_of ex_37 (oInv.iv hIS_33 t_35.2 rfl rfl)
          have gx_37 : x_37.toInt = (oI S_33 o 6).toInt := iv_to ex_37
          clear ex_37
          refine lv_icmp_ge (tgt := 121) hx hb dX10_check_61 (by decide) (fun c_38 => ?_) (fun c_38 => ?_)
          · have dc_38 := c_le (a := x_37.toInt) (b := y_32.toInt) rfl rfl c_38
            refine lv_iload hx hb dX10_check_121 (lv_at hl 0 rfl) ?_
            refine lv_iload hx hb dX10_check_123 (lv_at hl 2 rfl) ?_
            refine lv_icmp_ge (tgt := 133) hx hb dX10_check_125 (by decide) (fun c_39 => ?_) (fun c_39 => ?_)
            · have dc_39 := c_le (a := x_23.toInt) (b := y_31.toInt) rfl rfl c_39
              refine lv_bipush (v := (-9)) hx hb dX10_check_133 (by decide) ?_
              exact W.iret (v := (-9)) hx hb hr (fun t ht hW => ⟨⟨(-9), S_33, rfl, ⟨hIS_33, YS_33, ⟨⟨by have rc : ((-9) : Int32).toInt = -9 := (by decide); unfold aSt; omega, fun _ => by have eN : y_32.toNatClampNeg = (v 43).toNatClampNeg := (show y_32.toInt.toNat = (v 43).toInt.toNat by omega); exact Or.inr ⟨fun b hb => hq3_cut_30 b (by rw [eN]; exact hb), by have rc : ((-9) : Int32).toInt = -9 := (by decide); rw [← eN, ← hq2_cut_30]; (repeat (first | rw [if_pos (by omega)] | rw [if_neg (by omega)])); (first | done | omega)⟩, Or.inr ⟨by unfold bSt; omega, by omega⟩⟩, Or.inr hq5_cut_30⟩⟩, ⟨by rw [ht]; exact hP, va_K.moved hW.alike hK, hD⟩⟩, hS.F ht⟩) hS.2.2 dX10_check_135
            · have dc_39 := c_nle (a := x_23.toInt) (b := y_31.toInt) rfl rfl c_39
              refine lv_iload hx hb dX10_check_128 (lv_at hl 0 rfl) ?_
              refine lv_goto (tgt := 135) hx hb dX10_check_130 (by decide) ?_
              exact W.iret (v := y_31) hx hb hr (fun t ht hW => ⟨⟨y_31, S_33, rfl, ⟨hIS_33, YS_33, ⟨⟨by unfold aSt; omega, fun _ => by have eN : y_32.toNatClampNeg = (v 43).toNatClampNeg := (show y_32.toInt.toNat = (v 43).toInt.toNat by omega); exact Or.inr ⟨fun b hb => hq3_cut_30 b (by rw [eN]; exact hb), by rw [← eN, ← hq2_cut_30]; (repeat (first | rw [if_pos (by omega)] | rw [if_neg (by omega)])); (first | done | omega)⟩, Or.inr ⟨by unfold bSt; omega, by omega⟩⟩, Or.inr hq5_cut_30⟩⟩, ⟨by rw [ht]; exact hP, va_K.moved hW.alike hK, hD⟩⟩, hS.F ht⟩) hS.2.2 dX10_check_135
          · have dc_38 := c_nle (a := x_37.toInt) (b := y_32.toInt) rfl rfl c_38
            refine lv_aload_n hx hb dX10_check_64 rfl (lv_at hl 5 rfl) ?_
            obtain ⟨b_40, hb_40⟩ := oInv.nn (i := 5) hIS_33 t_35 rfl
            refine va_get (D := (dC, dI)) (ci := 10) (v := .ref b_40) (C := RX10) (T := TX10) (N := 16) hx hb hts in_wsX10_check_X10 hown hK hP q_36 hq_36 rfl 5 (by decide) (hts (.fieldLink RX10 23 "ShipOffice" "agreements" "[LShipOffice$Agreement;") iw_X10_check_3) (fun _ h9 => h9) (o_rd hb_40) dX10_check_65 ?_
            have tb_40 : oty S_33 b_40 16 := oInv.rd hIS_33 t_35.2 hb_40 rfl rfl
            refine lv_iload hx hb dX10_check_68 (lv_at hl 1 rfl) ?_
            obtain ⟨q_41, hq_41⟩ := og (cq := cq) tb_40.1 (oE_16 tb_40.2)
            refine va_aldq hx hb hK hP q_41 5 hq_41 rfl (vp_in_iff.mpr (by omega)) dX10_check_70 ?_
            obtain ⟨b_42, hb_42⟩ := oInv.el (i := 6) (x := y_32) hIS_33 t_35 rfl hb_40 (by omega) (by omega)
            refine W.eq (g2 := F0 m 71 ls [.ref b_42]) (congrArg (fun z => F0 m 71 ls [va_rf z]) hb_42) ?_
            have tb_42 : oty S_33 b_42 1 := oInv.rd hIS_33 tb_40.2 hb_42 rfl rfl
            have ljb_42 : y_32.toNatClampNeg < (v 43).toNatClampNeg := ni_lt (by omega) (by omega)
            have ejb_42 : b_42 = agA S_33 o y_32.toNatClampNeg := by unfold agA; rw [oQ_e hb_40, oQ_e hb_42]
            obtain ⟨q_43, hq_43⟩ := og (cq := cq) tb_42.1 (oE_1 tb_42.2)
            obtain ⟨b_44, hb_44⟩ := oInv.nn (i := 1) hIS_33 tb_42 rfl
            refine va_get (D := (dC, dI)) (ci := 1) (v := .ref b_44) (C := RX1) (T := TX1) (N := 18) hx hb hts in_wsX10_check_X1 hown hK hP q_43 hq_43 rfl 1 (by decide) (hts (.fieldLink RX10 118 "ShipOffice$Agreement" "voyage" "LShipOffice$Voyage;") iw_X10_check_4) (fun _ h9 => h9) (o_rd hb_44) dX10_check_71 ?_
            have tb_44 : oty S_33 b_44 9 := oInv.rd hIS_33 tb_42.2 hb_44 rfl rfl
            refine lv_aload hx hb dX10_check_74 (lv_at hl 4 rfl) ?_
            have hR_46 := RC_o (W := [1014, 2107, 2108, 5001]) (oX.st (oX.st oX.rf XS_24 (by decide)) XS_33 (by decide)) gI to (by decide) hR
            have fvx_45 := RC.a hR_46 ljb_42
            rw [← ejb_42] at fvx_45
            obtain ⟨-, ⟨f1vx_45, f2vx_45, f3vx_45⟩, -⟩ := fvx_45
            have vx_45 := RC_vx hR_46 (Option.some.inj (hb_44.symm.trans f3vx_45)) (ejb_6.trans (voA_o (W := [1014, 2107, 2108, 5001]) (oX.st (oX.st oX.rf XS_24 (by decide)) XS_33 (by decide)) gI to (by decide) (by decide) _).symm) ⟨by omega, by omega⟩ ⟨by omega, by omega⟩
            refine lv_acmp_ne (rx := (some b_44)) (ry := (some b_6)) (tgt := 115) hx hb dX10_check_76 (by decide) (fun c_47 => ?_) (fun c_47 => ?_)
            · have _ := c_47
              have hv_48 := (vx_45.resolve_left (fun q => c_47 q.1)).2
              obtain ⟨x_49, ex_49⟩ : ∃ zq : Int32, y_32 + 1 = zq := ⟨_, rfl⟩
              have hx_49 : x_49.toInt = y_32.toInt + 1 := (iv_to ex_49).symm.trans (ad_i rfl (by decide) (by omega) (by omega))
              refine lv_iinc (v := x_49) (lv' := [(8, .int x_49), (7, .int y_31), (6, .int x_23), (5, .int r_19), (4, .ref b_6), (0, .ref o), (1, .int x1), (2, .int x2), (3, .int x3)]) hx hb dX10_check_115 hl (k := 1) rfl ex_49 (by decide) rfl (fun ls hl => ?_)
              clear ex_49
              refine lv_goto (tgt := 55) hx hb dX10_check_118 (by decide) ?_
              exact ih (n - 1) (by omega) y_31 x_49 S_33 _ _ ls (by omega) (by omega) (by omega) (by omega) (by omega) (ckC_n hq2_cut_30 (by omega) (by omega) (by (try dsimp only); omega)) (al_s hq3_cut_30 (ckD_n hq2_cut_30 (by (try dsimp only); omega)) (by omega) (by omega)) (by omega) hq5_cut_30 hIS_33 (oX.st oX.rf XS_33 (by decide)) hP hD hS pk_34 (lv_sub hl [1, 0, 2, 3, 4, 5, 6, 7, 8] rfl)
            · have _ := c_47
              have hv_50 := (vx_45.resolve_right (fun q => q.1 c_47)).2
              refine lv_iload hx hb dX10_check_79 (lv_at hl 0 rfl) ?_
              refine lv_iload hx hb dX10_check_81 (lv_at hl 2 rfl) ?_
              refine lv_icmp_ge (tgt := 109) hx hb dX10_check_83 (by decide) (fun c_51 => ?_) (fun c_51 => ?_)
              · have dc_51 := c_le (a := x_23.toInt) (b := y_31.toInt) rfl rfl c_51
                refine lv_iload hx hb dX10_check_109 (lv_at hl 0 rfl) ?_
                exact W.iret (v := y_31) hx hb hr (fun t ht hW => ⟨⟨y_31, S_33, rfl, ⟨hIS_33, YS_33, ⟨⟨by unfold aSt; omega, fun _ => Or.inl ⟨y_32.toNatClampNeg, ni_lt (by omega) (by omega), ckD_y hq2_cut_30 (by (try dsimp only); omega) (by (try dsimp only); omega), hq3_cut_30, hq2_cut_30⟩, Or.inr ⟨by unfold bSt; omega, by omega⟩⟩, Or.inr hq5_cut_30⟩⟩, ⟨by rw [ht]; exact hP, va_K.moved hW.alike hK, hD⟩⟩, hS.F ht⟩) hS.2.2 dX10_check_111
              · have dc_51 := c_nle (a := x_23.toInt) (b := y_31.toInt) rfl rfl c_51
                refine lv_aload_n hx hb dX10_check_86 rfl (lv_at hl 5 rfl) ?_
                obtain ⟨b_52, hb_52⟩ := oInv.nn (i := 13) hIS_33 t_35 rfl
                refine va_get (D := (dC, dI)) (ci := 10) (v := .ref b_52) (C := RX10) (T := TX10) (N := 16) hx hb hts in_wsX10_check_X10 hown hK hP q_36 hq_36 rfl 13 (by decide) (hts (.fieldLink RX10 63 "ShipOffice" "row" "[I") iw_X10_check_5) (fun _ h9 => h9) (o_rd hb_52) dX10_check_87 ?_
                have tb_52 : oty S_33 b_52 112 := oInv.rd hIS_33 t_35.2 hb_52 rfl rfl
                refine lv_iload hx hb dX10_check_90 (lv_at hl 0 rfl) ?_
                obtain ⟨q_53, hq_53⟩ := og (cq := cq) tb_52.1 (oE_a1 (n := 12) tb_52.2 (by decide))
                refine va_iald hx hb hK hP q_53 0 hq_53 rfl (vp_in_iff.mpr (by omega)) dX10_check_92 ?_
                refine lv_topi (fun x_54 ex_54 => ?_)
                have gwx_54 : x_54.toInt = (fa 61 y_31.toNatClampNeg).toInt := (iv_to ex_54).trans (congrArg Int32.toInt (rRw_el (W := [1014, 2107, 2108, 5001]) (oX.st (oX.st oX.rf XS_24 (by decide)) XS_33 (by decide)) gI to (by decide) (by decide) hRw hb_52 (show y_31.toInt.toNat < (v 62).toInt.toNat by omega)))
                refine lv_aload_n hx hb dX10_check_93 rfl (lv_at hl 5 rfl) ?_
                refine lv_aload_n hx hb dX10_check_94 rfl (lv_at hl 5 rfl) ?_
                refine va_get (D := (dC, dI)) (ci := 10) (v := .ref b_40) (C := RX10) (T := TX10) (N := 16) hx hb hts in_wsX10_check_X10 hown hK hP q_36 hq_36 rfl 5 (by decide) (hts (.fieldLink RX10 23 "ShipOffice" "agreements" "[LShipOffice$Agreement;") iw_X10_check_3) (fun _ h9 => h9) (o_rd hb_40) dX10_check_95 ?_
                refine lv_iload hx hb dX10_check_98 (lv_at hl 1 rfl) ?_
                refine va_aldq hx hb hK hP q_41 5 hq_41 rfl (vp_in_iff.mpr (by omega)) dX10_check_100 ?_
                obtain ⟨b_55, hb_55⟩ := oInv.el (i := 6) (x := y_32) hIS_33 t_35 rfl hb_40 (by omega) (by omega)
                refine W.eq (g2 := F0 m 101 ls [.ref b_55, .ref o, .int x_54]) (congrArg (fun z => F0 m 101 ls [va_rf z, .ref o, .int x_54]) hb_55) ?_
                have tb_55 : oty S_33 b_55 1 := oInv.rd hIS_33 tb_40.2 hb_55 rfl rfl
                have ljb_55 : y_32.toNatClampNeg < (v 43).toNatClampNeg := ni_lt (by omega) (by omega)
                have ejb_55 : b_55 = agA S_33 o y_32.toNatClampNeg := by unfold agA; rw [oQ_e hb_40, oQ_e hb_55]
                refine lv_iload_n hx hb dX10_check_101 rfl (lv_at hl 7 rfl) ?_
                refine lv_iload_n hx hb dX10_check_102 rfl (lv_at hl 8 rfl) ?_
                have hE_56 := RX_fr (W := [1014, 2107, 2108, 5001]) (z := v) (fz := fa) (oX.st (oX.st oX.rf XS_24 (by decide)) XS_33 (by decide)) gI to (by decide) (RC.n hR).2.2.2.1 (RC.A hR) rfl (fun _ _ => rfl) hE
                have hFc := o_free hD hS hA
                refine va_calli (va_runV (As := [.ref b_55, .int x2, .int x3]) (rest := [.int x_54]) ⟨hx, hb, hml, hown, hts⟩ (c_X10_owedOn_c l dC dI H.size cq S_33 hIS_33 o t_35 b_55 tb_55 x2 (by omega) x3 (by omega) v fa hR_46 hE_56 (by omega) y_32.toNatClampNeg ljb_55 ejb_55) (cwV 3 hts gX10_check_X10_owedOn rfl rfl rfl (by decide +kernel) ⟨(Nat.le_of_ble_eq_true rfl), (Nat.le_of_ble_eq_true rfl)⟩) (pr_V (r := (RX10, TX10, 16)) hP hK hD q_36 10 rfl hq_36) rfl rfl hl.1 rfl (lv_room (Nat.le_of_ble_eq_true rfl)) dX10_check_103 ⟨(Nat.le_of_ble_eq_true rfl), (Nat.le_of_ble_eq_true rfl)⟩) hS (fun q _ h => hFc q h) hFc (fun r_58 u t H locs ht hvm w_57 hB hz1 hk1 hS => ?_)
                obtain ⟨S_59, rfl⟩ : ∃ z, z = u := ⟨_, rfl⟩
                obtain ⟨hP1, hK1, hD1⟩ := hB
                rw [ht] at hP1
                have hP : va_P (dC, dI) vwCl (oW cq S_59) H := hP1
                have hD : va_D A (oW cq S_59) := hD1.weaken (fun _ _ _ h => hFc _ h)
                clear hP1 hK1 hD1 hk1 hz1 hvm ht hFc
                obtain ⟨hIS_59, XS_59, hx_60⟩ := w_57
                have X_61 : oX [1014, 2107, 2108, 5001] Z S_59 := oX.st YS_33 XS_59 (by decide)
                have g_62 : (oI S_59 o 0).toInt = (oI S_33 o 0).toInt := by rw [oX.i XS_59 t_35 (by decide)]
                have g_63 : (oI S_59 o 6).toInt = (oI S_33 o 6).toInt := by rw [oX.i XS_59 t_35 (by decide)]
                have g_64 : (oI S_59 o 14).toInt = (oI S_33 o 14).toInt := by rw [oX.i XS_59 t_35 (by decide)]
                have pk_65 : oP S_59 o 8 = some lw := by rw [oX.p XS_59 t_35 (by decide)]; exact pk_34
                refine lv_icmp_eq (tgt := 112) hx hb dX10_check_106 (by decide) (fun c_66 => ?_) (fun c_66 => ?_)
                · have dc_66 := c_eq (a := x_54.toInt) (b := r_58.toInt) rfl rfl c_66
                  obtain ⟨x_67, ex_67⟩ : ∃ zq : Int32, y_31 + 1 = zq := ⟨_, rfl⟩
                  have hx_67 : x_67.toInt = y_31.toInt + 1 := (iv_to ex_67).symm.trans (ad_i rfl (by decide) (by omega) (by omega))
                  refine lv_iinc (v := x_67) (lv' := [(7, .int x_67), (8, .int y_32), (6, .int x_23), (5, .int r_19), (4, .ref b_6), (0, .ref o), (1, .int x1), (2, .int x2), (3, .int x3)]) hx hb dX10_check_112 hl (k := 0) rfl ex_67 (by decide) rfl (fun ls hl => ?_)
                  clear ex_67
                  obtain ⟨x_68, ex_68⟩ : ∃ zq : Int32, y_32 + 1 = zq := ⟨_, rfl⟩
                  have hx_68 : x_68.toInt = y_32.toInt + 1 := (iv_to ex_68).symm.trans (ad_i rfl (by decide) (by omega) (by omega))
                  refine lv_iinc (v := x_68) (lv' := [(8, .int x_68), (7, .int x_67), (6, .int x_23), (5, .int r_19), (4, .ref b_6), (0, .ref o), (1, .int x1), (2, .int x2), (3, .int x3)]) hx hb dX10_check_115 hl (k := 1) rfl ex_68 (by decide) rfl (fun ls hl => ?_)
                  clear ex_68
                  refine lv_goto (tgt := 55) hx hb dX10_check_118 (by decide) ?_
                  exact ih (n - 1) (by omega) x_67 x_68 S_59 _ _ ls (by omega) (by omega) (by omega) (by omega) (by omega) (ckC_n hq2_cut_30 (by omega) (by omega) (by (try dsimp only); omega)) (al_s hq3_cut_30 (ckD_n hq2_cut_30 (by (try dsimp only); omega)) (by omega) (by omega)) (by omega) (sR_t hq5_cut_30 (sR_x (W := [1014, 2108, 5001]) (oX.st oX.rf XS_59 (by decide)) (rw15 hIS_33 t_35) t_35 (by decide))) hIS_59 (oX.st (oX.st oX.rf XS_33 (by decide)) XS_59 (by decide)) hP hD hS pk_65 (lv_sub hl [1, 0, 2, 3, 4, 5, 6, 7, 8] rfl)
                · have dc_66 := c_ne (a := x_54.toInt) (b := r_58.toInt) rfl rfl c_66
                  refine lv_iload hx hb dX10_check_109 (lv_at hl 0 rfl) ?_
                  exact W.iret (v := y_31) hx hb hr (fun t ht hW => ⟨⟨y_31, S_59, rfl, ⟨hIS_59, X_61, ⟨⟨by unfold aSt; omega, fun _ => Or.inl ⟨y_32.toNatClampNeg, ni_lt (by omega) (by omega), ckD_y hq2_cut_30 (by (try dsimp only); omega) (by (try dsimp only); omega), hq3_cut_30, hq2_cut_30⟩, Or.inr ⟨by unfold bSt; omega, by omega⟩⟩, Or.inr (sR_t hq5_cut_30 (sR_x (W := [1014, 2108, 5001]) (oX.st oX.rf XS_59 (by decide)) (rw15 hIS_33 t_35) t_35 (by decide)))⟩⟩, ⟨by rw [ht]; exact hP, va_K.moved hW.alike hK, hD⟩⟩, hS.F ht⟩) hS.2.2 dX10_check_111
      have kc_69 : (0 : Int32).toInt = 0 := by decide
      exact cut_30 61 0 0 S_24 _ _ ls (by omega) (by decide) (by decide) (by decide) (by omega) (ckC_0 (by decide) (by decide)) (al_0 (by decide)) (by have rc : (0 : Int32).toInt = 0 := (by decide); omega) (sR_x (W := [1014, 2108, 5001]) (oX.st oX.rf XS_24 (by decide)) (rw15 gI to) to (by decide)) hIS_24 oX.rf hP hD hS pk_25 (lv_sub hl [1, 0, 2, 3, 4, 5, 6, 7, 8] rfl)
    · have dc_22 := c_ne (a := r_19.toInt) (b := 0) rfl (by decide) c_22
      refine lv_aload_n hx hb dX10_check_31 rfl (lv_at hl 2 rfl) ?_
      refine lv_iload hx hb dX10_check_32 (lv_at hl 0 rfl) ?_
      have hFc := o_free hD hS hA
      refine va_calli (va_runV (As := [.int r_19]) (rest := []) ⟨hx, hb, hml, hown, hts⟩ (c_X10_refuse_c l dC dI H.size cq Z gI o to r_19 (by omega)) (cwV 1 hts gX10_check_X10_refuse rfl rfl rfl (by decide +kernel) ⟨(Nat.le_of_ble_eq_true rfl), (Nat.le_of_ble_eq_true rfl)⟩) (pr_V (r := (RX10, TX10, 16)) hP hK hD q_1 10 rfl hq_1) rfl rfl hl.1 rfl (lv_room (Nat.le_of_ble_eq_true rfl)) dX10_check_34 ⟨(Nat.le_of_ble_eq_true rfl), (Nat.le_of_ble_eq_true rfl)⟩) hS (fun q _ h => hFc q h) hFc (fun r_71 u t H locs ht hvm w_70 hB hz1 hk1 hS => ?_)
      obtain ⟨S_72, rfl⟩ : ∃ z, z = u := ⟨_, rfl⟩
      obtain ⟨hP1, hK1, hD1⟩ := hB
      rw [ht] at hP1
      have hP : va_P (dC, dI) vwCl (oW cq S_72) H := hP1
      have hD : va_D A (oW cq S_72) := hD1.weaken (fun _ _ _ h => hFc _ h)
      clear hP1 hK1 hD1 hk1 hz1 hvm ht hFc
      obtain ⟨hIS_72, XS_72, hb_73, hx_74⟩ := w_70
      have X_75 : oX [1014, 2107, 2108, 5001] Z S_72 := oX.st oX.rf XS_72 (by decide)
      have g_76 : (oI S_72 o 0).toInt = (oI Z o 0).toInt := by rw [oX.i XS_72 to (by decide)]
      have g_77 : (oI S_72 o 6).toInt = (oI Z o 6).toInt := by rw [oX.i XS_72 to (by decide)]
      have g_78 : (oI S_72 o 14).toInt = (oI Z o 14).toInt := by rw [oX.i XS_72 to (by decide)]
      have pk_79 : oP S_72 o 8 = some lw := by rw [oX.p XS_72 to (by decide)]; exact hlw0
      have rf_80 : r_71.toInt = r_19.toInt := by rw [hx_74.1]
      exact W.iret (v := r_71) hx hb hr (fun t ht hW => ⟨⟨r_71, S_72, rfl, ⟨hIS_72, X_75, ⟨⟨by have kc0 : (0 : Int32).toInt = 0 := (by decide); have kc1 : (1 : Int32).toInt = 1 := (by decide); have kc2 : (2 : Int32).toInt = 2 := (by decide); unfold aSt; omega, fun q => absurd (by unfold bSt; omega) q, by have kc0 : (0 : Int32).toInt = 0 := (by decide); have kc1 : (1 : Int32).toInt = 1 := (by decide); have kc2 : (2 : Int32).toInt = 2 := (by decide); exact Or.inl ⟨by unfold bSt; omega, by rw [hx_74.1]; exact hx_74.2⟩⟩, Or.inl (by have kc0 : (0 : Int32).toInt = 0 := (by decide); have kc1 : (1 : Int32).toInt = 1 := (by decide); have kc2 : (2 : Int32).toInt = 2 := (by decide); unfold bSt; omega)⟩⟩, ⟨by rw [ht]; exact hP, va_K.moved hW.alike hK, hD⟩⟩, hS.F ht⟩) hS.2.2 dX10_check_37
