


theorem RC_vx {S : oS} {o : Nat} {v : Nat → Int32} {fa : Nat → Nat → Int32} (h : RC S o v fa) {x y : Int32} {p q : Nat} (ep : p = voA S o x.toNatClampNeg) (eq : q = voA S o y.toNatClampNeg) (hx : 0 ≤ x.toInt ∧ x.toInt < (v 40).toInt) (hy : 0 ≤ y.toInt ∧ y.toInt < (v 40).toInt) : (some p = some q ∧ x.toInt = y.toInt) ∨ (¬ some p = some q ∧ x.toInt ≠ y.toInt) := by
  by_cases c : x.toInt = y.toInt
  · refine Or.inl ⟨?_, c⟩
    rw [ep, eq, Int32.toInt_inj.mp c]
  · refine Or.inr ⟨fun g => c ?_, c⟩
    have e := Option.some.inj g
    rw [ep, eq] at e
    have := RC.vi h (ni_lt hx.1 hx.2) (ni_lt hy.1 hy.2) e
    have e1 : x.toNatClampNeg = x.toInt.toNat := rfl
    have e2 : y.toNatClampNeg = y.toInt.toNat := rfl
    omega
theorem rRw_el {W : List Nat} {Z S : oS} {o b j : Nat} {v : Nat → Int32} {fa : Nat → Nat → Int32} (X : oX W Z S) (hI : oInv Z) (to : oty Z o 10) (k1 : 1013 ∉ W) (k2 : 2112 ∉ W) (h : rRw Z o v fa) (hb : oP S o 13 = some b) (hj : j < (v 62).toNatClampNeg) : oI S b j = fa 61 j := by
  have tr := (ro_e (p := 13) (kr := 112) hI to rfl rfl rfl).2
  have e : oQ Z o 13 = b := by
    rw [X.p (i := 13) to k1] at hb
    exact oQ_e hb
  have f : oI S (oQ Z o 13) = oI Z (oQ Z o 13) := X.f tr (fun _ => nkw (by decide) (by decide) k2)
  rw [← e, f]
  exact h.2 j hj
set_option maxHeartbeats 4000000 in
set_option maxRecDepth 100000 in
theorem c_X10_owed_c (l : Launch) (dC : Nat → ClassId) (dI : Nat → Nat → Nat) (sz : Nat) (cq : Nat → ClassId) (Z : oS) (gI : oInv Z) (o : Nat) (to : oty Z o 10) (x1 : Int32) (x2 : Int32) (x3 : Int32) (v : Nat → Int32) (fa : Nat → Nat → Int32) (hR : RC Z o v fa) (hE : RX Z o v fa) : Met l yX10_owed wsX10_owed ({ frames := 6, cells := 0, slots := 0, locals := 158 }) (va_Pc [.ref o, .int x1, .int x2, .int x3] (pcW (dC, dI) (oT cq) (oW cq Z) sz)) (va_Qi (fun (r : Int32) (u : oS) => oInv u ∧ oX [2107, 2108, 5001] Z u ∧ (aOw (v 43).toInt (v 38).toInt x1.toInt x2.toInt x3.toInt (owF v fa x1.toNatClampNeg x2 x3.toInt) r.toInt ∧ rFo Z o u r (bSt (v 43).toInt (v 38).toInt x1.toInt x2.toInt x3.toInt))) (fun u t => va_P (dC, dI) vwCl (oW cq u) t.heap ∧ va_K (dC, dI) vwCl (oT cq) t ∧ va_D (va_A (oW cq Z) sz) (oW cq u)) (va_A (oW cq Z) sz)) 0 0 (va_A (oW cq Z) sz) := by
  refine Met.ofW (cc := cX10_owed) (maxL := 6) (ret := (some .int)) (by decide) rfl ?_
  intro p e s m args below meth c s₁ B hml hv
  obtain ⟨rfl, hsz, hP, hK, hD0⟩ := hv
  have hx := B.exec
  have hb := B.bytes
  have hr := B.returns
  have hts := atoms_spec (ws := wsX10_owed) B.pre
  have hown : s.vm.findClass RX10 = some m.cls := findClass_of_methodNamed B.named
  have hlocks := B.notSynchronized
  subst hsz
  have hD := hD0.self (sz := s.heap.size)
  generalize hAe : va_A (oW cq Z) s.heap.size = A at hD ⊢
  have hA : ∀ q : Nat, s.heap.size ≤ q → A q := fun q h => by rw [← hAe]; exact Or.inr h
  have hS : va_S A s.heap s.heap [] := va_S.rf
  have hP : va_P (dC, dI) vwCl (oW cq Z) s.heap := hP
  have hl := lv_entry ([.ref o, .int x1, .int x2, .int x3]) (n := 6) (Nat.le_of_ble_eq_true rfl)
  rw [lg_entry_eq]
  generalize (lg_sl ([.ref o, .int x1, .int x2, .int x3]) ++ List.replicate (6 - (lg_sl ([.ref o, .int x1, .int x2, .int x3])).length) Slot.unset).toArray = ls at hl ⊢
  have hl : lv_has ls 6 [(0, .ref o), (1, .int x1), (2, .int x2), (3, .int x3)] := hl
  obtain ⟨fn0, fn1, fn2, fn3, fn4⟩ := RC.n hR
  have fb38 : 0 ≤ (v 38).toInt ∧ (v 38).toInt ≤ 3000 := RC.V hR 38
  have fb39 : 0 ≤ (v 39).toInt ∧ (v 39).toInt ≤ 40 := RC.V hR 39
  have fb40 : 0 ≤ (v 40).toInt ∧ (v 40).toInt ≤ 20 := RC.V hR 40
  have fb43 : 0 ≤ (v 43).toInt ∧ (v 43).toInt ≤ 60 := RC.V hR 43
  have fb41 : 0 ≤ (v 41).toInt ∧ (v 41).toInt ≤ 200 := RC.V hR 41
  obtain ⟨lw, hlw0⟩ := oInv.nn (i := 8) gI to rfl
  have tlw : oty Z lw 5 := oInv.rd gI to.2 hlw0 rfl rfl
  have hLr : rLw Z lw v fa := by have q := RC.l hR; rw [oQ_e hlw0] at q; exact q
  refine lv_aload_n hx hb dX10_owed_0 rfl (lv_at hl 0 rfl) ?_
  refine lv_iload_n hx hb dX10_owed_1 rfl (lv_at hl 1 rfl) ?_
  have hFc : ∀ q, va_A [] s.heap.size q → A q := pu_free hS hA
  obtain ⟨q_1, hq_1⟩ := og (cq := cq) to.1 (oE_10 to.2)
  refine va_callq (va_runV (As := [.int x1]) (rest := []) ⟨hx, hb, hml, hown, hts⟩ (c_X10_agreementAt_c l dC dI s.heap.size cq Z gI o to x1 v fa hR) (cwV 1 hts gX10_owed_X10_agreementAt rfl rfl rfl (by decide +kernel) ⟨(Nat.le_of_ble_eq_true rfl), (Nat.le_of_ble_eq_true rfl)⟩) (pr_V (r := (RX10, TX10, 16)) hP hK hD q_1 10 rfl hq_1) rfl rfl hl.1 rfl (lv_room (Nat.le_of_ble_eq_true rfl)) dX10_owed_2 ⟨(Nat.le_of_ble_eq_true rfl), (Nat.le_of_ble_eq_true rfl)⟩) hS (fun q _ h => hFc q h) hFc (fun r_3 u t H locs ht hvm w_2 hB hz1 hk1 hS => ?_)
  have hP := pu_keep hP hk1
  clear hk1 hz1 hvm hB ht hFc
  obtain ⟨hk_4, hx_5⟩ := w_2
  rcases r_3 with _ | b_6
  · refine W.eq (g2 := F0 m 5 ls [.null]) rfl ?_
    have hnr_3 := atF_n hx_5
    refine lv_astoreN (lv' := [(4, .null), (0, .ref o), (1, .int x1), (2, .int x2), (3, .int x3)]) hx hb dX10_owed_5 hl (by decide) rfl (fun ls hl => ?_)
    refine lv_aloadN hx hb dX10_owed_7 (lv_at hl 0 rfl) ?_
    refine lv_ifnonnullN hx hb dX10_owed_9 ?_
    refine lv_ldcw (v := 1000000000) hx hb hown (hts (.constant RX10 294 (1000000000)) (by decide +kernel)) dX10_owed_12 ?_
    refine lv_aload_n hx hb dX10_owed_15 rfl (lv_at hl 1 rfl) ?_
    refine lv_iconst (v := (-1)) hx hb dX10_owed_16 (by decide) ?_
    have hFc := o_free hD hS hA
    refine va_calli (va_runV (As := [.int (-1)]) (rest := [.int 1000000000]) ⟨hx, hb, hml, hown, hts⟩ (c_X10_refuse_c l dC dI H.size cq Z gI o to (-1) (by decide)) (cwV 1 hts gX10_owed_X10_refuse rfl rfl rfl (by decide +kernel) ⟨(Nat.le_of_ble_eq_true rfl), (Nat.le_of_ble_eq_true rfl)⟩) (pr_V (r := (RX10, TX10, 16)) hP hK hD q_1 10 rfl hq_1) rfl rfl hl.1 rfl (lv_room (Nat.le_of_ble_eq_true rfl)) dX10_owed_17 ⟨(Nat.le_of_ble_eq_true rfl), (Nat.le_of_ble_eq_true rfl)⟩) hS (fun q _ h => hFc q h) hFc (fun r_8 u t H locs ht hvm w_7 hB hz1 hk1 hS => ?_)
    obtain ⟨S_9, rfl⟩ : ∃ z, z = u := ⟨_, rfl⟩
    obtain ⟨hP1, hK1, hD1⟩ := hB
    rw [ht] at hP1
    have hP : va_P (dC, dI) vwCl (oW cq S_9) H := hP1
    have hD : va_D A (oW cq S_9) := hD1.weaken (fun _ _ _ h => hFc _ h)
    clear hP1 hK1 hD1 hk1 hz1 hvm ht hFc
    obtain ⟨hIS_9, XS_9, hb_10, hx_11⟩ := w_7
    have X_12 : oX [2107, 2108, 5001] Z S_9 := oX.st oX.rf XS_9 (by decide)
    have g_13 : (oI S_9 o 0).toInt = (oI Z o 0).toInt := by rw [oX.i XS_9 to (by decide)]
    have pk_14 : oP S_9 o 8 = some lw := by rw [oX.p XS_9 to (by decide)]; exact hlw0
    have rf_15 : r_8.toInt = -1 := by rw [hx_11.1]; decide
    refine lv_isub hx hb dX10_owed_20 ?_
    refine lv_topi (fun x_16 ex_16 => ?_)
    have hx_16 : x_16.toInt = 1000000000 - r_8.toInt := (iv_to ex_16).trans (sb_i (by decide) rfl (by omega) (by omega))
    clear ex_16
    exact W.iret (v := x_16) hx hb hr (fun t ht hW => ⟨⟨x_16, S_9, rfl, ⟨hIS_9, X_12, ⟨by have kc0 : (0 : Int32).toInt = 0 := (by decide); have kc1 : (1 : Int32).toInt = 1 := (by decide); have kc2 : (2 : Int32).toInt = 2 := (by decide); unfold aOw; omega, Or.inl ⟨by unfold bSt; omega, (-1), by have q := congrArg Int32.toInt hx_11.1; omega, hx_11.2⟩⟩⟩, ⟨by rw [ht]; exact hP, va_K.moved hW.alike hK, hD⟩⟩, hS.F ht⟩) hS.2.2 dX10_owed_21
  · refine W.eq (g2 := F0 m 5 ls [.ref b_6]) rfl ?_
    have tb_6 : oty Z b_6 1 := hk_4 b_6 rfl
    obtain ⟨hjb_6, ejb_6⟩ := atF_s hx_5
    have ljb_6 := ni_lt hjb_6.1 hjb_6.2
    have njb_6 := tn_i hjb_6.1
    have fAb_6 := RC.a hR ljb_6
    rw [← ejb_6] at fAb_6
    obtain ⟨⟨fm1b_6, fm2b_6, fm3b_6⟩, ⟨fv1b_6, fv2b_6, fv3b_6⟩, fsib_6, fppb_6, fwgb_6, frkb_6, fofb_6, fdeb_6, fchb_6⟩ := fAb_6
    have fBb_6 : 0 ≤ (fa 25 x1.toNatClampNeg).toInt ∧ (fa 25 x1.toNatClampNeg).toInt ≤ 3000 := RC.A hR 25 _
    have lamb_6 : (fa 20 x1.toNatClampNeg).toNatClampNeg < (v 39).toNatClampNeg := ni_lt fm1b_6 fm2b_6
    have namb_6 : (((fa 20 x1.toNatClampNeg).toNatClampNeg : Nat) : Int) = (fa 20 x1.toNatClampNeg).toInt := tn_i fm1b_6
    obtain ⟨amb_6, eamb_6⟩ : ∃ z, z = mnA Z o (fa 20 x1.toNatClampNeg).toNatClampNeg := ⟨_, rfl⟩
    rw [← eamb_6] at fm3b_6
    have tamb_6 : oty Z amb_6 6 := by rw [eamb_6]; exact (RC.tm hR gI to lamb_6).2
    have fMamb_6 := RC.m hR lamb_6
    rw [← eamb_6] at fMamb_6
    obtain ⟨fz0amb_6, fz1amb_6, fz2amb_6, fz3amb_6⟩ := fMamb_6
    rw [namb_6] at fz0amb_6
    have lavb_6 : (fa 21 x1.toNatClampNeg).toNatClampNeg < (v 40).toNatClampNeg := ni_lt fv1b_6 fv2b_6
    have navb_6 : (((fa 21 x1.toNatClampNeg).toNatClampNeg : Nat) : Int) = (fa 21 x1.toNatClampNeg).toInt := tn_i fv1b_6
    obtain ⟨avb_6, eavb_6⟩ : ∃ z, z = voA Z o (fa 21 x1.toNatClampNeg).toNatClampNeg := ⟨_, rfl⟩
    rw [← eavb_6] at fv3b_6
    have tavb_6 : oty Z avb_6 9 := by rw [eavb_6]; exact (RC.tv hR gI to lavb_6).2
    have fVavb_6 := RC.vo hR lavb_6
    rw [← eavb_6] at fVavb_6
    obtain ⟨fy0avb_6, fy1avb_6, fy2avb_6, fy3avb_6, fy4avb_6, fySavb_6, fyLavb_6, fyhavb_6⟩ := fVavb_6
    have fBavb_6 : 0 ≤ (fa 7 ((fa 21 x1.toNatClampNeg).toNatClampNeg)).toInt ∧ (fa 7 ((fa 21 x1.toNatClampNeg).toNatClampNeg)).toInt ≤ 3000 := RC.A hR 7 _
    have fSavb_6 := onc_i fySavb_6
    have fLavb_6 := onc_i fyLavb_6
    rw [navb_6] at fy0avb_6 fSavb_6 fLavb_6
    have fEb_6 := hE.1 x1.toNatClampNeg ljb_6
    rw [← ejb_6] at fEb_6
    obtain ⟨⟨fn1b_6, fn2b_6, fn3b_6⟩, fgb_6, ⟨fl1b_6, fl2b_6, fl3b_6⟩, ⟨ff1b_6, ff2b_6⟩, ⟨fs1b_6, fs2b_6, fs3b_6, fs4b_6, fs5b_6⟩⟩ := fEb_6
    unfold rXg at fgb_6
    have fX_17 : 0 ≤ (fa 30 x1.toNatClampNeg).toInt ∧ (fa 30 x1.toNatClampNeg).toInt ≤ 6 := RC.A hR 30 _
    have fX_18 : 0 ≤ (fa 31 x1.toNatClampNeg).toInt ∧ (fa 31 x1.toNatClampNeg).toInt ≤ 20 := RC.A hR 31 _
    refine lv_astore (lv' := [(4, .ref b_6), (0, .ref o), (1, .int x1), (2, .int x2), (3, .int x3)]) hx hb dX10_owed_5 hl (by decide) rfl (fun ls hl => ?_)
    refine lv_aload hx hb dX10_owed_7 (lv_at hl 0 rfl) ?_
    refine lv_ifnonnull (tgt := 22) hx hb dX10_owed_9 (by decide) ?_
    refine lv_aload_n hx hb dX10_owed_22 rfl (lv_at hl 1 rfl) ?_
    refine lv_iload_n hx hb dX10_owed_23 rfl (lv_at hl 3 rfl) ?_
    refine lv_iload_n hx hb dX10_owed_24 rfl (lv_at hl 4 rfl) ?_
    have hFc : ∀ q, va_A [] H.size q → A q := pu_free hS hA
    refine va_calli (va_runV (As := [.int x2, .int x3]) (rest := []) ⟨hx, hb, hml, hown, hts⟩ (c_X10_askRefusal_c l dC dI H.size cq Z gI o to x2 x3) (cwV 2 hts gX10_owed_X10_askRefusal rfl rfl rfl (by decide +kernel) ⟨(Nat.le_of_ble_eq_true rfl), (Nat.le_of_ble_eq_true rfl)⟩) (pr_V (r := (RX10, TX10, 16)) hP hK hD q_1 10 rfl hq_1) rfl rfl hl.1 rfl (lv_room (Nat.le_of_ble_eq_true rfl)) dX10_owed_25 ⟨(Nat.le_of_ble_eq_true rfl), (Nat.le_of_ble_eq_true rfl)⟩) hS (fun q _ h => hFc q h) hFc (fun r_20 u t H locs ht hvm w_19 hB hz1 hk1 hS => ?_)
    have hP := pu_keep hP hk1
    clear hk1 hz1 hvm hB ht hFc
    obtain ⟨hb_21, hx_22⟩ := w_19
    refine lv_istore (lv' := [(5, .int r_20), (4, .ref b_6), (0, .ref o), (1, .int x1), (2, .int x2), (3, .int x3)]) hx hb dX10_owed_28 hl (by decide) rfl (fun ls hl => ?_)
    refine lv_iload hx hb dX10_owed_30 (lv_at hl 0 rfl) ?_
    refine lv_if_eq (tgt := 46) hx hb dX10_owed_32 (by decide) (fun c_23 => ?_) (fun c_23 => ?_)
    · have dc_23 := c_eq (a := r_20.toInt) (b := 0) rfl (by decide) c_23
      refine lv_aload_n hx hb dX10_owed_46 rfl (lv_at hl 2 rfl) ?_
      refine lv_aload hx hb dX10_owed_47 (lv_at hl 1 rfl) ?_
      refine lv_iload_n hx hb dX10_owed_49 rfl (lv_at hl 4 rfl) ?_
      refine lv_iload_n hx hb dX10_owed_50 rfl (lv_at hl 5 rfl) ?_
      have hFc := o_free hD hS hA
      refine va_calli (va_runV (As := [.ref b_6, .int x2, .int x3]) (rest := []) ⟨hx, hb, hml, hown, hts⟩ (c_X10_owedOn_c l dC dI H.size cq Z gI o to b_6 tb_6 x2 (by omega) x3 (by omega) v fa hR hE (by omega) x1.toNatClampNeg ljb_6 ejb_6) (cwV 3 hts gX10_owed_X10_owedOn rfl rfl rfl (by decide +kernel) ⟨(Nat.le_of_ble_eq_true rfl), (Nat.le_of_ble_eq_true rfl)⟩) (pr_V (r := (RX10, TX10, 16)) hP hK hD q_1 10 rfl hq_1) rfl rfl hl.1 rfl (lv_room (Nat.le_of_ble_eq_true rfl)) dX10_owed_51 ⟨(Nat.le_of_ble_eq_true rfl), (Nat.le_of_ble_eq_true rfl)⟩) hS (fun q _ h => hFc q h) hFc (fun r_25 u t H locs ht hvm w_24 hB hz1 hk1 hS => ?_)
      obtain ⟨S_26, rfl⟩ : ∃ z, z = u := ⟨_, rfl⟩
      obtain ⟨hP1, hK1, hD1⟩ := hB
      rw [ht] at hP1
      have hP : va_P (dC, dI) vwCl (oW cq S_26) H := hP1
      have hD : va_D A (oW cq S_26) := hD1.weaken (fun _ _ _ h => hFc _ h)
      clear hP1 hK1 hD1 hk1 hz1 hvm ht hFc
      obtain ⟨hIS_26, XS_26, hx_27⟩ := w_24
      have X_28 : oX [2107, 2108, 5001] Z S_26 := oX.st oX.rf XS_26 (by decide)
      have g_29 : (oI S_26 o 0).toInt = (oI Z o 0).toInt := by rw [oX.i XS_26 to (by decide)]
      have pk_30 : oP S_26 o 8 = some lw := by rw [oX.p XS_26 to (by decide)]; exact hlw0
      have pk_31 : oP S_26 b_6 0 = some amb_6 := by rw [oX.p XS_26 tb_6 (by decide)]; exact fm3b_6
      have pk_32 : oP S_26 b_6 1 = some avb_6 := by rw [oX.p XS_26 tb_6 (by decide)]; exact fv3b_6
      exact W.iret (v := r_25) hx hb hr (fun t ht hW => ⟨⟨r_25, S_26, rfl, ⟨hIS_26, X_28, ⟨by unfold aOw; omega, Or.inr ⟨by unfold bSt; omega, (oX.st oX.rf XS_26 (by decide))⟩⟩⟩, ⟨by rw [ht]; exact hP, va_K.moved hW.alike hK, hD⟩⟩, hS.F ht⟩) hS.2.2 dX10_owed_54
    · have dc_23 := c_ne (a := r_20.toInt) (b := 0) rfl (by decide) c_23
      refine lv_ldcw (v := 1000000000) hx hb hown (hts (.constant RX10 294 (1000000000)) (by decide +kernel)) dX10_owed_35 ?_
      refine lv_aload_n hx hb dX10_owed_38 rfl (lv_at hl 2 rfl) ?_
      refine lv_iload hx hb dX10_owed_39 (lv_at hl 0 rfl) ?_
      have hFc := o_free hD hS hA
      refine va_calli (va_runV (As := [.int r_20]) (rest := [.int 1000000000]) ⟨hx, hb, hml, hown, hts⟩ (c_X10_refuse_c l dC dI H.size cq Z gI o to r_20 (by omega)) (cwV 1 hts gX10_owed_X10_refuse rfl rfl rfl (by decide +kernel) ⟨(Nat.le_of_ble_eq_true rfl), (Nat.le_of_ble_eq_true rfl)⟩) (pr_V (r := (RX10, TX10, 16)) hP hK hD q_1 10 rfl hq_1) rfl rfl hl.1 rfl (lv_room (Nat.le_of_ble_eq_true rfl)) dX10_owed_41 ⟨(Nat.le_of_ble_eq_true rfl), (Nat.le_of_ble_eq_true rfl)⟩) hS (fun q _ h => hFc q h) hFc (fun r_34 u t H locs ht hvm w_33 hB hz1 hk1 hS => ?_)
      obtain ⟨S_35, rfl⟩ : ∃ z, z = u := ⟨_, rfl⟩
      obtain ⟨hP1, hK1, hD1⟩ := hB
      rw [ht] at hP1
      have hP : va_P (dC, dI) vwCl (oW cq S_35) H := hP1
      have hD : va_D A (oW cq S_35) := hD1.weaken (fun _ _ _ h => hFc _ h)
      clear hP1 hK1 hD1 hk1 hz1 hvm ht hFc
      obtain ⟨hIS_35, XS_35, hb_36, hx_37⟩ := w_33
      have X_38 : oX [2107, 2108, 5001] Z S_35 := oX.st oX.rf XS_35 (by decide)
      have g_39 : (oI S_35 o 0).toInt = (oI Z o 0).toInt := by rw [oX.i XS_35 to (by decide)]
      have pk_40 : oP S_35 o 8 = some lw := by rw [oX.p XS_35 to (by decide)]; exact hlw0
      have pk_41 : oP S_35 b_6 0 = some amb_6 := by rw [oX.p XS_35 tb_6 (by decide)]; exact fm3b_6
      have pk_42 : oP S_35 b_6 1 = some avb_6 := by rw [oX.p XS_35 tb_6 (by decide)]; exact fv3b_6
      have rf_43 : r_34.toInt = r_20.toInt := by rw [hx_37.1]
      refine lv_isub hx hb dX10_owed_44 ?_
      refine lv_topi (fun x_44 ex_44 => ?_)
      have hx_44 : x_44.toInt = 1000000000 - r_34.toInt := (iv_to ex_44).trans (sb_i (by decide) rfl (by omega) (by omega))
      clear ex_44
      exact W.iret (v := x_44) hx hb hr (fun t ht hW => ⟨⟨x_44, S_35, rfl, ⟨hIS_35, X_38, ⟨by have kc0 : (0 : Int32).toInt = 0 := (by decide); have kc1 : (1 : Int32).toInt = 1 := (by decide); have kc2 : (2 : Int32).toInt = 2 := (by decide); unfold aOw; omega, Or.inl ⟨by unfold bSt; omega, r_20, by have q := congrArg Int32.toInt hx_37.1; omega, hx_37.2⟩⟩⟩, ⟨by rw [ht]; exact hP, va_K.moved hW.alike hK, hD⟩⟩, hS.F ht⟩) hS.2.2 dX10_owed_45
