


def rHo (Z : oS) (o : Nat) (u : oS) (r : Int32) (bad : Prop) : Prop := (bad ∧ rfO Z o u r) ∨ (¬ bad ∧ oX [2110] Z u)
set_option maxHeartbeats 4000000 in
set_option maxRecDepth 100000 in
theorem c_X10_home_c (l : Launch) (dC : Nat → ClassId) (dI : Nat → Nat → Nat) (sz : Nat) (cq : Nat → ClassId) (Z : oS) (gI : oInv Z) (o : Nat) (to : oty Z o 10) (x1 : Int32) (v : Nat → Int32) (fa : Nat → Nat → Int32) (hR : RC Z o v fa) (hSea : ∀ sea ml, oP Z o 10 = some sea → oP Z sea 0 = some ml → oI Z ml = fa 1) (hMi : ∀ i, 0 ≤ (fa 1 i).toInt ∧ (fa 1 i).toInt ≤ 9999) : Met l yX10_home wsX10_home ({ frames := 3, cells := 0, slots := 0, locals := 72 }) (va_Pc [.ref o, .int x1] (pcW (dC, dI) (oT cq) (oW cq Z) sz)) (va_Qi (fun (r : Int32) (u : oS) => oInv u ∧ oX [2107, 2110] Z u ∧ (hoA v fa x1.toInt r.toInt ∧ rHo Z o u r (hoB v fa x1.toInt))) (fun u t => va_P (dC, dI) vwCl (oW cq u) t.heap ∧ va_K (dC, dI) vwCl (oT cq) t ∧ va_D (va_A (oW cq Z) sz) (oW cq u)) (va_A (oW cq Z) sz)) 0 0 (va_A (oW cq Z) sz) := by
  refine Met.ofW (cc := cX10_home) (maxL := 6) (ret := (some .int)) (by decide) rfl ?_
  intro p e s m args below meth c s₁ B hml hv
  obtain ⟨rfl, hsz, hP, hK, hD0⟩ := hv
  have hx := B.exec
  have hb := B.bytes
  have hr := B.returns
  have hts := atoms_spec (ws := wsX10_home) B.pre
  have hown : s.vm.findClass RX10 = some m.cls := findClass_of_methodNamed B.named
  have hlocks := B.notSynchronized
  subst hsz
  have hD := hD0.self (sz := s.heap.size)
  generalize hAe : va_A (oW cq Z) s.heap.size = A at hD ⊢
  have hA : ∀ q : Nat, s.heap.size ≤ q → A q := fun q h => by rw [← hAe]; exact Or.inr h
  have hS : va_S A s.heap s.heap [] := va_S.rf
  have hP : va_P (dC, dI) vwCl (oW cq Z) s.heap := hP
  have hl := lv_entry ([.ref o, .int x1]) (n := 6) (Nat.le_of_ble_eq_true rfl)
  rw [lg_entry_eq]
  generalize (lg_sl ([.ref o, .int x1]) ++ List.replicate (6 - (lg_sl ([.ref o, .int x1])).length) Slot.unset).toArray = ls at hl ⊢
  have hl : lv_has ls 6 [(0, .ref o), (1, .int x1)] := hl
  obtain ⟨fn0, fn1, fn2, fn3, fn4⟩ := RC.n hR
  have fb38 : 0 ≤ (v 38).toInt ∧ (v 38).toInt ≤ 3000 := RC.V hR 38
  have fb39 : 0 ≤ (v 39).toInt ∧ (v 39).toInt ≤ 40 := RC.V hR 39
  have fb40 : 0 ≤ (v 40).toInt ∧ (v 40).toInt ≤ 20 := RC.V hR 40
  have fb43 : 0 ≤ (v 43).toInt ∧ (v 43).toInt ≤ 60 := RC.V hR 43
  have fb41 : 0 ≤ (v 41).toInt ∧ (v 41).toInt ≤ 200 := RC.V hR 41
  obtain ⟨lw, hlw0⟩ := oInv.nn (i := 8) gI to rfl
  have tlw : oty Z lw 5 := oInv.rd gI to.2 hlw0 rfl rfl
  have hLr : rLw Z lw v fa := by have q := RC.l hR; rw [oQ_e hlw0] at q; exact q
  refine lv_aload_n hx hb dX10_home_0 rfl (lv_at hl 0 rfl) ?_
  refine lv_iload_n hx hb dX10_home_1 rfl (lv_at hl 1 rfl) ?_
  have hFc : ∀ q, va_A [] s.heap.size q → A q := pu_free hS hA
  obtain ⟨q_1, hq_1⟩ := og (cq := cq) to.1 (oE_10 to.2)
  refine va_callq (va_runV (As := [.int x1]) (rest := []) ⟨hx, hb, hml, hown, hts⟩ (c_X10_manAt_c l dC dI s.heap.size cq Z gI o to x1 v fa hR) (cwV 1 hts gX10_home_X10_manAt rfl rfl rfl (by decide +kernel) ⟨(Nat.le_of_ble_eq_true rfl), (Nat.le_of_ble_eq_true rfl)⟩) (pr_V (r := (RX10, TX10, 16)) hP hK hD q_1 10 rfl hq_1) rfl rfl hl.1 rfl (lv_room (Nat.le_of_ble_eq_true rfl)) dX10_home_2 ⟨(Nat.le_of_ble_eq_true rfl), (Nat.le_of_ble_eq_true rfl)⟩) hS (fun q _ h => hFc q h) hFc (fun r_3 u t H locs ht hvm w_2 hB hz1 hk1 hS => ?_)
  have hP := pu_keep hP hk1
  clear hk1 hz1 hvm hB ht hFc
  obtain ⟨hk_4, hx_5⟩ := w_2
  rcases r_3 with _ | b_6
  · refine W.eq (g2 := F0 m 5 ls [.null]) rfl ?_
    have hnr_3 := atF_n hx_5
    refine lv_astore_nN (lv' := [(2, .null), (0, .ref o), (1, .int x1)]) hx hb dX10_home_5 rfl hl (by decide) rfl (fun ls hl => ?_)
    refine lv_aload_nN hx hb dX10_home_6 rfl (lv_at hl 0 rfl) ?_
    refine lv_ifnonnullN hx hb dX10_home_7 ?_
    refine lv_aload_n hx hb dX10_home_10 rfl (lv_at hl 1 rfl) ?_
    refine lv_iconst (v := (-1)) hx hb dX10_home_11 (by decide) ?_
    have hFc := o_free hD hS hA
    refine va_calli (va_runV (As := [.int (-1)]) (rest := []) ⟨hx, hb, hml, hown, hts⟩ (c_X10_refuse_c l dC dI H.size cq Z gI o to (-1) (by decide)) (cwV 1 hts gX10_home_X10_refuse rfl rfl rfl (by decide +kernel) ⟨(Nat.le_of_ble_eq_true rfl), (Nat.le_of_ble_eq_true rfl)⟩) (pr_V (r := (RX10, TX10, 16)) hP hK hD q_1 10 rfl hq_1) rfl rfl hl.1 rfl (lv_room (Nat.le_of_ble_eq_true rfl)) dX10_home_12 ⟨(Nat.le_of_ble_eq_true rfl), (Nat.le_of_ble_eq_true rfl)⟩) hS (fun q _ h => hFc q h) hFc (fun r_8 u t H locs ht hvm w_7 hB hz1 hk1 hS => ?_)
    obtain ⟨S_9, rfl⟩ : ∃ z, z = u := ⟨_, rfl⟩
    obtain ⟨hP1, hK1, hD1⟩ := hB
    rw [ht] at hP1
    have hP : va_P (dC, dI) vwCl (oW cq S_9) H := hP1
    have hD : va_D A (oW cq S_9) := hD1.weaken (fun _ _ _ h => hFc _ h)
    clear hP1 hK1 hD1 hk1 hz1 hvm ht hFc
    obtain ⟨hIS_9, XS_9, hb_10, hx_11⟩ := w_7
    have X_12 : oX [2107, 2110] Z S_9 := oX.st oX.rf XS_9 (by decide)
    have g_13 : (oI S_9 o 0).toInt = (oI Z o 0).toInt := by rw [oX.i XS_9 to (by decide)]
    have g_14 : (oI S_9 o 6).toInt = (oI Z o 6).toInt := by rw [oX.i XS_9 to (by decide)]
    have pk_15 : oP S_9 o 8 = some lw := by rw [oX.p XS_9 to (by decide)]; exact hlw0
    have rf_16 : r_8.toInt = -1 := by rw [hx_11.1]; decide
    exact W.iret (v := r_8) hx hb hr (fun t ht hW => ⟨⟨r_8, S_9, rfl, ⟨hIS_9, X_12, ⟨Or.inl ⟨by omega, by omega⟩, Or.inl ⟨Or.inl (by omega), by rw [hx_11.1]; exact hx_11.2⟩⟩⟩, ⟨by rw [ht]; exact hP, va_K.moved hW.alike hK, hD⟩⟩, hS.F ht⟩) hS.2.2 dX10_home_15
  · refine W.eq (g2 := F0 m 5 ls [.ref b_6]) rfl ?_
    have tb_6 : oty Z b_6 6 := hk_4 b_6 rfl
    obtain ⟨hjb_6, ejb_6⟩ := atF_s hx_5
    have ljb_6 := ni_lt hjb_6.1 hjb_6.2
    have njb_6 := tn_i hjb_6.1
    have fMb_6 := RC.m hR ljb_6
    rw [← ejb_6] at fMb_6
    obtain ⟨fz0b_6, fz1b_6, fz2b_6, fz3b_6⟩ := fMb_6
    rw [njb_6] at fz0b_6
    refine lv_astore_n (lv' := [(2, .ref b_6), (0, .ref o), (1, .int x1)]) hx hb dX10_home_5 rfl hl (by decide) rfl (fun ls hl => ?_)
    refine lv_aload_n hx hb dX10_home_6 rfl (lv_at hl 0 rfl) ?_
    refine lv_ifnonnull (tgt := 16) hx hb dX10_home_7 (by decide) ?_
    refine lv_iconst (v := 0) hx hb dX10_home_16 (by decide) ?_
    refine lv_istore_n (lv' := [(3, .int 0), (2, .ref b_6), (0, .ref o), (1, .int x1)]) hx hb dX10_home_17 rfl hl (by decide) rfl (fun ls hl => ?_)
    have cut_17 : ∀ (n : Nat) (y_18 : Int32) (S_19 : oS) (H : Heap) (locs : List Loc) (ls : Array Slot), 60 - y_18.toInt ≤ (n : Int) → (0 ≤ y_18.toInt ∧ y_18.toInt ≤ 60) → (∀ b, b < y_18.toNatClampNeg → ¬ hmD v fa x1.toInt b) → y_18.toInt ≤ (v 43).toInt → Z = S_19 → oInv S_19 → oX [2107, 2110] Z S_19 → va_P (dC, dI) vwCl (oW cq S_19) H → va_D A (oW cq S_19) → va_S A s.heap H locs → oP S_19 o 8 = some lw → lv_has ls 6 [(3, .int y_18), (2, .ref b_6), (0, .ref o), (1, .int x1)] → W p l e (headSpec wsX10_home { frames := 3, cells := 0, slots := 0, locals := 72 }).room s m #[Value.ref o, Value.int x1] below meth c H locs 0 0 (MQ below (va_Qi (fun (r : Int32) (u : oS) => oInv u ∧ oX [2107, 2110] Z u ∧ (hoA v fa x1.toInt r.toInt ∧ rHo Z o u r (hoB v fa x1.toInt))) (fun u t => va_P (dC, dI) vwCl (oW cq u) t.heap ∧ va_K (dC, dI) vwCl (oT cq) t ∧ va_D A (oW cq u)) A) #[Value.ref o, Value.int x1] s 0 0 A) (F0 m 18 ls []) := by
      intro n
      induction n using Nat.strongRecOn with
      | ind n ih =>
        intro y_18 S_19 H locs ls hm hy_18 hq0_cut_17 hq1_cut_17 hq2_cut_17 hIS_19 XS_19 hP hD hS pk_20 hl
        have YS_19 : oX [2107, 2110] Z S_19 := oX.st oX.rf XS_19 (fun _ q => q)
        obtain rfl := hq2_cut_17
        have ntA : ((y_18.toNatClampNeg : Nat) : Int) = y_18.toInt := tn_i (by omega)
        refine lv_iload_n hx hb dX10_home_18 rfl (lv_at hl 0 rfl) ?_
        refine lv_aload_n hx hb dX10_home_19 rfl (lv_at hl 2 rfl) ?_
        obtain ⟨q_21, hq_21⟩ := og (cq := cq) to.1 (oE_10 to.2)
        refine va_get (D := (dC, dI)) (ci := 10) (v := .int (oI Z o 6)) (C := RX10) (T := TX10) (N := 16) hx hb hts in_wsX10_home_X10 hown hK hP q_21 hq_21 rfl 6 (by decide) (hts (.fieldLink RX10 115 "ShipOffice" "agreementCount" "I") iw_X10_home_1) (fun _ h9 => h9) rfl dX10_home_20 ?_
        refine lv_topi (fun x_22 ex_22 => ?_)
        have hx_22 : 0 ≤ x_22.toInt ∧ x_22.toInt ≤ 60 := iv_of ex_22 (oInv.iv hIS_19 to.2 rfl rfl)
        have gx_22 : x_22.toInt = (oI Z o 6).toInt := iv_to ex_22
        clear ex_22
        refine lv_icmp_ge (tgt := 107) hx hb dX10_home_23 (by decide) (fun c_23 => ?_) (fun c_23 => ?_)
        · have dc_23 := c_le (a := x_22.toInt) (b := y_18.toInt) rfl rfl c_23
          refine lv_aload_n hx hb dX10_home_107 rfl (lv_at hl 2 rfl) ?_
          refine lv_bipush (v := (-3)) hx hb dX10_home_108 (by decide) ?_
          have hFc := o_free hD hS hA
          refine va_calli (va_runV (As := [.int (-3)]) (rest := []) ⟨hx, hb, hml, hown, hts⟩ (c_X10_refuse_c l dC dI H.size cq Z hIS_19 o to (-3) (by decide)) (cwV 1 hts gX10_home_X10_refuse rfl rfl rfl (by decide +kernel) ⟨(Nat.le_of_ble_eq_true rfl), (Nat.le_of_ble_eq_true rfl)⟩) (pr_V (r := (RX10, TX10, 16)) hP hK hD q_21 10 rfl hq_21) rfl rfl hl.1 rfl (lv_room (Nat.le_of_ble_eq_true rfl)) dX10_home_110 ⟨(Nat.le_of_ble_eq_true rfl), (Nat.le_of_ble_eq_true rfl)⟩) hS (fun q _ h => hFc q h) hFc (fun r_25 u t H locs ht hvm w_24 hB hz1 hk1 hS => ?_)
          obtain ⟨S_26, rfl⟩ : ∃ z, z = u := ⟨_, rfl⟩
          obtain ⟨hP1, hK1, hD1⟩ := hB
          rw [ht] at hP1
          have hP : va_P (dC, dI) vwCl (oW cq S_26) H := hP1
          have hD : va_D A (oW cq S_26) := hD1.weaken (fun _ _ _ h => hFc _ h)
          clear hP1 hK1 hD1 hk1 hz1 hvm ht hFc
          obtain ⟨hIS_26, XS_26, hb_27, hx_28⟩ := w_24
          have X_29 : oX [2107, 2110] Z S_26 := oX.st YS_19 XS_26 (by decide)
          have g_30 : (oI S_26 o 0).toInt = (oI Z o 0).toInt := by rw [oX.i XS_26 to (by decide)]
          have g_31 : (oI S_26 o 6).toInt = (oI Z o 6).toInt := by rw [oX.i XS_26 to (by decide)]
          have pk_32 : oP S_26 o 8 = some lw := by rw [oX.p XS_26 to (by decide)]; exact pk_20
          have rf_33 : r_25.toInt = -3 := by rw [hx_28.1]; decide
          exact W.iret (v := r_25) hx hb hr (fun t ht hW => ⟨⟨r_25, S_26, rfl, ⟨hIS_26, X_29, (by have eN : y_18.toNatClampNeg = (v 43).toNatClampNeg := (show y_18.toInt.toNat = (v 43).toInt.toNat by omega); have hn9 : ∀ b, b < (v 43).toNatClampNeg → ¬ hmD v fa x1.toInt b := (by rw [← eN]; exact hq0_cut_17); exact ⟨Or.inr ⟨by omega, Or.inr ⟨hn9, by omega⟩⟩, Or.inl ⟨Or.inr hn9, by rw [hx_28.1]; exact hx_28.2⟩⟩)⟩, ⟨by rw [ht]; exact hP, va_K.moved hW.alike hK, hD⟩⟩, hS.F ht⟩) hS.2.2 dX10_home_113
        · have dc_23 := c_nle (a := x_22.toInt) (b := y_18.toInt) rfl rfl c_23
          refine lv_aload_n hx hb dX10_home_26 rfl (lv_at hl 2 rfl) ?_
          obtain ⟨b_34, hb_34⟩ := oInv.nn (i := 5) hIS_19 to rfl
          refine va_get (D := (dC, dI)) (ci := 10) (v := .ref b_34) (C := RX10) (T := TX10) (N := 16) hx hb hts in_wsX10_home_X10 hown hK hP q_21 hq_21 rfl 5 (by decide) (hts (.fieldLink RX10 23 "ShipOffice" "agreements" "[LShipOffice$Agreement;") iw_X10_home_2) (fun _ h9 => h9) (o_rd hb_34) dX10_home_27 ?_
          have tb_34 : oty Z b_34 16 := oInv.rd hIS_19 to.2 hb_34 rfl rfl
          refine lv_iload_n hx hb dX10_home_30 rfl (lv_at hl 0 rfl) ?_
          obtain ⟨q_35, hq_35⟩ := og (cq := cq) tb_34.1 (oE_16 tb_34.2)
          refine va_aldq hx hb hK hP q_35 5 hq_35 rfl (vp_in_iff.mpr (by omega)) dX10_home_31 ?_
          obtain ⟨b_36, hb_36⟩ := oInv.el (i := 6) (x := y_18) hIS_19 to rfl hb_34 (by omega) (by omega)
          refine W.eq (g2 := F0 m 32 ls [.ref b_36]) (congrArg (fun z => F0 m 32 ls [va_rf z]) hb_36) ?_
          have tb_36 : oty Z b_36 1 := oInv.rd hIS_19 tb_34.2 hb_36 rfl rfl
          have ejb_36 : b_36 = agA Z o y_18.toNatClampNeg := by unfold agA; rw [oQ_e hb_34, oQ_e hb_36]
          have ljb_36 : y_18.toNatClampNeg < (v 43).toNatClampNeg := ni_lt (by omega) (by omega)
          have njb_36 : ((y_18.toNatClampNeg : Nat) : Int) = y_18.toInt := tn_i (by omega)
          have fAb_36 := RC.a hR ljb_36
          rw [← ejb_36] at fAb_36
          obtain ⟨⟨fm1b_36, fm2b_36, fm3b_36⟩, ⟨fv1b_36, fv2b_36, fv3b_36⟩, fsib_36, fppb_36, fwgb_36, frkb_36, fofb_36, fdeb_36, fchb_36⟩ := fAb_36
          have fBb_36 : 0 ≤ (fa 25 y_18.toNatClampNeg).toInt ∧ (fa 25 y_18.toNatClampNeg).toInt ≤ 3000 := RC.A hR 25 _
          have lamb_36 : (fa 20 y_18.toNatClampNeg).toNatClampNeg < (v 39).toNatClampNeg := ni_lt fm1b_36 fm2b_36
          have namb_36 : (((fa 20 y_18.toNatClampNeg).toNatClampNeg : Nat) : Int) = (fa 20 y_18.toNatClampNeg).toInt := tn_i fm1b_36
          obtain ⟨amb_36, eamb_36⟩ : ∃ z, z = mnA Z o (fa 20 y_18.toNatClampNeg).toNatClampNeg := ⟨_, rfl⟩
          rw [← eamb_36] at fm3b_36
          have tamb_36 : oty Z amb_36 6 := by rw [eamb_36]; exact (RC.tm hR gI to lamb_36).2
          have fMamb_36 := RC.m hR lamb_36
          rw [← eamb_36] at fMamb_36
          obtain ⟨fz0amb_36, fz1amb_36, fz2amb_36, fz3amb_36⟩ := fMamb_36
          rw [namb_36] at fz0amb_36
          have lavb_36 : (fa 21 y_18.toNatClampNeg).toNatClampNeg < (v 40).toNatClampNeg := ni_lt fv1b_36 fv2b_36
          have navb_36 : (((fa 21 y_18.toNatClampNeg).toNatClampNeg : Nat) : Int) = (fa 21 y_18.toNatClampNeg).toInt := tn_i fv1b_36
          obtain ⟨avb_36, eavb_36⟩ : ∃ z, z = voA Z o (fa 21 y_18.toNatClampNeg).toNatClampNeg := ⟨_, rfl⟩
          rw [← eavb_36] at fv3b_36
          have tavb_36 : oty Z avb_36 9 := by rw [eavb_36]; exact (RC.tv hR gI to lavb_36).2
          have fVavb_36 := RC.vo hR lavb_36
          rw [← eavb_36] at fVavb_36
          obtain ⟨fy0avb_36, fy1avb_36, fy2avb_36, fy3avb_36, fy4avb_36, fySavb_36, fyLavb_36, fyhavb_36⟩ := fVavb_36
          have fBavb_36 : 0 ≤ (fa 7 ((fa 21 y_18.toNatClampNeg).toNatClampNeg)).toInt ∧ (fa 7 ((fa 21 y_18.toNatClampNeg).toNatClampNeg)).toInt ≤ 3000 := RC.A hR 7 _
          have fSavb_36 := onc_i fySavb_36
          have fLavb_36 := onc_i fyLavb_36
          rw [navb_36] at fy0avb_36 fSavb_36 fLavb_36
          refine lv_astore (lv' := [(4, .ref b_36), (3, .int y_18), (2, .ref b_6), (0, .ref o), (1, .int x1)]) hx hb dX10_home_32 hl (by decide) rfl (fun ls hl => ?_)
          refine lv_aload hx hb dX10_home_34 (lv_at hl 0 rfl) ?_
          obtain ⟨q_37, hq_37⟩ := og (cq := cq) tb_36.1 (oE_1 tb_36.2)
          refine va_get (D := (dC, dI)) (ci := 1) (v := .ref amb_36) (C := RX1) (T := TX1) (N := 18) hx hb hts in_wsX10_home_X1 hown hK hP q_37 hq_37 rfl 0 (by decide) (hts (.fieldLink RX10 299 "ShipOffice$Agreement" "man" "LShipOffice$Man;") iw_X10_home_3) (fun _ h9 => h9) (o_rd fm3b_36) dX10_home_36 ?_
          refine lv_aload_n hx hb dX10_home_39 rfl (lv_at hl 2 rfl) ?_
          refine lv_acmp_ne (rx := (some amb_36)) (ry := (some b_6)) (tgt := 63) hx hb dX10_home_40 (by decide) (fun c_38 => ?_) (fun c_38 => ?_)
          · have _ := c_38
            have ac_39 : ¬ (fa 20 y_18.toNatClampNeg).toNatClampNeg = x1.toNatClampNeg := fun q => c_38 (congrArg some (eamb_36.trans ((congrArg (mnA Z o) q).trans ejb_6.symm)))
            refine lv_null hx hb dX10_home_63 ?_
            refine lv_astoreN (lv' := [(5, .null), (4, .ref b_36), (3, .int y_18), (2, .ref b_6), (0, .ref o), (1, .int x1)]) hx hb dX10_home_64 hl (by decide) rfl (fun ls hl => ?_)
            refine lv_aloadN hx hb dX10_home_66 (lv_at hl 0 rfl) ?_
            refine lv_ifnullN (tgt := 101) hx hb dX10_home_68 (by decide) ?_
            obtain ⟨x_40, ex_40⟩ : ∃ zq : Int32, y_18 + 1 = zq := ⟨_, rfl⟩
            have hx_40 : x_40.toInt = y_18.toInt + 1 := (iv_to ex_40).symm.trans (ad_i rfl (by decide) (by omega) (by omega))
            refine lv_iinc (v := x_40) (lv' := [(3, .int x_40), (5, .null), (4, .ref b_36), (2, .ref b_6), (0, .ref o), (1, .int x1)]) hx hb dX10_home_101 hl (k := 2) rfl ex_40 (by decide) rfl (fun ls hl => ?_)
            clear ex_40
            refine lv_goto (tgt := 18) hx hb dX10_home_104 (by decide) ?_
            exact ih (n - 1) (by omega) x_40 Z _ _ ls (by omega) (by omega) (al_s hq0_cut_17 (fun q => by unfold hmD at q; omega) (by omega) (by omega)) (by omega) rfl hIS_19 (oX.st oX.rf XS_19 (by decide)) hP hD hS pk_20 (lv_sub hl [0, 3, 4, 5] rfl)
          · have _ := c_38
            have ac_41 : (fa 20 y_18.toNatClampNeg).toNatClampNeg = x1.toNatClampNeg := RC.mi hR lamb_36 ljb_6 (eamb_36.symm.trans ((Option.some.inj c_38).trans ejb_6))
            refine lv_aload hx hb dX10_home_43 (lv_at hl 0 rfl) ?_
            refine lv_aload_n hx hb dX10_home_45 rfl (lv_at hl 3 rfl) ?_
            refine va_get (D := (dC, dI)) (ci := 10) (v := .int (oI Z o 0)) (C := RX10) (T := TX10) (N := 16) hx hb hts in_wsX10_home_X10 hown hK hP q_21 hq_21 rfl 0 (by decide) (hts (.fieldLink RX10 73 "ShipOffice" "now" "I") iw_X10_home_4) (fun _ h9 => h9) rfl dX10_home_46 ?_
            refine lv_topi (fun x_42 ex_42 => ?_)
            have hx_42 : 0 ≤ x_42.toInt ∧ x_42.toInt ≤ 3000 := iv_of ex_42 (oInv.iv hIS_19 to.2 rfl rfl)
            have gx_42 : x_42.toInt = (oI Z o 0).toInt := iv_to ex_42
            clear ex_42
            refine lv_aload_n hx hb dX10_home_49 rfl (lv_at hl 3 rfl) ?_
            refine va_get (D := (dC, dI)) (ci := 10) (v := .int (oI Z o 0)) (C := RX10) (T := TX10) (N := 16) hx hb hts in_wsX10_home_X10 hown hK hP q_21 hq_21 rfl 0 (by decide) (hts (.fieldLink RX10 73 "ShipOffice" "now" "I") iw_X10_home_4) (fun _ h9 => h9) rfl dX10_home_50 ?_
            refine lv_topi (fun x_43 ex_43 => ?_)
            have hx_43 : 0 ≤ x_43.toInt ∧ x_43.toInt ≤ 3000 := iv_of ex_43 (oInv.iv hIS_19 to.2 rfl rfl)
            have gx_43 : x_43.toInt = (oI Z o 0).toInt := iv_to ex_43
            clear ex_43
            refine lv_aload_n hx hb dX10_home_53 rfl (lv_at hl 3 rfl) ?_
            refine va_get (D := (dC, dI)) (ci := 10) (v := .ref lw) (C := RX10) (T := TX10) (N := 16) hx hb hts in_wsX10_home_X10 hown hK hP q_21 hq_21 rfl 8 (by decide) (hts (.fieldLink RX10 30 "ShipOffice" "law" "LShipOffice$Law;") iw_X10_home_5) (fun _ h9 => h9) (o_rd pk_20) dX10_home_54 ?_
            have hFc : ∀ q, va_A [] H.size q → A q := pu_free hS hA
            refine va_callq (va_runV (As := [.int x_42, .int x_43, .ref lw]) (rest := []) ⟨hx, hb, hml, hown, hts⟩ (c_X1_leavingOn_c l dC dI H.size cq Z hIS_19 b_36 tb_36 x_42 (by omega) x_43 (by omega) lw tlw o to v fa hR y_18.toNatClampNeg ljb_36 ejb_36 hLr (by omega)) (cwV 3 hts gX10_home_X1_leavingOn rfl rfl rfl (by decide +kernel) ⟨(Nat.le_of_ble_eq_true rfl), (Nat.le_of_ble_eq_true rfl)⟩) (pr_V (r := (RX1, TX1, 18)) hP hK hD q_37 1 rfl hq_37) rfl rfl hl.1 rfl (lv_room (Nat.le_of_ble_eq_true rfl)) dX10_home_57 ⟨(Nat.le_of_ble_eq_true rfl), (Nat.le_of_ble_eq_true rfl)⟩) hS (fun q _ h => hFc q h) hFc (fun r_45 u t H locs ht hvm w_44 hB hz1 hk1 hS => ?_)
            have hP := pu_keep hP hk1
            clear hk1 hz1 hvm hB ht hFc
            obtain ⟨hk_46, hx_47⟩ := w_44
            rcases r_45 with _ | b_48
            · refine W.eq (g2 := F0 m 60 ls [.null]) rfl ?_
              have hlv9 := lvR_n hx_47
              rw [show (x_42 : Int32).toInt = (v 38).toInt from (by omega)] at hlv9
              rw [show (x_43 : Int32).toInt = (v 38).toInt from (by omega)] at hlv9
              refine lv_goto (tgt := 64) hx hb dX10_home_60 (by decide) ?_
              refine lv_astoreN (lv' := [(5, .null), (4, .ref b_36), (3, .int y_18), (2, .ref b_6), (0, .ref o), (1, .int x1)]) hx hb dX10_home_64 hl (by decide) rfl (fun ls hl => ?_)
              refine lv_aloadN hx hb dX10_home_66 (lv_at hl 0 rfl) ?_
              refine lv_ifnullN (tgt := 101) hx hb dX10_home_68 (by decide) ?_
              obtain ⟨x_49, ex_49⟩ : ∃ zq : Int32, y_18 + 1 = zq := ⟨_, rfl⟩
              have hx_49 : x_49.toInt = y_18.toInt + 1 := (iv_to ex_49).symm.trans (ad_i rfl (by decide) (by omega) (by omega))
              refine lv_iinc (v := x_49) (lv' := [(3, .int x_49), (5, .null), (4, .ref b_36), (2, .ref b_6), (0, .ref o), (1, .int x1)]) hx hb dX10_home_101 hl (k := 2) rfl ex_49 (by decide) rfl (fun ls hl => ?_)
              clear ex_49
              refine lv_goto (tgt := 18) hx hb dX10_home_104 (by decide) ?_
              exact ih (n - 1) (by omega) x_49 Z _ _ ls (by omega) (by omega) (al_s hq0_cut_17 (fun q => by unfold hmD at q; omega) (by omega) (by omega)) (by omega) rfl hIS_19 (oX.st oX.rf XS_19 (by decide)) hP hD hS pk_20 (lv_sub hl [0, 3, 4, 5] rfl)
            · refine W.eq (g2 := F0 m 60 ls [.ref b_48]) rfl ?_
              have tb_48 : oty Z b_48 3 := hk_46 b_48 rfl
              have hlq9 := lvR_s hx_47
              rw [show (x_42 : Int32).toInt = (v 38).toInt from (by omega)] at hlq9
              rw [show (x_43 : Int32).toInt = (v 38).toInt from (by omega)] at hlq9
              obtain ⟨hl39, hlw9, hlp9⟩ := hlq9
              refine lv_goto (tgt := 64) hx hb dX10_home_60 (by decide) ?_
              refine lv_astore (lv' := [(5, .ref b_48), (4, .ref b_36), (3, .int y_18), (2, .ref b_6), (0, .ref o), (1, .int x1)]) hx hb dX10_home_64 hl (by decide) rfl (fun ls hl => ?_)
              refine lv_aload hx hb dX10_home_66 (lv_at hl 0 rfl) ?_
              refine lv_ifnull hx hb dX10_home_68 ?_
              refine lv_aload hx hb dX10_home_71 (lv_at hl 0 rfl) ?_
              obtain ⟨q_50, hq_50⟩ := og (cq := cq) tb_48.1 (oE_3 tb_48.2)
              refine va_get (D := (dC, dI)) (ci := 3) (v := .int (oI Z b_48 3)) (C := RX3) (T := TX3) (N := 6) hx hb hts in_wsX10_home_X3 hown hK hP q_50 hq_50 rfl 3 (by decide) (hts (.fieldLink RX10 326 "ShipOffice$Happening" "way" "I") iw_X10_home_6) (fun _ h9 => h9) rfl dX10_home_73 ?_
              refine lv_topi (fun x_51 ex_51 => ?_)
              have gx_51 : x_51.toInt = (oI Z b_48 3).toInt := iv_to ex_51
              clear ex_51
              refine lv_iconst (v := 1) hx hb dX10_home_76 (by decide) ?_
              refine lv_icmp_ne (tgt := 101) hx hb dX10_home_77 (by decide) (fun c_52 => ?_) (fun c_52 => ?_)
              · have dc_52 := c_ne (a := x_51.toInt) (b := 1) rfl (by decide) c_52
                obtain ⟨x_53, ex_53⟩ : ∃ zq : Int32, y_18 + 1 = zq := ⟨_, rfl⟩
                have hx_53 : x_53.toInt = y_18.toInt + 1 := (iv_to ex_53).symm.trans (ad_i rfl (by decide) (by omega) (by omega))
                refine lv_iinc (v := x_53) (lv' := [(3, .int x_53), (5, .ref b_48), (4, .ref b_36), (2, .ref b_6), (0, .ref o), (1, .int x1)]) hx hb dX10_home_101 hl (k := 2) rfl ex_53 (by decide) rfl (fun ls hl => ?_)
                clear ex_53
                refine lv_goto (tgt := 18) hx hb dX10_home_104 (by decide) ?_
                exact ih (n - 1) (by omega) x_53 Z _ _ ls (by omega) (by omega) (al_s hq0_cut_17 (fun q => by unfold hmD at q; omega) (by omega) (by omega)) (by omega) rfl hIS_19 (oX.st oX.rf XS_19 (by decide)) hP hD hS pk_20 (lv_sub hl [0, 3, 4, 5] rfl)
              · have dc_52 := c_eq (a := x_51.toInt) (b := 1) rfl (by decide) c_52
                refine lv_aload_n hx hb dX10_home_80 rfl (lv_at hl 4 rfl) ?_
                obtain ⟨b_54, hb_54⟩ := oInv.nn (i := 10) hIS_19 to rfl
                refine va_get (D := (dC, dI)) (ci := 10) (v := .ref b_54) (C := RX10) (T := TX10) (N := 16) hx hb hts in_wsX10_home_X10 hown hK hP q_21 hq_21 rfl 10 (by decide) (hts (.fieldLink RX10 44 "ShipOffice" "sea" "LShipOffice$Sea;") iw_X10_home_7) (fun _ h9 => h9) (o_rd hb_54) dX10_home_81 ?_
                have tb_54 : oty Z b_54 7 := oInv.rd hIS_19 to.2 hb_54 rfl rfl
                refine lv_aload hx hb dX10_home_84 (lv_at hl 0 rfl) ?_
                refine va_get (D := (dC, dI)) (ci := 3) (v := .int (oI Z b_48 4)) (C := RX3) (T := TX3) (N := 6) hx hb hts in_wsX10_home_X3 hown hK hP q_50 hq_50 rfl 4 (by decide) (hts (.fieldLink RX10 329 "ShipOffice$Happening" "port" "I") iw_X10_home_8) (fun _ h9 => h9) rfl dX10_home_86 ?_
                refine lv_topi (fun x_55 ex_55 => ?_)
                have gx_55 : x_55.toInt = (oI Z b_48 4).toInt := iv_to ex_55
                have w_56 := hIS_19.2.2.2.2.2.2 b_48 tb_48.2
                clear ex_55
                refine lv_aload hx hb dX10_home_89 (lv_at hl 1 rfl) ?_
                refine va_get (D := (dC, dI)) (ci := 1) (v := .ref avb_36) (C := RX1) (T := TX1) (N := 18) hx hb hts in_wsX10_home_X1 hown hK hP q_37 hq_37 rfl 1 (by decide) (hts (.fieldLink RX10 118 "ShipOffice$Agreement" "voyage" "LShipOffice$Voyage;") iw_X10_home_9) (fun _ h9 => h9) (o_rd fv3b_36) dX10_home_91 ?_
                obtain ⟨q_57, hq_57⟩ := og (cq := cq) tavb_36.1 (oE_9 tavb_36.2)
                refine va_get (D := (dC, dI)) (ci := 9) (v := .int (oI Z avb_36 2)) (C := RX9) (T := TX9) (N := 10) hx hb hts in_wsX10_home_X9 hown hK hP q_57 hq_57 rfl 2 (by decide) (hts (.fieldLink RX10 332 "ShipOffice$Voyage" "port" "I") iw_X10_home_10) (fun _ h9 => h9) rfl dX10_home_94 ?_
                refine lv_topi (fun x_58 ex_58 => ?_)
                have hx_58 : 0 ≤ x_58.toInt ∧ x_58.toInt ≤ 9 := iv_of ex_58 (oInv.iv hIS_19 tavb_36.2 rfl rfl)
                have gx_58 : x_58.toInt = (oI Z avb_36 2).toInt := iv_to ex_58
                clear ex_58
                obtain ⟨mr9, hmr9⟩ := oInv.nn (i := 0) gI tb_54 rfl
                obtain ⟨lr9, hlr9⟩ := oInv.nn (i := 1) gI tb_54 rfl
                have hFc := o_free hD hS hA
                obtain ⟨q_59, hq_59⟩ := og (cq := cq) tb_54.1 (oE_7 tb_54.2)
                refine va_calli (va_runV (As := [.int x_55, .int x_58]) (rest := []) ⟨hx, hb, hml, hown, hts⟩ (c_X7_way_c l dC dI H.size cq Z hIS_19 b_54 tb_54 x_55 (by omega) x_58 (by omega) mr9 lr9 hmr9 hlr9 (miF fa) (fun a b _ _ => by unfold miF; rw [hSea _ _ hb_54 hmr9]) (fun a b => hMi _)) (cwV 2 hts gX10_home_X7_way rfl rfl rfl (by decide +kernel) ⟨(Nat.le_of_ble_eq_true rfl), (Nat.le_of_ble_eq_true rfl)⟩) (pr_V (r := (RX7, TX7, 2)) hP hK hD q_59 7 rfl hq_59) rfl rfl hl.1 rfl (lv_room (Nat.le_of_ble_eq_true rfl)) dX10_home_97 ⟨(Nat.le_of_ble_eq_true rfl), (Nat.le_of_ble_eq_true rfl)⟩) hS (fun q _ h => hFc q h) hFc (fun r_61 u t H locs ht hvm w_60 hB hz1 hk1 hS => ?_)
                obtain ⟨S_62, rfl⟩ : ∃ z, z = u := ⟨_, rfl⟩
                obtain ⟨hP1, hK1, hD1⟩ := hB
                rw [ht] at hP1
                have hP : va_P (dC, dI) vwCl (oW cq S_62) H := hP1
                have hD : va_D A (oW cq S_62) := hD1.weaken (fun _ _ _ h => hFc _ h)
                clear hP1 hK1 hD1 hk1 hz1 hvm ht hFc
                obtain ⟨hIS_62, XS_62, hx_63⟩ := w_60
                have X_64 : oX [2107, 2110] Z S_62 := oX.st YS_19 XS_62 (by decide)
                have g_65 : (oI S_62 avb_36 2).toInt = (oI Z avb_36 2).toInt := by rw [oX.i XS_62 tavb_36 (by decide)]
                have g_66 : (oI S_62 b_48 3).toInt = (oI Z b_48 3).toInt := by rw [oX.i XS_62 tb_48 (by decide)]
                have g_67 : (oI S_62 b_48 4).toInt = (oI Z b_48 4).toInt := by rw [oX.i XS_62 tb_48 (by decide)]
                have g_68 : (oI S_62 o 0).toInt = (oI Z o 0).toInt := by rw [oX.i XS_62 to (by decide)]
                have g_69 : (oI S_62 o 6).toInt = (oI Z o 6).toInt := by rw [oX.i XS_62 to (by decide)]
                have pk_70 : oP S_62 o 8 = some lw := by rw [oX.p XS_62 to (by decide)]; exact pk_20
                have pk_71 : oP S_62 b_36 0 = some amb_36 := by rw [oX.p XS_62 tb_36 (by decide)]; exact fm3b_36
                have pk_72 : oP S_62 b_36 1 = some avb_36 := by rw [oX.p XS_62 tb_36 (by decide)]; exact fv3b_36
                exact W.iret (v := r_61) hx hb hr (fun t ht hW => ⟨⟨r_61, S_62, rfl, ⟨hIS_62, X_64, (by have hd9 : hmD v fa x1.toInt y_18.toNatClampNeg := (by unfold hmD; omega); have hw9 := hx_63; rw [cn_c (show (x_55 : Int32).toInt = (fa 15 (whO v fa ((y_18.toNatClampNeg : Nat) : Int) (v 38).toInt (v 38).toInt).toNat).toInt by omega), cn_c (show (x_58 : Int32).toInt = (fa 8 (fa 21 y_18.toNatClampNeg).toNatClampNeg).toInt by omega)] at hw9; exact ⟨Or.inr ⟨by omega, Or.inl ⟨y_18.toNatClampNeg, ni_lt (by omega) (by omega), hd9, hq0_cut_17, by unfold hmW; exact hw9⟩⟩, Or.inr ⟨fun q => q.elim (fun q => q (by omega)) (fun q => q _ (ni_lt (by omega) (by omega)) hd9), XS_62⟩⟩)⟩, ⟨by rw [ht]; exact hP, va_K.moved hW.alike hK, hD⟩⟩, hS.F ht⟩) hS.2.2 dX10_home_100
    have kc_73 : (0 : Int32).toInt = 0 := by decide
    exact cut_17 61 0 Z _ _ ls (by omega) (by decide) (al_0 (by decide)) (by have rc : (0 : Int32).toInt = 0 := (by decide); omega) rfl gI oX.rf hP hD hS hlw0 (lv_sub hl [0, 1, 2, 3] rfl)
