


set_option maxHeartbeats 4000000 in
set_option maxRecDepth 100000 in
theorem c_X10_left_c (l : Launch) (dC : Nat → ClassId) (dI : Nat → Nat → Nat) (sz : Nat) (cq : Nat → ClassId) (Z : oS) (gI : oInv Z) (o : Nat) (to : oty Z o 10) (x1 : Int32) (x2 : Int32) (x3 : Int32) (x4 : Int32) (v : Nat → Int32) (fa : Nat → Nat → Int32) (hR : RC Z o v fa) : Met l yX10_left wsX10_left ({ frames := 3, cells := 1, slots := 6, locals := 65 }) (va_Pc [.ref o, .int x1, .int x2, .int x3, .int x4] (pcW (dC, dI) (oT cq) (oW cq Z) sz)) (va_Qi (fun (r : Int32) (u : oS) => oInv u ∧ oX [108, 1007, 2107] Z u ∧ (aLe x1.toInt (v 43).toInt x4.toInt x3.toInt (fa 26 x1.toNatClampNeg).toInt (fa 25 x1.toNatClampNeg).toInt x2.toInt (v 38).toInt (v 41).toInt r.toInt ∧ rOo Z o u r (hapO Z o (agA Z o x1.toNatClampNeg) 8 0 x2 x3 x4 r u))) (fun u t => va_P (dC, dI) vwCl (oW cq u) t.heap ∧ va_K (dC, dI) vwCl (oT cq) t ∧ va_D (va_A (oW cq Z) sz) (oW cq u)) (va_A (oW cq Z) sz)) 1 6 (va_A (oW cq Z) sz) := by
  refine Met.ofW (cc := cX10_left) (maxL := 7) (ret := (some .int)) (by decide +kernel) rfl ?_
  intro p e s m args below meth c s₁ B hml hv
  obtain ⟨rfl, hsz, hP, hK, hD0⟩ := hv
  have hx := B.exec
  have hb := B.bytes
  have hr := B.returns
  have hts := atoms_spec (ws := wsX10_left) B.pre
  have hown : s.vm.findClass RX10 = some m.cls := findClass_of_methodNamed B.named
  have hlocks := B.notSynchronized
  subst hsz
  have hD := hD0.self (sz := s.heap.size)
  generalize hAe : va_A (oW cq Z) s.heap.size = A at hD ⊢
  have hA : ∀ q : Nat, s.heap.size ≤ q → A q := fun q h => by rw [← hAe]; exact Or.inr h
  have hS : va_S A s.heap s.heap [] := va_S.rf
  have hP : va_P (dC, dI) vwCl (oW cq Z) s.heap := hP
  have hl := lv_entry ([.ref o, .int x1, .int x2, .int x3, .int x4]) (n := 7) (Nat.le_of_ble_eq_true rfl)
  rw [lg_entry_eq]
  generalize (lg_sl ([.ref o, .int x1, .int x2, .int x3, .int x4]) ++ List.replicate (7 - (lg_sl ([.ref o, .int x1, .int x2, .int x3, .int x4])).length) Slot.unset).toArray = ls at hl ⊢
  have hl : lv_has ls 7 [(0, .ref o), (1, .int x1), (2, .int x2), (3, .int x3), (4, .int x4)] := hl
  obtain ⟨fn0, fn1, fn2, fn3, fn4⟩ := RC.n hR
  have fb38 : 0 ≤ (v 38).toInt ∧ (v 38).toInt ≤ 3000 := RC.V hR 38
  have fb39 : 0 ≤ (v 39).toInt ∧ (v 39).toInt ≤ 40 := RC.V hR 39
  have fb40 : 0 ≤ (v 40).toInt ∧ (v 40).toInt ≤ 20 := RC.V hR 40
  have fb43 : 0 ≤ (v 43).toInt ∧ (v 43).toInt ≤ 60 := RC.V hR 43
  have fb41 : 0 ≤ (v 41).toInt ∧ (v 41).toInt ≤ 200 := RC.V hR 41
  refine lv_aload_n hx hb dX10_left_0 rfl (lv_at hl 0 rfl) ?_
  refine lv_iload_n hx hb dX10_left_1 rfl (lv_at hl 1 rfl) ?_
  have hFc : ∀ q, va_A [] s.heap.size q → A q := pu_free hS hA
  obtain ⟨q_1, hq_1⟩ := og (cq := cq) to.1 (oE_10 to.2)
  refine va_callq (va_runV (As := [.int x1]) (rest := []) ⟨hx, hb, hml, hown, hts⟩ (c_X10_agreementAt_c l dC dI s.heap.size cq Z gI o to x1 v fa hR) (cwV 1 hts gX10_left_X10_agreementAt rfl rfl rfl (by decide +kernel) ⟨(Nat.le_of_ble_eq_true rfl), (Nat.le_of_ble_eq_true rfl)⟩) (pr_V (r := (RX10, TX10, 16)) hP hK hD q_1 10 rfl hq_1) rfl rfl hl.1 rfl (lv_room (Nat.le_of_ble_eq_true rfl)) dX10_left_2 ⟨(Nat.le_of_ble_eq_true rfl), (Nat.le_of_ble_eq_true rfl)⟩) hS (fun q _ h => hFc q h) hFc (fun r_3 u t H locs ht hvm w_2 hB hz1 hk1 hS => ?_)
  have hP := pu_keep hP hk1
  clear hk1 hz1 hvm hB ht hFc
  obtain ⟨hk_4, hx_5⟩ := w_2
  rcases r_3 with _ | b_6
  · refine W.eq (g2 := F0 m 5 ls [.null]) rfl ?_
    have hnr_3 := atF_n hx_5
    refine lv_astoreN (lv' := [(5, .null), (0, .ref o), (1, .int x1), (2, .int x2), (3, .int x3), (4, .int x4)]) hx hb dX10_left_5 hl (by decide +kernel) rfl (fun ls hl => ?_)
    refine lv_aloadN hx hb dX10_left_7 (lv_at hl 0 rfl) ?_
    refine lv_ifnullN (tgt := 20) hx hb dX10_left_9 (by decide +kernel) ?_
    refine lv_aload_n hx hb dX10_left_20 rfl (lv_at hl 1 rfl) ?_
    refine lv_iconst (v := (-1)) hx hb dX10_left_21 (by decide +kernel) ?_
    have hFc := o_free hD hS hA
    refine va_calli (va_runV (As := [.int (-1)]) (rest := []) ⟨hx, hb, hml, hown, hts⟩ (c_X10_refuse_c l dC dI H.size cq Z gI o to (-1) (by decide +kernel)) (cwV 1 hts gX10_left_X10_refuse rfl rfl rfl (by decide +kernel) ⟨(Nat.le_of_ble_eq_true rfl), (Nat.le_of_ble_eq_true rfl)⟩) (pr_V (r := (RX10, TX10, 16)) hP hK hD q_1 10 rfl hq_1) rfl rfl hl.1 rfl (lv_room (Nat.le_of_ble_eq_true rfl)) dX10_left_22 ⟨(Nat.le_of_ble_eq_true rfl), (Nat.le_of_ble_eq_true rfl)⟩) hS (fun q _ h => hFc q h) hFc (fun r_8 u t H locs ht hvm w_7 hB hz1 hk1 hS => ?_)
    obtain ⟨S_9, rfl⟩ : ∃ z, z = u := ⟨_, rfl⟩
    obtain ⟨hP1, hK1, hD1⟩ := hB
    rw [ht] at hP1
    have hP : va_P (dC, dI) vwCl (oW cq S_9) H := hP1
    have hD : va_D A (oW cq S_9) := hD1.weaken (fun _ _ _ h => hFc _ h)
    clear hP1 hK1 hD1 hk1 hz1 hvm ht hFc
    obtain ⟨hIS_9, XS_9, hb_10, hx_11⟩ := w_7
    have X_12 : oX [108, 1007, 2107] Z S_9 := oX.st oX.rf XS_9 (by decide +kernel)
    have g_13 : (oI S_9 o 0).toInt = (oI Z o 0).toInt := by rw [oX.i XS_9 to (by decide +kernel)]
    have g_14 : (oI S_9 o 7).toInt = (oI Z o 7).toInt := by rw [oX.i XS_9 to (by decide +kernel)]
    have rf_15 : r_8.toInt = -1 := by rw [hx_11.1]; decide
    refine W.widen (k := 1) (n := 6) (Nat.le_of_ble_eq_true rfl) (Nat.le_of_ble_eq_true rfl) ?_
    exact W.iret (v := r_8) hx hb hr (fun t ht hW => ⟨⟨r_8, S_9, rfl, ⟨hIS_9, X_12, ⟨by have kc0 : (0 : Int32).toInt = 0 := (by decide +kernel); have kc1 : (1 : Int32).toInt = 1 := (by decide +kernel); have kc2 : (2 : Int32).toInt = 2 := (by decide +kernel); (first | exact Or.inl ⟨by omega, by omega⟩ | (unfold aLe aHp; omega)), (Or.inl ⟨by omega, by rw [hx_11.1]; exact hx_11.2⟩)⟩⟩, ⟨by rw [ht]; exact hP, va_K.moved hW.alike hK, hD⟩⟩, hS.F ht⟩) hS.2.2 dX10_left_25
  · refine W.eq (g2 := F0 m 5 ls [.ref b_6]) rfl ?_
    have tb_6 : oty Z b_6 1 := hk_4 b_6 rfl
    obtain ⟨hjb_6, ejb_6⟩ := atF_s hx_5
    have ljb_6 := ni_lt hjb_6.1 hjb_6.2
    have njb_6 := tn_i hjb_6.1
    have fAb_6 := RC.a hR ljb_6
    rw [← ejb_6] at fAb_6
    obtain ⟨⟨fm1b_6, fm2b_6, fm3b_6⟩, ⟨fv1b_6, fv2b_6, fv3b_6⟩, fsib_6, fppb_6, fwgb_6, frkb_6, fofb_6, fdeb_6, fchb_6⟩ := fAb_6
    have fBb_6 : 0 ≤ (fa 25 x1.toNatClampNeg).toInt ∧ (fa 25 x1.toNatClampNeg).toInt ≤ 3000 := RC.A hR 25 _
    have lamb_6 : (fa 20 x1.toNatClampNeg).toNatClampNeg < (v 39).toNatClampNeg := ni_lt fm1b_6 fm2b_6
    have namb_6 : (((fa 20 x1.toNatClampNeg).toNatClampNeg : Nat) : Int) = (fa 20 x1.toNatClampNeg).toInt := tn_i fm1b_6
    obtain ⟨amb_6, eamb_6⟩ : ∃ z, z = mnA Z o (fa 20 x1.toNatClampNeg).toNatClampNeg := ⟨_, rfl⟩
    rw [← eamb_6] at fm3b_6
    have tamb_6 : oty Z amb_6 6 := by rw [eamb_6]; exact (RC.tm hR gI to lamb_6).2
    have fMamb_6 := RC.m hR lamb_6
    rw [← eamb_6] at fMamb_6
    obtain ⟨fz0amb_6, fz1amb_6, fz2amb_6, fz3amb_6⟩ := fMamb_6
    rw [namb_6] at fz0amb_6
    have lavb_6 : (fa 21 x1.toNatClampNeg).toNatClampNeg < (v 40).toNatClampNeg := ni_lt fv1b_6 fv2b_6
    have navb_6 : (((fa 21 x1.toNatClampNeg).toNatClampNeg : Nat) : Int) = (fa 21 x1.toNatClampNeg).toInt := tn_i fv1b_6
    obtain ⟨avb_6, eavb_6⟩ : ∃ z, z = voA Z o (fa 21 x1.toNatClampNeg).toNatClampNeg := ⟨_, rfl⟩
    rw [← eavb_6] at fv3b_6
    have tavb_6 : oty Z avb_6 9 := by rw [eavb_6]; exact (RC.tv hR gI to lavb_6).2
    have fVavb_6 := RC.vo hR lavb_6
    rw [← eavb_6] at fVavb_6
    obtain ⟨fy0avb_6, fy1avb_6, fy2avb_6, fy3avb_6, fy4avb_6, fySavb_6, fyLavb_6, fyhavb_6⟩ := fVavb_6
    have fBavb_6 : 0 ≤ (fa 7 ((fa 21 x1.toNatClampNeg).toNatClampNeg)).toInt ∧ (fa 7 ((fa 21 x1.toNatClampNeg).toNatClampNeg)).toInt ≤ 3000 := RC.A hR 7 _
    have fSavb_6 := onc_i fySavb_6
    have fLavb_6 := onc_i fyLavb_6
    rw [navb_6] at fy0avb_6 fSavb_6 fLavb_6
    refine lv_astore (lv' := [(5, .ref b_6), (0, .ref o), (1, .int x1), (2, .int x2), (3, .int x3), (4, .int x4)]) hx hb dX10_left_5 hl (by decide +kernel) rfl (fun ls hl => ?_)
    refine lv_aload hx hb dX10_left_7 (lv_at hl 0 rfl) ?_
    refine lv_ifnull hx hb dX10_left_9 ?_
    refine lv_iload hx hb dX10_left_12 (lv_at hl 5 rfl) ?_
    have hFc : ∀ q, va_A [] H.size q → A q := pu_free hS hA
    have hPc := hP.sub (ws' := []) [] rfl
    have hDc := hD.sub (ws' := []) [] (by decide +kernel) rfl
    have hKc := hK.sub (tys' := []) [] rfl
    refine va_calli (va_runS (As := [.int x4]) (rest := []) ⟨hx, hb, hml, hown, hts⟩ (c_X10_isPort_f l dC dI H.size  x4) (va_cwS 1 hts gX10_left_X10_isPort rfl rfl rfl (by decide +kernel) ⟨(Nat.le_of_ble_eq_true rfl), (Nat.le_of_ble_eq_true rfl)⟩) (pr_S hPc hKc hDc) rfl rfl hl.1 rfl (lv_room (Nat.le_of_ble_eq_true rfl)) dX10_left_14 ⟨(Nat.le_of_ble_eq_true rfl), (Nat.le_of_ble_eq_true rfl)⟩) hS (fun q _ h => hFc q h) hFc (fun r_17 u t H locs ht hvm w_16 hB hz1 hk1 hS => ?_)
    have hP := pu_keep hP hk1
    clear hk1 hz1 hvm hB ht hFc hPc hDc hKc
    obtain ⟨hb_18, hx_19⟩ := w_16
    refine lv_if_ne (tgt := 26) hx hb dX10_left_17 (by decide +kernel) (fun c_20 => ?_) (fun c_20 => ?_)
    · have dc_20 := c_ne (a := r_17.toInt) (b := 0) rfl (by decide +kernel) c_20
      refine lv_iload_n hx hb dX10_left_26 rfl (lv_at hl 4 rfl) ?_
      refine lv_if_lt (tgt := 35) hx hb dX10_left_27 (by decide +kernel) (fun c_21 => ?_) (fun c_21 => ?_)
      · have dc_21 := c_lt (a := x3.toInt) (b := 0) rfl (by decide +kernel) c_21
        refine lv_aload_n hx hb dX10_left_35 rfl (lv_at hl 1 rfl) ?_
        refine lv_bipush (v := (-2)) hx hb dX10_left_36 (by decide +kernel) ?_
        have hFc := o_free hD hS hA
        refine va_calli (va_runV (As := [.int (-2)]) (rest := []) ⟨hx, hb, hml, hown, hts⟩ (c_X10_refuse_c l dC dI H.size cq Z gI o to (-2) (by decide +kernel)) (cwV 1 hts gX10_left_X10_refuse rfl rfl rfl (by decide +kernel) ⟨(Nat.le_of_ble_eq_true rfl), (Nat.le_of_ble_eq_true rfl)⟩) (pr_V (r := (RX10, TX10, 16)) hP hK hD q_1 10 rfl hq_1) rfl rfl hl.1 rfl (lv_room (Nat.le_of_ble_eq_true rfl)) dX10_left_38 ⟨(Nat.le_of_ble_eq_true rfl), (Nat.le_of_ble_eq_true rfl)⟩) hS (fun q _ h => hFc q h) hFc (fun r_23 u t H locs ht hvm w_22 hB hz1 hk1 hS => ?_)
        obtain ⟨S_24, rfl⟩ : ∃ z, z = u := ⟨_, rfl⟩
        obtain ⟨hP1, hK1, hD1⟩ := hB
        rw [ht] at hP1
        have hP : va_P (dC, dI) vwCl (oW cq S_24) H := hP1
        have hD : va_D A (oW cq S_24) := hD1.weaken (fun _ _ _ h => hFc _ h)
        clear hP1 hK1 hD1 hk1 hz1 hvm ht hFc
        obtain ⟨hIS_24, XS_24, hb_25, hx_26⟩ := w_22
        have X_27 : oX [108, 1007, 2107] Z S_24 := oX.st oX.rf XS_24 (by decide +kernel)
        have g_28 : (oI S_24 o 0).toInt = (oI Z o 0).toInt := by rw [oX.i XS_24 to (by decide +kernel)]
        have g_29 : (oI S_24 o 7).toInt = (oI Z o 7).toInt := by rw [oX.i XS_24 to (by decide +kernel)]
        have pk_30 : oP S_24 b_6 0 = some amb_6 := by rw [oX.p XS_24 tb_6 (by decide +kernel)]; exact fm3b_6
        have pk_31 : oP S_24 b_6 1 = some avb_6 := by rw [oX.p XS_24 tb_6 (by decide +kernel)]; exact fv3b_6
        have rf_32 : r_23.toInt = -2 := by rw [hx_26.1]; decide
        refine W.widen (k := 1) (n := 6) (Nat.le_of_ble_eq_true rfl) (Nat.le_of_ble_eq_true rfl) ?_
        exact W.iret (v := r_23) hx hb hr (fun t ht hW => ⟨⟨r_23, S_24, rfl, ⟨hIS_24, X_27, ⟨by try clear fppb_6; try clear fSavb_6; try clear fLavb_6; try clear fy4avb_6; have kc0 : (0 : Int32).toInt = 0 := (by decide +kernel); have kc1 : (1 : Int32).toInt = 1 := (by decide +kernel); have kc2 : (2 : Int32).toInt = 2 := (by decide +kernel); (first | exact Or.inr (Or.inl ⟨by omega, by omega, by omega⟩) | (unfold aLe aHp; omega)), (Or.inl ⟨by omega, by rw [hx_26.1]; exact hx_26.2⟩)⟩⟩, ⟨by rw [ht]; exact hP, va_K.moved hW.alike hK, hD⟩⟩, hS.F ht⟩) hS.2.2 dX10_left_41
      · have dc_21 := c_nlt (a := x3.toInt) (b := 0) rfl (by decide +kernel) c_21
        refine lv_iload_n hx hb dX10_left_30 rfl (lv_at hl 4 rfl) ?_
        refine lv_iconst (v := 2) hx hb dX10_left_31 (by decide +kernel) ?_
        refine lv_icmp_le (tgt := 42) hx hb dX10_left_32 (by decide +kernel) (fun c_33 => ?_) (fun c_33 => ?_)
        · have dc_33 := c_le (a := x3.toInt) (b := 2) rfl (by decide +kernel) c_33
          refine lv_aload_n hx hb dX10_left_42 rfl (lv_at hl 1 rfl) ?_
          refine lv_aload hx hb dX10_left_43 (lv_at hl 0 rfl) ?_
          refine lv_iload_n hx hb dX10_left_45 rfl (lv_at hl 3 rfl) ?_
          have hFc : ∀ q, va_A [] H.size q → A q := pu_free hS hA
          refine va_calli (va_runV (As := [.ref b_6, .int x2]) (rest := []) ⟨hx, hb, hml, hown, hts⟩ (c_X10_tidingRefusal_c l dC dI H.size cq Z gI o to b_6 tb_6 x2) (cwV 2 hts gX10_left_X10_tidingRefusal rfl rfl rfl (by decide +kernel) ⟨(Nat.le_of_ble_eq_true rfl), (Nat.le_of_ble_eq_true rfl)⟩) (pr_V (r := (RX10, TX10, 16)) hP hK hD q_1 10 rfl hq_1) rfl rfl hl.1 rfl (lv_room (Nat.le_of_ble_eq_true rfl)) dX10_left_46 ⟨(Nat.le_of_ble_eq_true rfl), (Nat.le_of_ble_eq_true rfl)⟩) hS (fun q _ h => hFc q h) hFc (fun r_35 u t H locs ht hvm w_34 hB hz1 hk1 hS => ?_)
          have hP := pu_keep hP hk1
          clear hk1 hz1 hvm hB ht hFc
          obtain ⟨hb_36, hx_37⟩ := w_34
          have uN_38 := hx_37
          unfold tRf at uN_38
          refine lv_istore (lv' := [(6, .int r_35), (5, .ref b_6), (0, .ref o), (1, .int x1), (2, .int x2), (3, .int x3), (4, .int x4)]) hx hb dX10_left_49 hl (by decide +kernel) rfl (fun ls hl => ?_)
          refine lv_iload hx hb dX10_left_51 (lv_at hl 0 rfl) ?_
          refine lv_if_eq (tgt := 63) hx hb dX10_left_53 (by decide +kernel) (fun c_39 => ?_) (fun c_39 => ?_)
          · have dc_39 := c_eq (a := r_35.toInt) (b := 0) rfl (by decide +kernel) c_39
            refine lv_aload_n hx hb dX10_left_63 rfl (lv_at hl 2 rfl) ?_
            refine lv_aload hx hb dX10_left_64 (lv_at hl 1 rfl) ?_
            refine lv_iconst (v := 0) hx hb dX10_left_66 (by decide +kernel) ?_
            refine lv_iload_n hx hb dX10_left_67 rfl (lv_at hl 4 rfl) ?_
            refine lv_iload_n hx hb dX10_left_68 rfl (lv_at hl 5 rfl) ?_
            refine lv_iload hx hb dX10_left_69 (lv_at hl 6 rfl) ?_
            have hFc := o_free hD hS hA
            refine va_calli (va_runV (As := [.ref b_6, .int 0, .int x2, .int x3, .int x4]) (rest := []) ⟨hx, hb, hml, hown, hts⟩ (c_X10_addTiding_c l dC dI H.size cq Z gI o to b_6 tb_6 0 x2 x3 x4 (Or.inr (by omega)) (by omega)) (cwV 5 hts gX10_left_X10_addTiding rfl rfl rfl (by decide +kernel) ⟨(Nat.le_of_ble_eq_true rfl), (Nat.le_of_ble_eq_true rfl)⟩) (pr_V (r := (RX10, TX10, 16)) hP hK hD q_1 10 rfl hq_1) rfl rfl hl.1 rfl (lv_room (Nat.le_of_ble_eq_true rfl)) dX10_left_71 ⟨(Nat.le_of_ble_eq_true rfl), (Nat.le_of_ble_eq_true rfl)⟩) hS (fun q _ h => hFc q h) hFc (fun r_41 u t H locs ht hvm w_40 hB hz1 hk1 hS => ?_)
            obtain ⟨S_42, rfl⟩ : ∃ z, z = u := ⟨_, rfl⟩
            obtain ⟨hP1, hK1, hD1⟩ := hB
            rw [ht] at hP1
            have hP : va_P (dC, dI) vwCl (oW cq S_42) H := hP1
            have hD : va_D A (oW cq S_42) := hD1.weaken (fun _ _ _ h => hFc _ h)
            clear hP1 hK1 hD1 hk1 hz1 hvm ht hFc
            refine W.widen (k := 1) (n := 6) (Nat.le_of_ble_eq_true rfl) (Nat.le_of_ble_eq_true rfl) ?_
            obtain ⟨hIS_42, XS_42, hx_43⟩ := w_40
            have X_44 : oX [108, 1007, 2107] Z S_42 := oX.st oX.rf XS_42 (by decide +kernel)
            have g_45 : (oI S_42 o 0).toInt = (oI Z o 0).toInt := by rw [oX.i XS_42 to (by decide +kernel)]
            have pk_46 : oP S_42 b_6 0 = some amb_6 := by rw [oX.p XS_42 tb_6 (by decide +kernel)]; exact fm3b_6
            have pk_47 : oP S_42 b_6 1 = some avb_6 := by rw [oX.p XS_42 tb_6 (by decide +kernel)]; exact fv3b_6
            exact W.iret (v := r_41) hx hb hr (fun t ht hW => ⟨⟨r_41, S_42, rfl, ⟨hIS_42, X_44, ⟨by try clear fppb_6; try clear fSavb_6; try clear fLavb_6; try clear fy4avb_6; have kc0 : (0 : Int32).toInt = 0 := (by decide +kernel); have kc1 : (1 : Int32).toInt = 1 := (by decide +kernel); have kc2 : (2 : Int32).toInt = 2 := (by decide +kernel); have hq_ := hx_37; unfold tRf at hq_; obtain ⟨_, _, _, _, _, _, h9_, _⟩ := hx_43; rcases hq_ with hq_ | hq_ | hq_ | hq_; (first | (exfalso; omega) | (unfold aLe aHp; omega)); (first | (exfalso; omega) | (unfold aLe aHp; omega)); (first | (exfalso; omega) | (unfold aLe aHp; omega)); (first | exact Or.inr (Or.inr (Or.inr (⟨by omega, by omega, by omega, Or.inr (Or.inr (⟨by omega, by omega, by omega, by omega⟩))⟩))) | (unfold aLe aHp; omega)), Or.inr ⟨by try clear fppb_6; try clear fSavb_6; try clear fLavb_6; try clear fy4avb_6; have kc0 : (0 : Int32).toInt = 0 := (by decide +kernel); have kc1 : (1 : Int32).toInt = 1 := (by decide +kernel); have kc2 : (2 : Int32).toInt = 2 := (by decide +kernel); have hq_ := hx_37; unfold tRf at hq_; obtain ⟨_, _, _, _, _, _, h9_, _⟩ := hx_43; omega, (by rw [← ejb_6]; exact hx_43)⟩⟩⟩, ⟨by rw [ht]; exact hP, va_K.moved hW.alike hK, hD⟩⟩, hS.F ht⟩) hS.2.2 dX10_left_74
          · have dc_39 := c_ne (a := r_35.toInt) (b := 0) rfl (by decide +kernel) c_39
            refine lv_aload_n hx hb dX10_left_56 rfl (lv_at hl 2 rfl) ?_
            refine lv_iload hx hb dX10_left_57 (lv_at hl 0 rfl) ?_
            have hFc := o_free hD hS hA
            refine va_calli (va_runV (As := [.int r_35]) (rest := []) ⟨hx, hb, hml, hown, hts⟩ (c_X10_refuse_c l dC dI H.size cq Z gI o to r_35 (by omega)) (cwV 1 hts gX10_left_X10_refuse rfl rfl rfl (by decide +kernel) ⟨(Nat.le_of_ble_eq_true rfl), (Nat.le_of_ble_eq_true rfl)⟩) (pr_V (r := (RX10, TX10, 16)) hP hK hD q_1 10 rfl hq_1) rfl rfl hl.1 rfl (lv_room (Nat.le_of_ble_eq_true rfl)) dX10_left_59 ⟨(Nat.le_of_ble_eq_true rfl), (Nat.le_of_ble_eq_true rfl)⟩) hS (fun q _ h => hFc q h) hFc (fun r_49 u t H locs ht hvm w_48 hB hz1 hk1 hS => ?_)
            obtain ⟨S_50, rfl⟩ : ∃ z, z = u := ⟨_, rfl⟩
            obtain ⟨hP1, hK1, hD1⟩ := hB
            rw [ht] at hP1
            have hP : va_P (dC, dI) vwCl (oW cq S_50) H := hP1
            have hD : va_D A (oW cq S_50) := hD1.weaken (fun _ _ _ h => hFc _ h)
            clear hP1 hK1 hD1 hk1 hz1 hvm ht hFc
            obtain ⟨hIS_50, XS_50, hb_51, hx_52⟩ := w_48
            have X_53 : oX [108, 1007, 2107] Z S_50 := oX.st oX.rf XS_50 (by decide +kernel)
            have g_54 : (oI S_50 o 0).toInt = (oI Z o 0).toInt := by rw [oX.i XS_50 to (by decide +kernel)]
            have g_55 : (oI S_50 o 7).toInt = (oI Z o 7).toInt := by rw [oX.i XS_50 to (by decide +kernel)]
            have pk_56 : oP S_50 b_6 0 = some amb_6 := by rw [oX.p XS_50 tb_6 (by decide +kernel)]; exact fm3b_6
            have pk_57 : oP S_50 b_6 1 = some avb_6 := by rw [oX.p XS_50 tb_6 (by decide +kernel)]; exact fv3b_6
            have rf_58 : r_49.toInt = r_35.toInt := by rw [hx_52.1]
            refine W.widen (k := 1) (n := 6) (Nat.le_of_ble_eq_true rfl) (Nat.le_of_ble_eq_true rfl) ?_
            exact W.iret (v := r_49) hx hb hr (fun t ht hW => ⟨⟨r_49, S_50, rfl, ⟨hIS_50, X_53, ⟨by try clear fppb_6; try clear fSavb_6; try clear fLavb_6; try clear fy4avb_6; have kc0 : (0 : Int32).toInt = 0 := (by decide +kernel); have kc1 : (1 : Int32).toInt = 1 := (by decide +kernel); have kc2 : (2 : Int32).toInt = 2 := (by decide +kernel); have hq_ := hx_37; unfold tRf at hq_; rcases hq_ with hq_ | hq_ | hq_ | hq_; (first | exact Or.inr (Or.inr (Or.inl ⟨by omega, by omega, by omega, by omega⟩)) | (unfold aLe aHp; omega)); (first | exact Or.inr (Or.inr (Or.inr (⟨by omega, by omega, by omega, Or.inl ⟨by omega, by omega⟩⟩))) | (unfold aLe aHp; omega)); (first | exact Or.inr (Or.inr (Or.inr (⟨by omega, by omega, by omega, Or.inr (Or.inl ⟨by omega, by omega, by omega⟩)⟩))) | (unfold aLe aHp; omega)); (first | (exfalso; omega) | (unfold aLe aHp; omega)), (Or.inl ⟨by omega, by rw [hx_52.1]; exact hx_52.2⟩)⟩⟩, ⟨by rw [ht]; exact hP, va_K.moved hW.alike hK, hD⟩⟩, hS.F ht⟩) hS.2.2 dX10_left_62
        · have dc_33 := c_nle (a := x3.toInt) (b := 2) rfl (by decide +kernel) c_33
          refine lv_aload_n hx hb dX10_left_35 rfl (lv_at hl 1 rfl) ?_
          refine lv_bipush (v := (-2)) hx hb dX10_left_36 (by decide +kernel) ?_
          have hFc := o_free hD hS hA
          refine va_calli (va_runV (As := [.int (-2)]) (rest := []) ⟨hx, hb, hml, hown, hts⟩ (c_X10_refuse_c l dC dI H.size cq Z gI o to (-2) (by decide +kernel)) (cwV 1 hts gX10_left_X10_refuse rfl rfl rfl (by decide +kernel) ⟨(Nat.le_of_ble_eq_true rfl), (Nat.le_of_ble_eq_true rfl)⟩) (pr_V (r := (RX10, TX10, 16)) hP hK hD q_1 10 rfl hq_1) rfl rfl hl.1 rfl (lv_room (Nat.le_of_ble_eq_true rfl)) dX10_left_38 ⟨(Nat.le_of_ble_eq_true rfl), (Nat.le_of_ble_eq_true rfl)⟩) hS (fun q _ h => hFc q h) hFc (fun r_60 u t H locs ht hvm w_59 hB hz1 hk1 hS => ?_)
          obtain ⟨S_61, rfl⟩ : ∃ z, z = u := ⟨_, rfl⟩
          obtain ⟨hP1, hK1, hD1⟩ := hB
          rw [ht] at hP1
          have hP : va_P (dC, dI) vwCl (oW cq S_61) H := hP1
          have hD : va_D A (oW cq S_61) := hD1.weaken (fun _ _ _ h => hFc _ h)
          clear hP1 hK1 hD1 hk1 hz1 hvm ht hFc
          obtain ⟨hIS_61, XS_61, hb_62, hx_63⟩ := w_59
          have X_64 : oX [108, 1007, 2107] Z S_61 := oX.st oX.rf XS_61 (by decide +kernel)
          have g_65 : (oI S_61 o 0).toInt = (oI Z o 0).toInt := by rw [oX.i XS_61 to (by decide +kernel)]
          have g_66 : (oI S_61 o 7).toInt = (oI Z o 7).toInt := by rw [oX.i XS_61 to (by decide +kernel)]
          have pk_67 : oP S_61 b_6 0 = some amb_6 := by rw [oX.p XS_61 tb_6 (by decide +kernel)]; exact fm3b_6
          have pk_68 : oP S_61 b_6 1 = some avb_6 := by rw [oX.p XS_61 tb_6 (by decide +kernel)]; exact fv3b_6
          have rf_69 : r_60.toInt = -2 := by rw [hx_63.1]; decide
          refine W.widen (k := 1) (n := 6) (Nat.le_of_ble_eq_true rfl) (Nat.le_of_ble_eq_true rfl) ?_
          exact W.iret (v := r_60) hx hb hr (fun t ht hW => ⟨⟨r_60, S_61, rfl, ⟨hIS_61, X_64, ⟨by try clear fppb_6; try clear fSavb_6; try clear fLavb_6; try clear fy4avb_6; have kc0 : (0 : Int32).toInt = 0 := (by decide +kernel); have kc1 : (1 : Int32).toInt = 1 := (by decide +kernel); have kc2 : (2 : Int32).toInt = 2 := (by decide +kernel); (first | exact Or.inr (Or.inl ⟨by omega, by omega, by omega⟩) | (unfold aLe aHp; omega)), (Or.inl ⟨by omega, by rw [hx_63.1]; exact hx_63.2⟩)⟩⟩, ⟨by rw [ht]; exact hP, va_K.moved hW.alike hK, hD⟩⟩, hS.F ht⟩) hS.2.2 dX10_left_41
    · have dc_20 := c_eq (a := r_17.toInt) (b := 0) rfl (by decide +kernel) c_20
      refine lv_aload_n hx hb dX10_left_20 rfl (lv_at hl 1 rfl) ?_
      refine lv_iconst (v := (-1)) hx hb dX10_left_21 (by decide +kernel) ?_
      have hFc := o_free hD hS hA
      refine va_calli (va_runV (As := [.int (-1)]) (rest := []) ⟨hx, hb, hml, hown, hts⟩ (c_X10_refuse_c l dC dI H.size cq Z gI o to (-1) (by decide +kernel)) (cwV 1 hts gX10_left_X10_refuse rfl rfl rfl (by decide +kernel) ⟨(Nat.le_of_ble_eq_true rfl), (Nat.le_of_ble_eq_true rfl)⟩) (pr_V (r := (RX10, TX10, 16)) hP hK hD q_1 10 rfl hq_1) rfl rfl hl.1 rfl (lv_room (Nat.le_of_ble_eq_true rfl)) dX10_left_22 ⟨(Nat.le_of_ble_eq_true rfl), (Nat.le_of_ble_eq_true rfl)⟩) hS (fun q _ h => hFc q h) hFc (fun r_71 u t H locs ht hvm w_70 hB hz1 hk1 hS => ?_)
      obtain ⟨S_72, rfl⟩ : ∃ z, z = u := ⟨_, rfl⟩
      obtain ⟨hP1, hK1, hD1⟩ := hB
      rw [ht] at hP1
      have hP : va_P (dC, dI) vwCl (oW cq S_72) H := hP1
      have hD : va_D A (oW cq S_72) := hD1.weaken (fun _ _ _ h => hFc _ h)
      clear hP1 hK1 hD1 hk1 hz1 hvm ht hFc
      obtain ⟨hIS_72, XS_72, hb_73, hx_74⟩ := w_70
      have X_75 : oX [108, 1007, 2107] Z S_72 := oX.st oX.rf XS_72 (by decide +kernel)
      have g_76 : (oI S_72 o 0).toInt = (oI Z o 0).toInt := by rw [oX.i XS_72 to (by decide +kernel)]
      have g_77 : (oI S_72 o 7).toInt = (oI Z o 7).toInt := by rw [oX.i XS_72 to (by decide +kernel)]
      have pk_78 : oP S_72 b_6 0 = some amb_6 := by rw [oX.p XS_72 tb_6 (by decide +kernel)]; exact fm3b_6
      have pk_79 : oP S_72 b_6 1 = some avb_6 := by rw [oX.p XS_72 tb_6 (by decide +kernel)]; exact fv3b_6
      have rf_80 : r_71.toInt = -1 := by rw [hx_74.1]; decide
      refine W.widen (k := 1) (n := 6) (Nat.le_of_ble_eq_true rfl) (Nat.le_of_ble_eq_true rfl) ?_
      exact W.iret (v := r_71) hx hb hr (fun t ht hW => ⟨⟨r_71, S_72, rfl, ⟨hIS_72, X_75, ⟨by try clear fppb_6; try clear fSavb_6; try clear fLavb_6; try clear fy4avb_6; have kc0 : (0 : Int32).toInt = 0 := (by decide +kernel); have kc1 : (1 : Int32).toInt = 1 := (by decide +kernel); have kc2 : (2 : Int32).toInt = 2 := (by decide +kernel); (first | exact Or.inl ⟨by omega, by omega⟩ | (unfold aLe aHp; omega)), (Or.inl ⟨by omega, by rw [hx_74.1]; exact hx_74.2⟩)⟩⟩, ⟨by rw [ht]; exact hP, va_K.moved hW.alike hK, hD⟩⟩, hS.F ht⟩) hS.2.2 dX10_left_25
set_option maxHeartbeats 4000000 in
set_option maxRecDepth 100000 in
theorem c_X10_died_c (l : Launch) (dC : Nat → ClassId) (dI : Nat → Nat → Nat) (sz : Nat) (cq : Nat → ClassId) (Z : oS) (gI : oInv Z) (o : Nat) (to : oty Z o 10) (x1 : Int32) (x2 : Int32) (v : Nat → Int32) (fa : Nat → Nat → Int32) (hR : RC Z o v fa) : Met l yX10_died wsX10_died ({ frames := 3, cells := 1, slots := 6, locals := 65 }) (va_Pc [.ref o, .int x1, .int x2] (pcW (dC, dI) (oT cq) (oW cq Z) sz)) (va_Qi (fun (r : Int32) (u : oS) => oInv u ∧ oX [107, 108, 1007, 2107] Z u ∧ (aHo x1.toInt (v 43).toInt (fa 26 x1.toNatClampNeg).toInt (fa 25 x1.toNatClampNeg).toInt x2.toInt (v 38).toInt (v 41).toInt r.toInt ∧ rOo Z o u r (hapO (setI Z (agA Z o x1.toNatClampNeg) 7 1) o (agA Z o x1.toNatClampNeg) 8 2 x2 (-9) (-9) r u))) (fun u t => va_P (dC, dI) vwCl (oW cq u) t.heap ∧ va_K (dC, dI) vwCl (oT cq) t ∧ va_D (va_A (oW cq Z) sz) (oW cq u)) (va_A (oW cq Z) sz)) 1 6 (va_A (oW cq Z) sz) := by
  refine Met.ofW (cc := cX10_died) (maxL := 5) (ret := (some .int)) (by decide +kernel) rfl ?_
  intro p e s m args below meth c s₁ B hml hv
  obtain ⟨rfl, hsz, hP, hK, hD0⟩ := hv
  have hx := B.exec
  have hb := B.bytes
  have hr := B.returns
  have hts := atoms_spec (ws := wsX10_died) B.pre
  have hown : s.vm.findClass RX10 = some m.cls := findClass_of_methodNamed B.named
  have hlocks := B.notSynchronized
  subst hsz
  have hD := hD0.self (sz := s.heap.size)
  generalize hAe : va_A (oW cq Z) s.heap.size = A at hD ⊢
  have hA : ∀ q : Nat, s.heap.size ≤ q → A q := fun q h => by rw [← hAe]; exact Or.inr h
  have hS : va_S A s.heap s.heap [] := va_S.rf
  have hP : va_P (dC, dI) vwCl (oW cq Z) s.heap := hP
  have hl := lv_entry ([.ref o, .int x1, .int x2]) (n := 5) (Nat.le_of_ble_eq_true rfl)
  rw [lg_entry_eq]
  generalize (lg_sl ([.ref o, .int x1, .int x2]) ++ List.replicate (5 - (lg_sl ([.ref o, .int x1, .int x2])).length) Slot.unset).toArray = ls at hl ⊢
  have hl : lv_has ls 5 [(0, .ref o), (1, .int x1), (2, .int x2)] := hl
  obtain ⟨fn0, fn1, fn2, fn3, fn4⟩ := RC.n hR
  have fb38 : 0 ≤ (v 38).toInt ∧ (v 38).toInt ≤ 3000 := RC.V hR 38
  have fb39 : 0 ≤ (v 39).toInt ∧ (v 39).toInt ≤ 40 := RC.V hR 39
  have fb40 : 0 ≤ (v 40).toInt ∧ (v 40).toInt ≤ 20 := RC.V hR 40
  have fb43 : 0 ≤ (v 43).toInt ∧ (v 43).toInt ≤ 60 := RC.V hR 43
  have fb41 : 0 ≤ (v 41).toInt ∧ (v 41).toInt ≤ 200 := RC.V hR 41
  refine lv_aload_n hx hb dX10_died_0 rfl (lv_at hl 0 rfl) ?_
  refine lv_iload_n hx hb dX10_died_1 rfl (lv_at hl 1 rfl) ?_
  have hFc : ∀ q, va_A [] s.heap.size q → A q := pu_free hS hA
  obtain ⟨q_1, hq_1⟩ := og (cq := cq) to.1 (oE_10 to.2)
  refine va_callq (va_runV (As := [.int x1]) (rest := []) ⟨hx, hb, hml, hown, hts⟩ (c_X10_agreementAt_c l dC dI s.heap.size cq Z gI o to x1 v fa hR) (cwV 1 hts gX10_died_X10_agreementAt rfl rfl rfl (by decide +kernel) ⟨(Nat.le_of_ble_eq_true rfl), (Nat.le_of_ble_eq_true rfl)⟩) (pr_V (r := (RX10, TX10, 16)) hP hK hD q_1 10 rfl hq_1) rfl rfl hl.1 rfl (lv_room (Nat.le_of_ble_eq_true rfl)) dX10_died_2 ⟨(Nat.le_of_ble_eq_true rfl), (Nat.le_of_ble_eq_true rfl)⟩) hS (fun q _ h => hFc q h) hFc (fun r_3 u t H locs ht hvm w_2 hB hz1 hk1 hS => ?_)
  have hP := pu_keep hP hk1
  clear hk1 hz1 hvm hB ht hFc
  obtain ⟨hk_4, hx_5⟩ := w_2
  rcases r_3 with _ | b_6
  · refine W.eq (g2 := F0 m 5 ls [.null]) rfl ?_
    have hnr_3 := atF_n hx_5
    refine lv_astore_nN (lv' := [(3, .null), (0, .ref o), (1, .int x1), (2, .int x2)]) hx hb dX10_died_5 rfl hl (by decide +kernel) rfl (fun ls hl => ?_)
    refine lv_aload_nN hx hb dX10_died_6 rfl (lv_at hl 0 rfl) ?_
    refine lv_ifnonnullN hx hb dX10_died_7 ?_
    refine lv_aload_n hx hb dX10_died_10 rfl (lv_at hl 1 rfl) ?_
    refine lv_iconst (v := (-1)) hx hb dX10_died_11 (by decide +kernel) ?_
    have hFc := o_free hD hS hA
    refine va_calli (va_runV (As := [.int (-1)]) (rest := []) ⟨hx, hb, hml, hown, hts⟩ (c_X10_refuse_c l dC dI H.size cq Z gI o to (-1) (by decide +kernel)) (cwV 1 hts gX10_died_X10_refuse rfl rfl rfl (by decide +kernel) ⟨(Nat.le_of_ble_eq_true rfl), (Nat.le_of_ble_eq_true rfl)⟩) (pr_V (r := (RX10, TX10, 16)) hP hK hD q_1 10 rfl hq_1) rfl rfl hl.1 rfl (lv_room (Nat.le_of_ble_eq_true rfl)) dX10_died_12 ⟨(Nat.le_of_ble_eq_true rfl), (Nat.le_of_ble_eq_true rfl)⟩) hS (fun q _ h => hFc q h) hFc (fun r_8 u t H locs ht hvm w_7 hB hz1 hk1 hS => ?_)
    obtain ⟨S_9, rfl⟩ : ∃ z, z = u := ⟨_, rfl⟩
    obtain ⟨hP1, hK1, hD1⟩ := hB
    rw [ht] at hP1
    have hP : va_P (dC, dI) vwCl (oW cq S_9) H := hP1
    have hD : va_D A (oW cq S_9) := hD1.weaken (fun _ _ _ h => hFc _ h)
    clear hP1 hK1 hD1 hk1 hz1 hvm ht hFc
    obtain ⟨hIS_9, XS_9, hb_10, hx_11⟩ := w_7
    have X_12 : oX [107, 108, 1007, 2107] Z S_9 := oX.st oX.rf XS_9 (by decide +kernel)
    have g_13 : (oI S_9 o 0).toInt = (oI Z o 0).toInt := by rw [oX.i XS_9 to (by decide +kernel)]
    have g_14 : (oI S_9 o 7).toInt = (oI Z o 7).toInt := by rw [oX.i XS_9 to (by decide +kernel)]
    have rf_15 : r_8.toInt = -1 := by rw [hx_11.1]; decide
    refine W.widen (k := 1) (n := 6) (Nat.le_of_ble_eq_true rfl) (Nat.le_of_ble_eq_true rfl) ?_
    exact W.iret (v := r_8) hx hb hr (fun t ht hW => ⟨⟨r_8, S_9, rfl, ⟨hIS_9, X_12, ⟨by have kc0 : (0 : Int32).toInt = 0 := (by decide +kernel); have kc1 : (1 : Int32).toInt = 1 := (by decide +kernel); have kc2 : (2 : Int32).toInt = 2 := (by decide +kernel); (first | exact Or.inl ⟨by omega, by omega⟩ | (unfold aHo aHp; omega)), (Or.inl ⟨by omega, by rw [hx_11.1]; exact hx_11.2⟩)⟩⟩, ⟨by rw [ht]; exact hP, va_K.moved hW.alike hK, hD⟩⟩, hS.F ht⟩) hS.2.2 dX10_died_15
  · refine W.eq (g2 := F0 m 5 ls [.ref b_6]) rfl ?_
    have tb_6 : oty Z b_6 1 := hk_4 b_6 rfl
    obtain ⟨hjb_6, ejb_6⟩ := atF_s hx_5
    have ljb_6 := ni_lt hjb_6.1 hjb_6.2
    have njb_6 := tn_i hjb_6.1
    have fAb_6 := RC.a hR ljb_6
    rw [← ejb_6] at fAb_6
    obtain ⟨⟨fm1b_6, fm2b_6, fm3b_6⟩, ⟨fv1b_6, fv2b_6, fv3b_6⟩, fsib_6, fppb_6, fwgb_6, frkb_6, fofb_6, fdeb_6, fchb_6⟩ := fAb_6
    have fBb_6 : 0 ≤ (fa 25 x1.toNatClampNeg).toInt ∧ (fa 25 x1.toNatClampNeg).toInt ≤ 3000 := RC.A hR 25 _
    have lamb_6 : (fa 20 x1.toNatClampNeg).toNatClampNeg < (v 39).toNatClampNeg := ni_lt fm1b_6 fm2b_6
    have namb_6 : (((fa 20 x1.toNatClampNeg).toNatClampNeg : Nat) : Int) = (fa 20 x1.toNatClampNeg).toInt := tn_i fm1b_6
    obtain ⟨amb_6, eamb_6⟩ : ∃ z, z = mnA Z o (fa 20 x1.toNatClampNeg).toNatClampNeg := ⟨_, rfl⟩
    rw [← eamb_6] at fm3b_6
    have tamb_6 : oty Z amb_6 6 := by rw [eamb_6]; exact (RC.tm hR gI to lamb_6).2
    have fMamb_6 := RC.m hR lamb_6
    rw [← eamb_6] at fMamb_6
    obtain ⟨fz0amb_6, fz1amb_6, fz2amb_6, fz3amb_6⟩ := fMamb_6
    rw [namb_6] at fz0amb_6
    have lavb_6 : (fa 21 x1.toNatClampNeg).toNatClampNeg < (v 40).toNatClampNeg := ni_lt fv1b_6 fv2b_6
    have navb_6 : (((fa 21 x1.toNatClampNeg).toNatClampNeg : Nat) : Int) = (fa 21 x1.toNatClampNeg).toInt := tn_i fv1b_6
    obtain ⟨avb_6, eavb_6⟩ : ∃ z, z = voA Z o (fa 21 x1.toNatClampNeg).toNatClampNeg := ⟨_, rfl⟩
    rw [← eavb_6] at fv3b_6
    have tavb_6 : oty Z avb_6 9 := by rw [eavb_6]; exact (RC.tv hR gI to lavb_6).2
    have fVavb_6 := RC.vo hR lavb_6
    rw [← eavb_6] at fVavb_6
    obtain ⟨fy0avb_6, fy1avb_6, fy2avb_6, fy3avb_6, fy4avb_6, fySavb_6, fyLavb_6, fyhavb_6⟩ := fVavb_6
    have fBavb_6 : 0 ≤ (fa 7 ((fa 21 x1.toNatClampNeg).toNatClampNeg)).toInt ∧ (fa 7 ((fa 21 x1.toNatClampNeg).toNatClampNeg)).toInt ≤ 3000 := RC.A hR 7 _
    have fSavb_6 := onc_i fySavb_6
    have fLavb_6 := onc_i fyLavb_6
    rw [navb_6] at fy0avb_6 fSavb_6 fLavb_6
    refine lv_astore_n (lv' := [(3, .ref b_6), (0, .ref o), (1, .int x1), (2, .int x2)]) hx hb dX10_died_5 rfl hl (by decide +kernel) rfl (fun ls hl => ?_)
    refine lv_aload_n hx hb dX10_died_6 rfl (lv_at hl 0 rfl) ?_
    refine lv_ifnonnull (tgt := 16) hx hb dX10_died_7 (by decide +kernel) ?_
    refine lv_aload_n hx hb dX10_died_16 rfl (lv_at hl 1 rfl) ?_
    refine lv_aload_n hx hb dX10_died_17 rfl (lv_at hl 0 rfl) ?_
    refine lv_iload_n hx hb dX10_died_18 rfl (lv_at hl 3 rfl) ?_
    have hFc : ∀ q, va_A [] H.size q → A q := pu_free hS hA
    refine va_calli (va_runV (As := [.ref b_6, .int x2]) (rest := []) ⟨hx, hb, hml, hown, hts⟩ (c_X10_tidingRefusal_c l dC dI H.size cq Z gI o to b_6 tb_6 x2) (cwV 2 hts gX10_died_X10_tidingRefusal rfl rfl rfl (by decide +kernel) ⟨(Nat.le_of_ble_eq_true rfl), (Nat.le_of_ble_eq_true rfl)⟩) (pr_V (r := (RX10, TX10, 16)) hP hK hD q_1 10 rfl hq_1) rfl rfl hl.1 rfl (lv_room (Nat.le_of_ble_eq_true rfl)) dX10_died_19 ⟨(Nat.le_of_ble_eq_true rfl), (Nat.le_of_ble_eq_true rfl)⟩) hS (fun q _ h => hFc q h) hFc (fun r_17 u t H locs ht hvm w_16 hB hz1 hk1 hS => ?_)
    have hP := pu_keep hP hk1
    clear hk1 hz1 hvm hB ht hFc
    obtain ⟨hb_18, hx_19⟩ := w_16
    have uN_20 := hx_19
    unfold tRf at uN_20
    refine lv_istore (lv' := [(4, .int r_17), (3, .ref b_6), (0, .ref o), (1, .int x1), (2, .int x2)]) hx hb dX10_died_22 hl (by decide +kernel) rfl (fun ls hl => ?_)
    refine lv_iload hx hb dX10_died_24 (lv_at hl 0 rfl) ?_
    refine lv_if_eq (tgt := 36) hx hb dX10_died_26 (by decide +kernel) (fun c_21 => ?_) (fun c_21 => ?_)
    · have dc_21 := c_eq (a := r_17.toInt) (b := 0) rfl (by decide +kernel) c_21
      refine lv_aload_n hx hb dX10_died_36 rfl (lv_at hl 1 rfl) ?_
      refine lv_iconst (v := 1) hx hb dX10_died_37 (by decide +kernel) ?_
      obtain ⟨q_22, hq_22⟩ := og (cq := cq) tb_6.1 (oE_1 tb_6.2)
      refine va_put (D := (dC, dI)) (ci := 1) (v := .int 1) (ty := .boolean) (C := RX1) (T := TX1) (N := 18) hx hb hts in_wsX10_died_X1 tyX1 tyX1_ok nmX1 hown hK hP hD hS q_22 hq_22 rfl 7 (by decide +kernel) (hts (.fieldLink RX10 166 "ShipOffice$Agreement" "isDead" "Z") iw_X10_died_1) (fun _ h9 => h9) rfl (by decide +kernel) rfl rfl (Nat.le_of_ble_eq_true rfl) dX10_died_38 (fun H locs hP1 hD1 hS => ?_)
      obtain ⟨S_23, eS_23⟩ : ∃ zq, zq = setI Z b_6 7 1 := ⟨_, rfl⟩
      have hP : va_P (dC, dI) vwCl (oW cq S_23) H := by rw [eS_23]; exact cP (oset tb_6.1 hq_22 hD rfl (he_1_7 tb_6.2) neI) hP1
      have hD : va_D A (oW cq S_23) := by rw [eS_23]; exact cD (oset tb_6.1 hq_22 hD rfl (he_1_7 tb_6.2) neI) hD1
      clear hP1 hD1
      have hIS_23 : oInv S_23 := by rw [eS_23]; exact oInv.I0 (k := 1) (lo := -2147483648) (hi := 2147483647) gI tb_6.2 (by decide +kernel) rfl rfl rfl (iv_all _)
      have XS_23 : oX [107] Z S_23 := by rw [eS_23]; exact oX.I (k := 1) (key := 107) tb_6.2 rfl (List.mem_singleton.mpr rfl)
      have pk_24 : oP S_23 b_6 0 = some amb_6 := by rw [eS_23]; exact fm3b_6
      have pk_25 : oP S_23 b_6 1 = some avb_6 := by rw [eS_23]; exact fv3b_6
      have X_26 : oX [107, 108, 1007, 2107] Z S_23 := oX.st oX.rf XS_23 (by decide +kernel)
      have g_27 : (oI S_23 o 0).toInt = (oI Z o 0).toInt := by rw [eS_23, setI_oth (ty_ne to tb_6 (by decide +kernel))]
      have g_28 : (oI S_23 o 7).toInt = (oI Z o 7).toInt := by rw [eS_23, setI_oth (ty_ne to tb_6 (by decide +kernel))]
      refine lv_aload_n hx hb dX10_died_41 rfl (lv_at hl 2 rfl) ?_
      refine lv_aload_n hx hb dX10_died_42 rfl (lv_at hl 1 rfl) ?_
      refine lv_iconst (v := 2) hx hb dX10_died_43 (by decide +kernel) ?_
      refine lv_iload_n hx hb dX10_died_44 rfl (lv_at hl 4 rfl) ?_
      refine lv_bipush (v := (-9)) hx hb dX10_died_45 (by decide +kernel) ?_
      refine lv_bipush (v := (-9)) hx hb dX10_died_47 (by decide +kernel) ?_
      have t_29 : oty S_23 o 10 := (oX.ty XS_23 to)
      have t_30 : oty S_23 b_6 1 := (oX.ty XS_23 tb_6)
      have hFc := o_free hD hS hA
      obtain ⟨q_31, hq_31⟩ := og (cq := cq) t_29.1 (oE_10 t_29.2)
      refine va_calli (va_runV (As := [.ref b_6, .int 2, .int x2, .int (-9), .int (-9)]) (rest := []) ⟨hx, hb, hml, hown, hts⟩ (c_X10_addTiding_c l dC dI H.size cq S_23 hIS_23 o t_29 b_6 t_30 2 x2 (-9) (-9) (Or.inl (by decide +kernel)) (by omega)) (cwV 5 hts gX10_died_X10_addTiding rfl rfl rfl (by decide +kernel) ⟨(Nat.le_of_ble_eq_true rfl), (Nat.le_of_ble_eq_true rfl)⟩) (pr_V (r := (RX10, TX10, 16)) hP hK hD q_31 10 rfl hq_31) rfl rfl hl.1 rfl (lv_room (Nat.le_of_ble_eq_true rfl)) dX10_died_49 ⟨(Nat.le_of_ble_eq_true rfl), (Nat.le_of_ble_eq_true rfl)⟩) hS (fun q _ h => hFc q h) hFc (fun r_33 u t H locs ht hvm w_32 hB hz1 hk1 hS => ?_)
      obtain ⟨S_34, rfl⟩ : ∃ z, z = u := ⟨_, rfl⟩
      obtain ⟨hP1, hK1, hD1⟩ := hB
      rw [ht] at hP1
      have hP : va_P (dC, dI) vwCl (oW cq S_34) H := hP1
      have hD : va_D A (oW cq S_34) := hD1.weaken (fun _ _ _ h => hFc _ h)
      clear hP1 hK1 hD1 hk1 hz1 hvm ht hFc
      refine W.widen (k := 1) (n := 6) (Nat.le_of_ble_eq_true rfl) (Nat.le_of_ble_eq_true rfl) ?_
      obtain ⟨hIS_34, XS_34, hx_35⟩ := w_32
      have X_36 : oX [107, 108, 1007, 2107] Z S_34 := oX.st X_26 XS_34 (by decide +kernel)
      have g_37 : (oI S_34 o 0).toInt = (oI S_23 o 0).toInt := by rw [oX.i XS_34 t_29 (by decide +kernel)]
      have pk_38 : oP S_34 b_6 0 = some amb_6 := by rw [oX.p XS_34 t_30 (by decide +kernel)]; exact pk_24
      have pk_39 : oP S_34 b_6 1 = some avb_6 := by rw [oX.p XS_34 t_30 (by decide +kernel)]; exact pk_25
      exact W.iret (v := r_33) hx hb hr (fun t ht hW => ⟨⟨r_33, S_34, rfl, ⟨hIS_34, X_36, ⟨by try clear fppb_6; try clear fSavb_6; try clear fLavb_6; try clear fy4avb_6; have kc0 : (0 : Int32).toInt = 0 := (by decide +kernel); have kc1 : (1 : Int32).toInt = 1 := (by decide +kernel); have kc2 : (2 : Int32).toInt = 2 := (by decide +kernel); have hq_ := hx_19; unfold tRf at hq_; obtain ⟨_, _, _, _, _, _, h9_, _⟩ := hx_35; rcases hq_ with hq_ | hq_ | hq_ | hq_; (first | (exfalso; omega) | (unfold aHo aHp; omega)); (first | (exfalso; omega) | (unfold aHo aHp; omega)); (first | (exfalso; omega) | (unfold aHo aHp; omega)); (first | exact Or.inr (Or.inr (⟨by omega, by omega, Or.inr (Or.inr (⟨by omega, by omega, by omega, by omega⟩))⟩)) | (unfold aHo aHp; omega)), Or.inr ⟨by try clear fppb_6; try clear fSavb_6; try clear fLavb_6; try clear fy4avb_6; have kc0 : (0 : Int32).toInt = 0 := (by decide +kernel); have kc1 : (1 : Int32).toInt = 1 := (by decide +kernel); have kc2 : (2 : Int32).toInt = 2 := (by decide +kernel); have hq_ := hx_19; unfold tRf at hq_; obtain ⟨_, _, _, _, _, _, h9_, _⟩ := hx_35; omega, (by rw [← ejb_6, ← eS_23]; exact hx_35)⟩⟩⟩, ⟨by rw [ht]; exact hP, va_K.moved hW.alike hK, hD⟩⟩, hS.F ht⟩) hS.2.2 dX10_died_52
    · have dc_21 := c_ne (a := r_17.toInt) (b := 0) rfl (by decide +kernel) c_21
      refine lv_aload_n hx hb dX10_died_29 rfl (lv_at hl 2 rfl) ?_
      refine lv_iload hx hb dX10_died_30 (lv_at hl 0 rfl) ?_
      have hFc := o_free hD hS hA
      refine va_calli (va_runV (As := [.int r_17]) (rest := []) ⟨hx, hb, hml, hown, hts⟩ (c_X10_refuse_c l dC dI H.size cq Z gI o to r_17 (by omega)) (cwV 1 hts gX10_died_X10_refuse rfl rfl rfl (by decide +kernel) ⟨(Nat.le_of_ble_eq_true rfl), (Nat.le_of_ble_eq_true rfl)⟩) (pr_V (r := (RX10, TX10, 16)) hP hK hD q_1 10 rfl hq_1) rfl rfl hl.1 rfl (lv_room (Nat.le_of_ble_eq_true rfl)) dX10_died_32 ⟨(Nat.le_of_ble_eq_true rfl), (Nat.le_of_ble_eq_true rfl)⟩) hS (fun q _ h => hFc q h) hFc (fun r_41 u t H locs ht hvm w_40 hB hz1 hk1 hS => ?_)
      obtain ⟨S_42, rfl⟩ : ∃ z, z = u := ⟨_, rfl⟩
      obtain ⟨hP1, hK1, hD1⟩ := hB
      rw [ht] at hP1
      have hP : va_P (dC, dI) vwCl (oW cq S_42) H := hP1
      have hD : va_D A (oW cq S_42) := hD1.weaken (fun _ _ _ h => hFc _ h)
      clear hP1 hK1 hD1 hk1 hz1 hvm ht hFc
      obtain ⟨hIS_42, XS_42, hb_43, hx_44⟩ := w_40
      have X_45 : oX [107, 108, 1007, 2107] Z S_42 := oX.st oX.rf XS_42 (by decide +kernel)
      have g_46 : (oI S_42 o 0).toInt = (oI Z o 0).toInt := by rw [oX.i XS_42 to (by decide +kernel)]
      have g_47 : (oI S_42 o 7).toInt = (oI Z o 7).toInt := by rw [oX.i XS_42 to (by decide +kernel)]
      have pk_48 : oP S_42 b_6 0 = some amb_6 := by rw [oX.p XS_42 tb_6 (by decide +kernel)]; exact fm3b_6
      have pk_49 : oP S_42 b_6 1 = some avb_6 := by rw [oX.p XS_42 tb_6 (by decide +kernel)]; exact fv3b_6
      have rf_50 : r_41.toInt = r_17.toInt := by rw [hx_44.1]
      refine W.widen (k := 1) (n := 6) (Nat.le_of_ble_eq_true rfl) (Nat.le_of_ble_eq_true rfl) ?_
      exact W.iret (v := r_41) hx hb hr (fun t ht hW => ⟨⟨r_41, S_42, rfl, ⟨hIS_42, X_45, ⟨by try clear fppb_6; try clear fSavb_6; try clear fLavb_6; try clear fy4avb_6; have kc0 : (0 : Int32).toInt = 0 := (by decide +kernel); have kc1 : (1 : Int32).toInt = 1 := (by decide +kernel); have kc2 : (2 : Int32).toInt = 2 := (by decide +kernel); have hq_ := hx_19; unfold tRf at hq_; rcases hq_ with hq_ | hq_ | hq_ | hq_; (first | exact Or.inr (Or.inl ⟨by omega, by omega, by omega⟩) | (unfold aHo aHp; omega)); (first | exact Or.inr (Or.inr (⟨by omega, by omega, Or.inl ⟨by omega, by omega⟩⟩)) | (unfold aHo aHp; omega)); (first | exact Or.inr (Or.inr (⟨by omega, by omega, Or.inr (Or.inl ⟨by omega, by omega, by omega⟩)⟩)) | (unfold aHo aHp; omega)); (first | (exfalso; omega) | (unfold aHo aHp; omega)), (Or.inl ⟨by omega, by rw [hx_44.1]; exact hx_44.2⟩)⟩⟩, ⟨by rw [ht]; exact hP, va_K.moved hW.alike hK, hD⟩⟩, hS.F ht⟩) hS.2.2 dX10_died_35
set_option maxHeartbeats 4000000 in
set_option maxRecDepth 100000 in
theorem c_X10_back_c (l : Launch) (dC : Nat → ClassId) (dI : Nat → Nat → Nat) (sz : Nat) (cq : Nat → ClassId) (Z : oS) (gI : oInv Z) (o : Nat) (to : oty Z o 10) (x1 : Int32) (x2 : Int32) (v : Nat → Int32) (fa : Nat → Nat → Int32) (hR : RC Z o v fa) : Met l yX10_back wsX10_back ({ frames := 3, cells := 1, slots := 6, locals := 65 }) (va_Pc [.ref o, .int x1, .int x2] (pcW (dC, dI) (oT cq) (oW cq Z) sz)) (va_Qi (fun (r : Int32) (u : oS) => oInv u ∧ oX [108, 1007, 2107] Z u ∧ (aHo x1.toInt (v 43).toInt (fa 26 x1.toNatClampNeg).toInt (fa 25 x1.toNatClampNeg).toInt x2.toInt (v 38).toInt (v 41).toInt r.toInt ∧ rOo Z o u r (hapO Z o (agA Z o x1.toNatClampNeg) 8 1 x2 (-9) (-9) r u))) (fun u t => va_P (dC, dI) vwCl (oW cq u) t.heap ∧ va_K (dC, dI) vwCl (oT cq) t ∧ va_D (va_A (oW cq Z) sz) (oW cq u)) (va_A (oW cq Z) sz)) 1 6 (va_A (oW cq Z) sz) := by
  refine Met.ofW (cc := cX10_back) (maxL := 5) (ret := (some .int)) (by decide +kernel) rfl ?_
  intro p e s m args below meth c s₁ B hml hv
  obtain ⟨rfl, hsz, hP, hK, hD0⟩ := hv
  have hx := B.exec
  have hb := B.bytes
  have hr := B.returns
  have hts := atoms_spec (ws := wsX10_back) B.pre
  have hown : s.vm.findClass RX10 = some m.cls := findClass_of_methodNamed B.named
  have hlocks := B.notSynchronized
  subst hsz
  have hD := hD0.self (sz := s.heap.size)
  generalize hAe : va_A (oW cq Z) s.heap.size = A at hD ⊢
  have hA : ∀ q : Nat, s.heap.size ≤ q → A q := fun q h => by rw [← hAe]; exact Or.inr h
  have hS : va_S A s.heap s.heap [] := va_S.rf
  have hP : va_P (dC, dI) vwCl (oW cq Z) s.heap := hP
  have hl := lv_entry ([.ref o, .int x1, .int x2]) (n := 5) (Nat.le_of_ble_eq_true rfl)
  rw [lg_entry_eq]
  generalize (lg_sl ([.ref o, .int x1, .int x2]) ++ List.replicate (5 - (lg_sl ([.ref o, .int x1, .int x2])).length) Slot.unset).toArray = ls at hl ⊢
  have hl : lv_has ls 5 [(0, .ref o), (1, .int x1), (2, .int x2)] := hl
  obtain ⟨fn0, fn1, fn2, fn3, fn4⟩ := RC.n hR
  have fb38 : 0 ≤ (v 38).toInt ∧ (v 38).toInt ≤ 3000 := RC.V hR 38
  have fb39 : 0 ≤ (v 39).toInt ∧ (v 39).toInt ≤ 40 := RC.V hR 39
  have fb40 : 0 ≤ (v 40).toInt ∧ (v 40).toInt ≤ 20 := RC.V hR 40
  have fb43 : 0 ≤ (v 43).toInt ∧ (v 43).toInt ≤ 60 := RC.V hR 43
  have fb41 : 0 ≤ (v 41).toInt ∧ (v 41).toInt ≤ 200 := RC.V hR 41
  refine lv_aload_n hx hb dX10_back_0 rfl (lv_at hl 0 rfl) ?_
  refine lv_iload_n hx hb dX10_back_1 rfl (lv_at hl 1 rfl) ?_
  have hFc : ∀ q, va_A [] s.heap.size q → A q := pu_free hS hA
  obtain ⟨q_1, hq_1⟩ := og (cq := cq) to.1 (oE_10 to.2)
  refine va_callq (va_runV (As := [.int x1]) (rest := []) ⟨hx, hb, hml, hown, hts⟩ (c_X10_agreementAt_c l dC dI s.heap.size cq Z gI o to x1 v fa hR) (cwV 1 hts gX10_back_X10_agreementAt rfl rfl rfl (by decide +kernel) ⟨(Nat.le_of_ble_eq_true rfl), (Nat.le_of_ble_eq_true rfl)⟩) (pr_V (r := (RX10, TX10, 16)) hP hK hD q_1 10 rfl hq_1) rfl rfl hl.1 rfl (lv_room (Nat.le_of_ble_eq_true rfl)) dX10_back_2 ⟨(Nat.le_of_ble_eq_true rfl), (Nat.le_of_ble_eq_true rfl)⟩) hS (fun q _ h => hFc q h) hFc (fun r_3 u t H locs ht hvm w_2 hB hz1 hk1 hS => ?_)
  have hP := pu_keep hP hk1
  clear hk1 hz1 hvm hB ht hFc
  obtain ⟨hk_4, hx_5⟩ := w_2
  rcases r_3 with _ | b_6
  · refine W.eq (g2 := F0 m 5 ls [.null]) rfl ?_
    have hnr_3 := atF_n hx_5
    refine lv_astore_nN (lv' := [(3, .null), (0, .ref o), (1, .int x1), (2, .int x2)]) hx hb dX10_back_5 rfl hl (by decide +kernel) rfl (fun ls hl => ?_)
    refine lv_aload_nN hx hb dX10_back_6 rfl (lv_at hl 0 rfl) ?_
    refine lv_ifnonnullN hx hb dX10_back_7 ?_
    refine lv_aload_n hx hb dX10_back_10 rfl (lv_at hl 1 rfl) ?_
    refine lv_iconst (v := (-1)) hx hb dX10_back_11 (by decide +kernel) ?_
    have hFc := o_free hD hS hA
    refine va_calli (va_runV (As := [.int (-1)]) (rest := []) ⟨hx, hb, hml, hown, hts⟩ (c_X10_refuse_c l dC dI H.size cq Z gI o to (-1) (by decide +kernel)) (cwV 1 hts gX10_back_X10_refuse rfl rfl rfl (by decide +kernel) ⟨(Nat.le_of_ble_eq_true rfl), (Nat.le_of_ble_eq_true rfl)⟩) (pr_V (r := (RX10, TX10, 16)) hP hK hD q_1 10 rfl hq_1) rfl rfl hl.1 rfl (lv_room (Nat.le_of_ble_eq_true rfl)) dX10_back_12 ⟨(Nat.le_of_ble_eq_true rfl), (Nat.le_of_ble_eq_true rfl)⟩) hS (fun q _ h => hFc q h) hFc (fun r_8 u t H locs ht hvm w_7 hB hz1 hk1 hS => ?_)
    obtain ⟨S_9, rfl⟩ : ∃ z, z = u := ⟨_, rfl⟩
    obtain ⟨hP1, hK1, hD1⟩ := hB
    rw [ht] at hP1
    have hP : va_P (dC, dI) vwCl (oW cq S_9) H := hP1
    have hD : va_D A (oW cq S_9) := hD1.weaken (fun _ _ _ h => hFc _ h)
    clear hP1 hK1 hD1 hk1 hz1 hvm ht hFc
    obtain ⟨hIS_9, XS_9, hb_10, hx_11⟩ := w_7
    have X_12 : oX [108, 1007, 2107] Z S_9 := oX.st oX.rf XS_9 (by decide +kernel)
    have g_13 : (oI S_9 o 0).toInt = (oI Z o 0).toInt := by rw [oX.i XS_9 to (by decide +kernel)]
    have g_14 : (oI S_9 o 7).toInt = (oI Z o 7).toInt := by rw [oX.i XS_9 to (by decide +kernel)]
    have rf_15 : r_8.toInt = -1 := by rw [hx_11.1]; decide
    refine W.widen (k := 1) (n := 6) (Nat.le_of_ble_eq_true rfl) (Nat.le_of_ble_eq_true rfl) ?_
    exact W.iret (v := r_8) hx hb hr (fun t ht hW => ⟨⟨r_8, S_9, rfl, ⟨hIS_9, X_12, ⟨by have kc0 : (0 : Int32).toInt = 0 := (by decide +kernel); have kc1 : (1 : Int32).toInt = 1 := (by decide +kernel); have kc2 : (2 : Int32).toInt = 2 := (by decide +kernel); (first | exact Or.inl ⟨by omega, by omega⟩ | (unfold aHo aHp; omega)), (Or.inl ⟨by omega, by rw [hx_11.1]; exact hx_11.2⟩)⟩⟩, ⟨by rw [ht]; exact hP, va_K.moved hW.alike hK, hD⟩⟩, hS.F ht⟩) hS.2.2 dX10_back_15
  · refine W.eq (g2 := F0 m 5 ls [.ref b_6]) rfl ?_
    have tb_6 : oty Z b_6 1 := hk_4 b_6 rfl
    obtain ⟨hjb_6, ejb_6⟩ := atF_s hx_5
    have ljb_6 := ni_lt hjb_6.1 hjb_6.2
    have njb_6 := tn_i hjb_6.1
    have fAb_6 := RC.a hR ljb_6
    rw [← ejb_6] at fAb_6
    obtain ⟨⟨fm1b_6, fm2b_6, fm3b_6⟩, ⟨fv1b_6, fv2b_6, fv3b_6⟩, fsib_6, fppb_6, fwgb_6, frkb_6, fofb_6, fdeb_6, fchb_6⟩ := fAb_6
    have fBb_6 : 0 ≤ (fa 25 x1.toNatClampNeg).toInt ∧ (fa 25 x1.toNatClampNeg).toInt ≤ 3000 := RC.A hR 25 _
    have lamb_6 : (fa 20 x1.toNatClampNeg).toNatClampNeg < (v 39).toNatClampNeg := ni_lt fm1b_6 fm2b_6
    have namb_6 : (((fa 20 x1.toNatClampNeg).toNatClampNeg : Nat) : Int) = (fa 20 x1.toNatClampNeg).toInt := tn_i fm1b_6
    obtain ⟨amb_6, eamb_6⟩ : ∃ z, z = mnA Z o (fa 20 x1.toNatClampNeg).toNatClampNeg := ⟨_, rfl⟩
    rw [← eamb_6] at fm3b_6
    have tamb_6 : oty Z amb_6 6 := by rw [eamb_6]; exact (RC.tm hR gI to lamb_6).2
    have fMamb_6 := RC.m hR lamb_6
    rw [← eamb_6] at fMamb_6
    obtain ⟨fz0amb_6, fz1amb_6, fz2amb_6, fz3amb_6⟩ := fMamb_6
    rw [namb_6] at fz0amb_6
    have lavb_6 : (fa 21 x1.toNatClampNeg).toNatClampNeg < (v 40).toNatClampNeg := ni_lt fv1b_6 fv2b_6
    have navb_6 : (((fa 21 x1.toNatClampNeg).toNatClampNeg : Nat) : Int) = (fa 21 x1.toNatClampNeg).toInt := tn_i fv1b_6
    obtain ⟨avb_6, eavb_6⟩ : ∃ z, z = voA Z o (fa 21 x1.toNatClampNeg).toNatClampNeg := ⟨_, rfl⟩
    rw [← eavb_6] at fv3b_6
    have tavb_6 : oty Z avb_6 9 := by rw [eavb_6]; exact (RC.tv hR gI to lavb_6).2
    have fVavb_6 := RC.vo hR lavb_6
    rw [← eavb_6] at fVavb_6
    obtain ⟨fy0avb_6, fy1avb_6, fy2avb_6, fy3avb_6, fy4avb_6, fySavb_6, fyLavb_6, fyhavb_6⟩ := fVavb_6
    have fBavb_6 : 0 ≤ (fa 7 ((fa 21 x1.toNatClampNeg).toNatClampNeg)).toInt ∧ (fa 7 ((fa 21 x1.toNatClampNeg).toNatClampNeg)).toInt ≤ 3000 := RC.A hR 7 _
    have fSavb_6 := onc_i fySavb_6
    have fLavb_6 := onc_i fyLavb_6
    rw [navb_6] at fy0avb_6 fSavb_6 fLavb_6
    refine lv_astore_n (lv' := [(3, .ref b_6), (0, .ref o), (1, .int x1), (2, .int x2)]) hx hb dX10_back_5 rfl hl (by decide +kernel) rfl (fun ls hl => ?_)
    refine lv_aload_n hx hb dX10_back_6 rfl (lv_at hl 0 rfl) ?_
    refine lv_ifnonnull (tgt := 16) hx hb dX10_back_7 (by decide +kernel) ?_
    refine lv_aload_n hx hb dX10_back_16 rfl (lv_at hl 1 rfl) ?_
    refine lv_aload_n hx hb dX10_back_17 rfl (lv_at hl 0 rfl) ?_
    refine lv_iload_n hx hb dX10_back_18 rfl (lv_at hl 3 rfl) ?_
    have hFc : ∀ q, va_A [] H.size q → A q := pu_free hS hA
    refine va_calli (va_runV (As := [.ref b_6, .int x2]) (rest := []) ⟨hx, hb, hml, hown, hts⟩ (c_X10_tidingRefusal_c l dC dI H.size cq Z gI o to b_6 tb_6 x2) (cwV 2 hts gX10_back_X10_tidingRefusal rfl rfl rfl (by decide +kernel) ⟨(Nat.le_of_ble_eq_true rfl), (Nat.le_of_ble_eq_true rfl)⟩) (pr_V (r := (RX10, TX10, 16)) hP hK hD q_1 10 rfl hq_1) rfl rfl hl.1 rfl (lv_room (Nat.le_of_ble_eq_true rfl)) dX10_back_19 ⟨(Nat.le_of_ble_eq_true rfl), (Nat.le_of_ble_eq_true rfl)⟩) hS (fun q _ h => hFc q h) hFc (fun r_17 u t H locs ht hvm w_16 hB hz1 hk1 hS => ?_)
    have hP := pu_keep hP hk1
    clear hk1 hz1 hvm hB ht hFc
    obtain ⟨hb_18, hx_19⟩ := w_16
    have uN_20 := hx_19
    unfold tRf at uN_20
    refine lv_istore (lv' := [(4, .int r_17), (3, .ref b_6), (0, .ref o), (1, .int x1), (2, .int x2)]) hx hb dX10_back_22 hl (by decide +kernel) rfl (fun ls hl => ?_)
    refine lv_iload hx hb dX10_back_24 (lv_at hl 0 rfl) ?_
    refine lv_if_eq (tgt := 36) hx hb dX10_back_26 (by decide +kernel) (fun c_21 => ?_) (fun c_21 => ?_)
    · have dc_21 := c_eq (a := r_17.toInt) (b := 0) rfl (by decide +kernel) c_21
      refine lv_aload_n hx hb dX10_back_36 rfl (lv_at hl 2 rfl) ?_
      refine lv_aload_n hx hb dX10_back_37 rfl (lv_at hl 1 rfl) ?_
      refine lv_iconst (v := 1) hx hb dX10_back_38 (by decide +kernel) ?_
      refine lv_iload_n hx hb dX10_back_39 rfl (lv_at hl 4 rfl) ?_
      refine lv_bipush (v := (-9)) hx hb dX10_back_40 (by decide +kernel) ?_
      refine lv_bipush (v := (-9)) hx hb dX10_back_42 (by decide +kernel) ?_
      have hFc := o_free hD hS hA
      refine va_calli (va_runV (As := [.ref b_6, .int 1, .int x2, .int (-9), .int (-9)]) (rest := []) ⟨hx, hb, hml, hown, hts⟩ (c_X10_addTiding_c l dC dI H.size cq Z gI o to b_6 tb_6 1 x2 (-9) (-9) (Or.inl (by decide +kernel)) (by omega)) (cwV 5 hts gX10_back_X10_addTiding rfl rfl rfl (by decide +kernel) ⟨(Nat.le_of_ble_eq_true rfl), (Nat.le_of_ble_eq_true rfl)⟩) (pr_V (r := (RX10, TX10, 16)) hP hK hD q_1 10 rfl hq_1) rfl rfl hl.1 rfl (lv_room (Nat.le_of_ble_eq_true rfl)) dX10_back_44 ⟨(Nat.le_of_ble_eq_true rfl), (Nat.le_of_ble_eq_true rfl)⟩) hS (fun q _ h => hFc q h) hFc (fun r_23 u t H locs ht hvm w_22 hB hz1 hk1 hS => ?_)
      obtain ⟨S_24, rfl⟩ : ∃ z, z = u := ⟨_, rfl⟩
      obtain ⟨hP1, hK1, hD1⟩ := hB
      rw [ht] at hP1
      have hP : va_P (dC, dI) vwCl (oW cq S_24) H := hP1
      have hD : va_D A (oW cq S_24) := hD1.weaken (fun _ _ _ h => hFc _ h)
      clear hP1 hK1 hD1 hk1 hz1 hvm ht hFc
      refine W.widen (k := 1) (n := 6) (Nat.le_of_ble_eq_true rfl) (Nat.le_of_ble_eq_true rfl) ?_
      obtain ⟨hIS_24, XS_24, hx_25⟩ := w_22
      have X_26 : oX [108, 1007, 2107] Z S_24 := oX.st oX.rf XS_24 (by decide +kernel)
      have g_27 : (oI S_24 o 0).toInt = (oI Z o 0).toInt := by rw [oX.i XS_24 to (by decide +kernel)]
      have pk_28 : oP S_24 b_6 0 = some amb_6 := by rw [oX.p XS_24 tb_6 (by decide +kernel)]; exact fm3b_6
      have pk_29 : oP S_24 b_6 1 = some avb_6 := by rw [oX.p XS_24 tb_6 (by decide +kernel)]; exact fv3b_6
      exact W.iret (v := r_23) hx hb hr (fun t ht hW => ⟨⟨r_23, S_24, rfl, ⟨hIS_24, X_26, ⟨by try clear fppb_6; try clear fSavb_6; try clear fLavb_6; try clear fy4avb_6; have kc0 : (0 : Int32).toInt = 0 := (by decide +kernel); have kc1 : (1 : Int32).toInt = 1 := (by decide +kernel); have kc2 : (2 : Int32).toInt = 2 := (by decide +kernel); have hq_ := hx_19; unfold tRf at hq_; obtain ⟨_, _, _, _, _, _, h9_, _⟩ := hx_25; rcases hq_ with hq_ | hq_ | hq_ | hq_; (first | (exfalso; omega) | (unfold aHo aHp; omega)); (first | (exfalso; omega) | (unfold aHo aHp; omega)); (first | (exfalso; omega) | (unfold aHo aHp; omega)); (first | exact Or.inr (Or.inr (⟨by omega, by omega, Or.inr (Or.inr (⟨by omega, by omega, by omega, by omega⟩))⟩)) | (unfold aHo aHp; omega)), Or.inr ⟨by try clear fppb_6; try clear fSavb_6; try clear fLavb_6; try clear fy4avb_6; have kc0 : (0 : Int32).toInt = 0 := (by decide +kernel); have kc1 : (1 : Int32).toInt = 1 := (by decide +kernel); have kc2 : (2 : Int32).toInt = 2 := (by decide +kernel); have hq_ := hx_19; unfold tRf at hq_; obtain ⟨_, _, _, _, _, _, h9_, _⟩ := hx_25; omega, (by rw [← ejb_6]; exact hx_25)⟩⟩⟩, ⟨by rw [ht]; exact hP, va_K.moved hW.alike hK, hD⟩⟩, hS.F ht⟩) hS.2.2 dX10_back_47
    · have dc_21 := c_ne (a := r_17.toInt) (b := 0) rfl (by decide +kernel) c_21
      refine lv_aload_n hx hb dX10_back_29 rfl (lv_at hl 2 rfl) ?_
      refine lv_iload hx hb dX10_back_30 (lv_at hl 0 rfl) ?_
      have hFc := o_free hD hS hA
      refine va_calli (va_runV (As := [.int r_17]) (rest := []) ⟨hx, hb, hml, hown, hts⟩ (c_X10_refuse_c l dC dI H.size cq Z gI o to r_17 (by omega)) (cwV 1 hts gX10_back_X10_refuse rfl rfl rfl (by decide +kernel) ⟨(Nat.le_of_ble_eq_true rfl), (Nat.le_of_ble_eq_true rfl)⟩) (pr_V (r := (RX10, TX10, 16)) hP hK hD q_1 10 rfl hq_1) rfl rfl hl.1 rfl (lv_room (Nat.le_of_ble_eq_true rfl)) dX10_back_32 ⟨(Nat.le_of_ble_eq_true rfl), (Nat.le_of_ble_eq_true rfl)⟩) hS (fun q _ h => hFc q h) hFc (fun r_31 u t H locs ht hvm w_30 hB hz1 hk1 hS => ?_)
      obtain ⟨S_32, rfl⟩ : ∃ z, z = u := ⟨_, rfl⟩
      obtain ⟨hP1, hK1, hD1⟩ := hB
      rw [ht] at hP1
      have hP : va_P (dC, dI) vwCl (oW cq S_32) H := hP1
      have hD : va_D A (oW cq S_32) := hD1.weaken (fun _ _ _ h => hFc _ h)
      clear hP1 hK1 hD1 hk1 hz1 hvm ht hFc
      obtain ⟨hIS_32, XS_32, hb_33, hx_34⟩ := w_30
      have X_35 : oX [108, 1007, 2107] Z S_32 := oX.st oX.rf XS_32 (by decide +kernel)
      have g_36 : (oI S_32 o 0).toInt = (oI Z o 0).toInt := by rw [oX.i XS_32 to (by decide +kernel)]
      have g_37 : (oI S_32 o 7).toInt = (oI Z o 7).toInt := by rw [oX.i XS_32 to (by decide +kernel)]
      have pk_38 : oP S_32 b_6 0 = some amb_6 := by rw [oX.p XS_32 tb_6 (by decide +kernel)]; exact fm3b_6
      have pk_39 : oP S_32 b_6 1 = some avb_6 := by rw [oX.p XS_32 tb_6 (by decide +kernel)]; exact fv3b_6
      have rf_40 : r_31.toInt = r_17.toInt := by rw [hx_34.1]
      refine W.widen (k := 1) (n := 6) (Nat.le_of_ble_eq_true rfl) (Nat.le_of_ble_eq_true rfl) ?_
      exact W.iret (v := r_31) hx hb hr (fun t ht hW => ⟨⟨r_31, S_32, rfl, ⟨hIS_32, X_35, ⟨by try clear fppb_6; try clear fSavb_6; try clear fLavb_6; try clear fy4avb_6; have kc0 : (0 : Int32).toInt = 0 := (by decide +kernel); have kc1 : (1 : Int32).toInt = 1 := (by decide +kernel); have kc2 : (2 : Int32).toInt = 2 := (by decide +kernel); have hq_ := hx_19; unfold tRf at hq_; rcases hq_ with hq_ | hq_ | hq_ | hq_; (first | exact Or.inr (Or.inl ⟨by omega, by omega, by omega⟩) | (unfold aHo aHp; omega)); (first | exact Or.inr (Or.inr (⟨by omega, by omega, Or.inl ⟨by omega, by omega⟩⟩)) | (unfold aHo aHp; omega)); (first | exact Or.inr (Or.inr (⟨by omega, by omega, Or.inr (Or.inl ⟨by omega, by omega, by omega⟩)⟩)) | (unfold aHo aHp; omega)); (first | (exfalso; omega) | (unfold aHo aHp; omega)), (Or.inl ⟨by omega, by rw [hx_34.1]; exact hx_34.2⟩)⟩⟩, ⟨by rw [ht]; exact hP, va_K.moved hW.alike hK, hD⟩⟩, hS.F ht⟩) hS.2.2 dX10_back_35
set_option maxHeartbeats 4000000 in
set_option maxRecDepth 100000 in
theorem c_X10_off_c (l : Launch) (dC : Nat → ClassId) (dI : Nat → Nat → Nat) (sz : Nat) (cq : Nat → ClassId) (Z : oS) (gI : oInv Z) (o : Nat) (to : oty Z o 10) (x1 : Int32) (x2 : Int32) (v : Nat → Int32) (fa : Nat → Nat → Int32) (hR : RC Z o v fa) : Met l yX10_off wsX10_off ({ frames := 1, cells := 0, slots := 0, locals := 21 }) (va_Pc [.ref o, .int x1, .int x2] (pcW (dC, dI) (oT cq) (oW cq Z) sz)) (va_Qi (fun (r : Int32) (u : oS) => oInv u ∧ oX [106, 2107] Z u ∧ (aOf x1.toInt (v 43).toInt x2.toInt (gonI v fa x1.toNatClampNeg) r.toInt ∧ rOo Z o u r (u = setI Z (agA Z o x1.toNatClampNeg) 6 (oI Z o 0)))) (fun u t => va_P (dC, dI) vwCl (oW cq u) t.heap ∧ va_K (dC, dI) vwCl (oT cq) t ∧ va_D (va_A (oW cq Z) sz) (oW cq u)) (va_A (oW cq Z) sz)) 0 0 (va_A (oW cq Z) sz) := by
  refine Met.ofW (cc := cX10_off) (maxL := 4) (ret := (some .int)) (by decide +kernel) rfl ?_
  intro p e s m args below meth c s₁ B hml hv
  obtain ⟨rfl, hsz, hP, hK, hD0⟩ := hv
  have hx := B.exec
  have hb := B.bytes
  have hr := B.returns
  have hts := atoms_spec (ws := wsX10_off) B.pre
  have hown : s.vm.findClass RX10 = some m.cls := findClass_of_methodNamed B.named
  have hlocks := B.notSynchronized
  subst hsz
  have hD := hD0.self (sz := s.heap.size)
  generalize hAe : va_A (oW cq Z) s.heap.size = A at hD ⊢
  have hA : ∀ q : Nat, s.heap.size ≤ q → A q := fun q h => by rw [← hAe]; exact Or.inr h
  have hS : va_S A s.heap s.heap [] := va_S.rf
  have hP : va_P (dC, dI) vwCl (oW cq Z) s.heap := hP
  have hl := lv_entry ([.ref o, .int x1, .int x2]) (n := 4) (Nat.le_of_ble_eq_true rfl)
  rw [lg_entry_eq]
  generalize (lg_sl ([.ref o, .int x1, .int x2]) ++ List.replicate (4 - (lg_sl ([.ref o, .int x1, .int x2])).length) Slot.unset).toArray = ls at hl ⊢
  have hl : lv_has ls 4 [(0, .ref o), (1, .int x1), (2, .int x2)] := hl
  obtain ⟨fn0, fn1, fn2, fn3, fn4⟩ := RC.n hR
  have fb38 : 0 ≤ (v 38).toInt ∧ (v 38).toInt ≤ 3000 := RC.V hR 38
  have fb39 : 0 ≤ (v 39).toInt ∧ (v 39).toInt ≤ 40 := RC.V hR 39
  have fb40 : 0 ≤ (v 40).toInt ∧ (v 40).toInt ≤ 20 := RC.V hR 40
  have fb43 : 0 ≤ (v 43).toInt ∧ (v 43).toInt ≤ 60 := RC.V hR 43
  have fb41 : 0 ≤ (v 41).toInt ∧ (v 41).toInt ≤ 200 := RC.V hR 41
  refine lv_aload_n hx hb dX10_off_0 rfl (lv_at hl 0 rfl) ?_
  refine lv_iload_n hx hb dX10_off_1 rfl (lv_at hl 1 rfl) ?_
  have hFc : ∀ q, va_A [] s.heap.size q → A q := pu_free hS hA
  obtain ⟨q_1, hq_1⟩ := og (cq := cq) to.1 (oE_10 to.2)
  refine va_callq (va_runV (As := [.int x1]) (rest := []) ⟨hx, hb, hml, hown, hts⟩ (c_X10_agreementAt_c l dC dI s.heap.size cq Z gI o to x1 v fa hR) (cwV 1 hts gX10_off_X10_agreementAt rfl rfl rfl (by decide +kernel) ⟨(Nat.le_of_ble_eq_true rfl), (Nat.le_of_ble_eq_true rfl)⟩) (pr_V (r := (RX10, TX10, 16)) hP hK hD q_1 10 rfl hq_1) rfl rfl hl.1 rfl (lv_room (Nat.le_of_ble_eq_true rfl)) dX10_off_2 ⟨(Nat.le_of_ble_eq_true rfl), (Nat.le_of_ble_eq_true rfl)⟩) hS (fun q _ h => hFc q h) hFc (fun r_3 u t H locs ht hvm w_2 hB hz1 hk1 hS => ?_)
  have hP := pu_keep hP hk1
  clear hk1 hz1 hvm hB ht hFc
  obtain ⟨hk_4, hx_5⟩ := w_2
  rcases r_3 with _ | b_6
  · refine W.eq (g2 := F0 m 5 ls [.null]) rfl ?_
    have hnr_3 := atF_n hx_5
    refine lv_astore_nN (lv' := [(3, .null), (0, .ref o), (1, .int x1), (2, .int x2)]) hx hb dX10_off_5 rfl hl (by decide +kernel) rfl (fun ls hl => ?_)
    refine lv_aload_nN hx hb dX10_off_6 rfl (lv_at hl 0 rfl) ?_
    refine lv_ifnullN (tgt := 17) hx hb dX10_off_7 (by decide +kernel) ?_
    refine lv_aload_n hx hb dX10_off_17 rfl (lv_at hl 1 rfl) ?_
    refine lv_iconst (v := (-1)) hx hb dX10_off_18 (by decide +kernel) ?_
    have hFc := o_free hD hS hA
    refine va_calli (va_runV (As := [.int (-1)]) (rest := []) ⟨hx, hb, hml, hown, hts⟩ (c_X10_refuse_c l dC dI H.size cq Z gI o to (-1) (by decide +kernel)) (cwV 1 hts gX10_off_X10_refuse rfl rfl rfl (by decide +kernel) ⟨(Nat.le_of_ble_eq_true rfl), (Nat.le_of_ble_eq_true rfl)⟩) (pr_V (r := (RX10, TX10, 16)) hP hK hD q_1 10 rfl hq_1) rfl rfl hl.1 rfl (lv_room (Nat.le_of_ble_eq_true rfl)) dX10_off_19 ⟨(Nat.le_of_ble_eq_true rfl), (Nat.le_of_ble_eq_true rfl)⟩) hS (fun q _ h => hFc q h) hFc (fun r_8 u t H locs ht hvm w_7 hB hz1 hk1 hS => ?_)
    obtain ⟨S_9, rfl⟩ : ∃ z, z = u := ⟨_, rfl⟩
    obtain ⟨hP1, hK1, hD1⟩ := hB
    rw [ht] at hP1
    have hP : va_P (dC, dI) vwCl (oW cq S_9) H := hP1
    have hD : va_D A (oW cq S_9) := hD1.weaken (fun _ _ _ h => hFc _ h)
    clear hP1 hK1 hD1 hk1 hz1 hvm ht hFc
    obtain ⟨hIS_9, XS_9, hb_10, hx_11⟩ := w_7
    have X_12 : oX [106, 2107] Z S_9 := oX.st oX.rf XS_9 (by decide +kernel)
    have g_13 : (oI S_9 o 0).toInt = (oI Z o 0).toInt := by rw [oX.i XS_9 to (by decide +kernel)]
    have g_14 : (oI S_9 o 7).toInt = (oI Z o 7).toInt := by rw [oX.i XS_9 to (by decide +kernel)]
    have rf_15 : r_8.toInt = -1 := by rw [hx_11.1]; decide
    exact W.iret (v := r_8) hx hb hr (fun t ht hW => ⟨⟨r_8, S_9, rfl, ⟨hIS_9, X_12, ⟨by have kc0 : (0 : Int32).toInt = 0 := (by decide +kernel); have kc1 : (1 : Int32).toInt = 1 := (by decide +kernel); have kc2 : (2 : Int32).toInt = 2 := (by decide +kernel); (first | exact Or.inl ⟨by omega, by omega⟩ | (unfold aOf; omega)), (Or.inl ⟨by omega, by rw [hx_11.1]; exact hx_11.2⟩)⟩⟩, ⟨by rw [ht]; exact hP, va_K.moved hW.alike hK, hD⟩⟩, hS.F ht⟩) hS.2.2 dX10_off_22
  · refine W.eq (g2 := F0 m 5 ls [.ref b_6]) rfl ?_
    have tb_6 : oty Z b_6 1 := hk_4 b_6 rfl
    obtain ⟨hjb_6, ejb_6⟩ := atF_s hx_5
    have ljb_6 := ni_lt hjb_6.1 hjb_6.2
    have njb_6 := tn_i hjb_6.1
    have fAb_6 := RC.a hR ljb_6
    rw [← ejb_6] at fAb_6
    obtain ⟨⟨fm1b_6, fm2b_6, fm3b_6⟩, ⟨fv1b_6, fv2b_6, fv3b_6⟩, fsib_6, fppb_6, fwgb_6, frkb_6, fofb_6, fdeb_6, fchb_6⟩ := fAb_6
    have fBb_6 : 0 ≤ (fa 25 x1.toNatClampNeg).toInt ∧ (fa 25 x1.toNatClampNeg).toInt ≤ 3000 := RC.A hR 25 _
    have lamb_6 : (fa 20 x1.toNatClampNeg).toNatClampNeg < (v 39).toNatClampNeg := ni_lt fm1b_6 fm2b_6
    have namb_6 : (((fa 20 x1.toNatClampNeg).toNatClampNeg : Nat) : Int) = (fa 20 x1.toNatClampNeg).toInt := tn_i fm1b_6
    obtain ⟨amb_6, eamb_6⟩ : ∃ z, z = mnA Z o (fa 20 x1.toNatClampNeg).toNatClampNeg := ⟨_, rfl⟩
    rw [← eamb_6] at fm3b_6
    have tamb_6 : oty Z amb_6 6 := by rw [eamb_6]; exact (RC.tm hR gI to lamb_6).2
    have fMamb_6 := RC.m hR lamb_6
    rw [← eamb_6] at fMamb_6
    obtain ⟨fz0amb_6, fz1amb_6, fz2amb_6, fz3amb_6⟩ := fMamb_6
    rw [namb_6] at fz0amb_6
    have lavb_6 : (fa 21 x1.toNatClampNeg).toNatClampNeg < (v 40).toNatClampNeg := ni_lt fv1b_6 fv2b_6
    have navb_6 : (((fa 21 x1.toNatClampNeg).toNatClampNeg : Nat) : Int) = (fa 21 x1.toNatClampNeg).toInt := tn_i fv1b_6
    obtain ⟨avb_6, eavb_6⟩ : ∃ z, z = voA Z o (fa 21 x1.toNatClampNeg).toNatClampNeg := ⟨_, rfl⟩
    rw [← eavb_6] at fv3b_6
    have tavb_6 : oty Z avb_6 9 := by rw [eavb_6]; exact (RC.tv hR gI to lavb_6).2
    have fVavb_6 := RC.vo hR lavb_6
    rw [← eavb_6] at fVavb_6
    obtain ⟨fy0avb_6, fy1avb_6, fy2avb_6, fy3avb_6, fy4avb_6, fySavb_6, fyLavb_6, fyhavb_6⟩ := fVavb_6
    have fBavb_6 : 0 ≤ (fa 7 ((fa 21 x1.toNatClampNeg).toNatClampNeg)).toInt ∧ (fa 7 ((fa 21 x1.toNatClampNeg).toNatClampNeg)).toInt ≤ 3000 := RC.A hR 7 _
    have fSavb_6 := onc_i fySavb_6
    have fLavb_6 := onc_i fyLavb_6
    rw [navb_6] at fy0avb_6 fSavb_6 fLavb_6
    refine lv_astore_n (lv' := [(3, .ref b_6), (0, .ref o), (1, .int x1), (2, .int x2)]) hx hb dX10_off_5 rfl hl (by decide +kernel) rfl (fun ls hl => ?_)
    refine lv_aload_n hx hb dX10_off_6 rfl (lv_at hl 0 rfl) ?_
    refine lv_ifnull hx hb dX10_off_7 ?_
    refine lv_iload_n hx hb dX10_off_10 rfl (lv_at hl 3 rfl) ?_
    have hFc : ∀ q, va_A [] H.size q → A q := pu_free hS hA
    have hPc := hP.sub (ws' := []) [] rfl
    have hDc := hD.sub (ws' := []) [] (by decide +kernel) rfl
    have hKc := hK.sub (tys' := []) [] rfl
    refine va_calli (va_runS (As := [.int x2]) (rest := []) ⟨hx, hb, hml, hown, hts⟩ (c_X10_isPort_f l dC dI H.size  x2) (va_cwS 1 hts gX10_off_X10_isPort rfl rfl rfl (by decide +kernel) ⟨(Nat.le_of_ble_eq_true rfl), (Nat.le_of_ble_eq_true rfl)⟩) (pr_S hPc hKc hDc) rfl rfl hl.1 rfl (lv_room (Nat.le_of_ble_eq_true rfl)) dX10_off_11 ⟨(Nat.le_of_ble_eq_true rfl), (Nat.le_of_ble_eq_true rfl)⟩) hS (fun q _ h => hFc q h) hFc (fun r_17 u t H locs ht hvm w_16 hB hz1 hk1 hS => ?_)
    have hP := pu_keep hP hk1
    clear hk1 hz1 hvm hB ht hFc hPc hDc hKc
    obtain ⟨hb_18, hx_19⟩ := w_16
    refine lv_if_ne (tgt := 23) hx hb dX10_off_14 (by decide +kernel) (fun c_20 => ?_) (fun c_20 => ?_)
    · have dc_20 := c_ne (a := r_17.toInt) (b := 0) rfl (by decide +kernel) c_20
      refine lv_aload_n hx hb dX10_off_23 rfl (lv_at hl 0 rfl) ?_
      have hFc : ∀ q, va_A [] H.size q → A q := pu_free hS hA
      obtain ⟨q_21, hq_21⟩ := og (cq := cq) tb_6.1 (oE_1 tb_6.2)
      refine va_calli (va_runV (As := []) (rest := []) ⟨hx, hb, hml, hown, hts⟩ (c_X1_goesOn_c l dC dI H.size cq Z gI b_6 tb_6 o to v fa hR x1.toNatClampNeg ljb_6 ejb_6) (cwV 0 hts gX10_off_X1_goesOn rfl rfl rfl (by decide +kernel) ⟨(Nat.le_of_ble_eq_true rfl), (Nat.le_of_ble_eq_true rfl)⟩) (pr_V (r := (RX1, TX1, 18)) hP hK hD q_21 1 rfl hq_21) rfl rfl hl.1 rfl (lv_room (Nat.le_of_ble_eq_true rfl)) dX10_off_24 ⟨(Nat.le_of_ble_eq_true rfl), (Nat.le_of_ble_eq_true rfl)⟩) hS (fun q _ h => hFc q h) hFc (fun r_23 u t H locs ht hvm w_22 hB hz1 hk1 hS => ?_)
      have hP := pu_keep hP hk1
      clear hk1 hz1 hvm hB ht hFc
      obtain ⟨hb_24, hx_25⟩ := w_22
      refine lv_if_ne (tgt := 37) hx hb dX10_off_27 (by decide +kernel) (fun c_26 => ?_) (fun c_26 => ?_)
      · have dc_26 := c_ne (a := r_23.toInt) (b := 0) rfl (by decide +kernel) c_26
        refine lv_aload_n hx hb dX10_off_37 rfl (lv_at hl 0 rfl) ?_
        refine lv_aload_n hx hb dX10_off_38 rfl (lv_at hl 1 rfl) ?_
        refine va_get (D := (dC, dI)) (ci := 10) (v := .int (oI Z o 0)) (C := RX10) (T := TX10) (N := 16) hx hb hts in_wsX10_off_X10 hown hK hP q_1 hq_1 rfl 0 (by decide +kernel) (hts (.fieldLink RX10 73 "ShipOffice" "now" "I") iw_X10_off_1) (fun _ h9 => h9) rfl dX10_off_39 ?_
        refine lv_topi (fun x_27 ex_27 => ?_)
        have hx_27 : 0 ≤ x_27.toInt ∧ x_27.toInt ≤ 3000 := iv_of ex_27 (oInv.iv gI to.2 rfl rfl)
        have gx_27 : x_27.toInt = (oI Z o 0).toInt := iv_to ex_27
        clear ex_27
        refine va_put (D := (dC, dI)) (ci := 1) (v := .int x_27) (ty := .int) (C := RX1) (T := TX1) (N := 18) hx hb hts in_wsX10_off_X1 tyX1 tyX1_ok nmX1 hown hK hP hD hS q_21 hq_21 rfl 6 (by decide +kernel) (hts (.fieldLink RX10 126 "ShipOffice$Agreement" "offDay" "I") iw_X10_off_2) (fun _ h9 => h9) rfl (by decide +kernel) rfl rfl (Nat.le_of_ble_eq_true rfl) dX10_off_42 (fun H locs hP1 hD1 hS => ?_)
        obtain ⟨S_28, eS_28⟩ : ∃ zq, zq = setI Z b_6 6 x_27 := ⟨_, rfl⟩
        have hP : va_P (dC, dI) vwCl (oW cq S_28) H := by rw [eS_28]; exact cP (oset tb_6.1 hq_21 hD rfl (he_1_6 tb_6.2) neI) hP1
        have hD : va_D A (oW cq S_28) := by rw [eS_28]; exact cD (oset tb_6.1 hq_21 hD rfl (he_1_6 tb_6.2) neI) hD1
        clear hP1 hD1
        have hIS_28 : oInv S_28 := by rw [eS_28]; exact oInv.I0 (k := 1) (lo := -2147483648) (hi := 2147483647) gI tb_6.2 (by decide +kernel) rfl rfl rfl (iv_all _)
        have XS_28 : oX [106] Z S_28 := by rw [eS_28]; exact oX.I (k := 1) (key := 106) tb_6.2 rfl (List.mem_singleton.mpr rfl)
        have pk_29 : oP S_28 b_6 0 = some amb_6 := by rw [eS_28]; exact fm3b_6
        have pk_30 : oP S_28 b_6 1 = some avb_6 := by rw [eS_28]; exact fv3b_6
        have X_31 : oX [106, 2107] Z S_28 := oX.st oX.rf XS_28 (by decide +kernel)
        have g_32 : (oI S_28 o 0).toInt = (oI Z o 0).toInt := by rw [eS_28, setI_oth (ty_ne to tb_6 (by decide +kernel))]
        have g_33 : (oI S_28 o 7).toInt = (oI Z o 7).toInt := by rw [eS_28, setI_oth (ty_ne to tb_6 (by decide +kernel))]
        refine lv_iconst (v := 1) hx hb dX10_off_45 (by decide +kernel) ?_
        exact W.iret (v := 1) hx hb hr (fun t ht hW => ⟨⟨1, S_28, rfl, ⟨hIS_28, X_31, ⟨by try clear fppb_6; try clear fSavb_6; try clear fLavb_6; try clear fy4avb_6; have kc0 : (0 : Int32).toInt = 0 := (by decide +kernel); have kc1 : (1 : Int32).toInt = 1 := (by decide +kernel); have kc2 : (2 : Int32).toInt = 2 := (by decide +kernel); (first | exact Or.inr (Or.inr (⟨by omega, by omega, by omega⟩)) | (unfold aOf; omega)), Or.inr ⟨by try clear fppb_6; try clear fSavb_6; try clear fLavb_6; try clear fy4avb_6; have kc0 : (0 : Int32).toInt = 0 := (by decide +kernel); have kc1 : (1 : Int32).toInt = 1 := (by decide +kernel); have kc2 : (2 : Int32).toInt = 2 := (by decide +kernel); omega, (by rw [← ejb_6, eS_28, (show x_27 = oI Z o 0 from Int32.toInt_inj.mp (by omega))])⟩⟩⟩, ⟨by rw [ht]; exact hP, va_K.moved hW.alike hK, hD⟩⟩, hS.F ht⟩) hS.2.2 dX10_off_46
      · have dc_26 := c_eq (a := r_23.toInt) (b := 0) rfl (by decide +kernel) c_26
        refine lv_aload_n hx hb dX10_off_30 rfl (lv_at hl 1 rfl) ?_
        refine lv_bipush (v := (-3)) hx hb dX10_off_31 (by decide +kernel) ?_
        have hFc := o_free hD hS hA
        refine va_calli (va_runV (As := [.int (-3)]) (rest := []) ⟨hx, hb, hml, hown, hts⟩ (c_X10_refuse_c l dC dI H.size cq Z gI o to (-3) (by decide +kernel)) (cwV 1 hts gX10_off_X10_refuse rfl rfl rfl (by decide +kernel) ⟨(Nat.le_of_ble_eq_true rfl), (Nat.le_of_ble_eq_true rfl)⟩) (pr_V (r := (RX10, TX10, 16)) hP hK hD q_1 10 rfl hq_1) rfl rfl hl.1 rfl (lv_room (Nat.le_of_ble_eq_true rfl)) dX10_off_33 ⟨(Nat.le_of_ble_eq_true rfl), (Nat.le_of_ble_eq_true rfl)⟩) hS (fun q _ h => hFc q h) hFc (fun r_35 u t H locs ht hvm w_34 hB hz1 hk1 hS => ?_)
        obtain ⟨S_36, rfl⟩ : ∃ z, z = u := ⟨_, rfl⟩
        obtain ⟨hP1, hK1, hD1⟩ := hB
        rw [ht] at hP1
        have hP : va_P (dC, dI) vwCl (oW cq S_36) H := hP1
        have hD : va_D A (oW cq S_36) := hD1.weaken (fun _ _ _ h => hFc _ h)
        clear hP1 hK1 hD1 hk1 hz1 hvm ht hFc
        obtain ⟨hIS_36, XS_36, hb_37, hx_38⟩ := w_34
        have X_39 : oX [106, 2107] Z S_36 := oX.st oX.rf XS_36 (by decide +kernel)
        have g_40 : (oI S_36 o 0).toInt = (oI Z o 0).toInt := by rw [oX.i XS_36 to (by decide +kernel)]
        have g_41 : (oI S_36 o 7).toInt = (oI Z o 7).toInt := by rw [oX.i XS_36 to (by decide +kernel)]
        have pk_42 : oP S_36 b_6 0 = some amb_6 := by rw [oX.p XS_36 tb_6 (by decide +kernel)]; exact fm3b_6
        have pk_43 : oP S_36 b_6 1 = some avb_6 := by rw [oX.p XS_36 tb_6 (by decide +kernel)]; exact fv3b_6
        have rf_44 : r_35.toInt = -3 := by rw [hx_38.1]; decide
        exact W.iret (v := r_35) hx hb hr (fun t ht hW => ⟨⟨r_35, S_36, rfl, ⟨hIS_36, X_39, ⟨by try clear fppb_6; try clear fSavb_6; try clear fLavb_6; try clear fy4avb_6; have kc0 : (0 : Int32).toInt = 0 := (by decide +kernel); have kc1 : (1 : Int32).toInt = 1 := (by decide +kernel); have kc2 : (2 : Int32).toInt = 2 := (by decide +kernel); (first | exact Or.inr (Or.inl ⟨by omega, by omega, by omega⟩) | (unfold aOf; omega)), (Or.inl ⟨by omega, by rw [hx_38.1]; exact hx_38.2⟩)⟩⟩, ⟨by rw [ht]; exact hP, va_K.moved hW.alike hK, hD⟩⟩, hS.F ht⟩) hS.2.2 dX10_off_36
    · have dc_20 := c_eq (a := r_17.toInt) (b := 0) rfl (by decide +kernel) c_20
      refine lv_aload_n hx hb dX10_off_17 rfl (lv_at hl 1 rfl) ?_
      refine lv_iconst (v := (-1)) hx hb dX10_off_18 (by decide +kernel) ?_
      have hFc := o_free hD hS hA
      refine va_calli (va_runV (As := [.int (-1)]) (rest := []) ⟨hx, hb, hml, hown, hts⟩ (c_X10_refuse_c l dC dI H.size cq Z gI o to (-1) (by decide +kernel)) (cwV 1 hts gX10_off_X10_refuse rfl rfl rfl (by decide +kernel) ⟨(Nat.le_of_ble_eq_true rfl), (Nat.le_of_ble_eq_true rfl)⟩) (pr_V (r := (RX10, TX10, 16)) hP hK hD q_1 10 rfl hq_1) rfl rfl hl.1 rfl (lv_room (Nat.le_of_ble_eq_true rfl)) dX10_off_19 ⟨(Nat.le_of_ble_eq_true rfl), (Nat.le_of_ble_eq_true rfl)⟩) hS (fun q _ h => hFc q h) hFc (fun r_46 u t H locs ht hvm w_45 hB hz1 hk1 hS => ?_)
      obtain ⟨S_47, rfl⟩ : ∃ z, z = u := ⟨_, rfl⟩
      obtain ⟨hP1, hK1, hD1⟩ := hB
      rw [ht] at hP1
      have hP : va_P (dC, dI) vwCl (oW cq S_47) H := hP1
      have hD : va_D A (oW cq S_47) := hD1.weaken (fun _ _ _ h => hFc _ h)
      clear hP1 hK1 hD1 hk1 hz1 hvm ht hFc
      obtain ⟨hIS_47, XS_47, hb_48, hx_49⟩ := w_45
      have X_50 : oX [106, 2107] Z S_47 := oX.st oX.rf XS_47 (by decide +kernel)
      have g_51 : (oI S_47 o 0).toInt = (oI Z o 0).toInt := by rw [oX.i XS_47 to (by decide +kernel)]
      have g_52 : (oI S_47 o 7).toInt = (oI Z o 7).toInt := by rw [oX.i XS_47 to (by decide +kernel)]
      have pk_53 : oP S_47 b_6 0 = some amb_6 := by rw [oX.p XS_47 tb_6 (by decide +kernel)]; exact fm3b_6
      have pk_54 : oP S_47 b_6 1 = some avb_6 := by rw [oX.p XS_47 tb_6 (by decide +kernel)]; exact fv3b_6
      have rf_55 : r_46.toInt = -1 := by rw [hx_49.1]; decide
      exact W.iret (v := r_46) hx hb hr (fun t ht hW => ⟨⟨r_46, S_47, rfl, ⟨hIS_47, X_50, ⟨by try clear fppb_6; try clear fSavb_6; try clear fLavb_6; try clear fy4avb_6; have kc0 : (0 : Int32).toInt = 0 := (by decide +kernel); have kc1 : (1 : Int32).toInt = 1 := (by decide +kernel); have kc2 : (2 : Int32).toInt = 2 := (by decide +kernel); (first | exact Or.inl ⟨by omega, by omega⟩ | (unfold aOf; omega)), (Or.inl ⟨by omega, by rw [hx_49.1]; exact hx_49.2⟩)⟩⟩, ⟨by rw [ht]; exact hP, va_K.moved hW.alike hK, hD⟩⟩, hS.F ht⟩) hS.2.2 dX10_off_22
set_option maxHeartbeats 4000000 in
set_option maxRecDepth 100000 in
theorem c_X10_voyage_c (l : Launch) (dC : Nat → ClassId) (dI : Nat → Nat → Nat) (sz : Nat) (cq : Nat → ClassId) (Z : oS) (gI : oInv Z) (o : Nat) (to : oty Z o 10) (x1 : Int32) (x2 : Int32) (v : Nat → Int32) (fa : Nat → Nat → Int32) (hR : RC Z o v fa) : Met l yX10_voyage wsX10_voyage ({ frames := 2, cells := 1, slots := 10, locals := 38 }) (va_Pc [.ref o, .int x1, .int x2] (pcW (dC, dI) (oT cq) (oW cq Z) sz)) (va_Qi (fun (r : Int32) (u : oS) => oInv u ∧ oX [1004, 2015, 2107] Z u ∧ (aVy x1.toInt x2.toInt (hvI v fa x1.toInt) (v 40).toInt r.toInt ∧ rOo Z o u r (vyO Z o x1 x2 u))) (fun u t => va_P (dC, dI) vwCl (oW cq u) t.heap ∧ va_K (dC, dI) vwCl (oT cq) t ∧ va_D (va_A (oW cq Z) sz) (oW cq u)) (va_A (oW cq Z) sz)) 1 10 (va_A (oW cq Z) sz) := by
  refine Met.ofW (cc := cX10_voyage) (maxL := 3) (ret := (some .int)) (by decide +kernel) rfl ?_
  intro p e s m args below meth c s₁ B hml hv
  obtain ⟨rfl, hsz, hP, hK, hD0⟩ := hv
  have hx := B.exec
  have hb := B.bytes
  have hr := B.returns
  have hts := atoms_spec (ws := wsX10_voyage) B.pre
  have hown : s.vm.findClass RX10 = some m.cls := findClass_of_methodNamed B.named
  have hlocks := B.notSynchronized
  subst hsz
  have hD := hD0.self (sz := s.heap.size)
  generalize hAe : va_A (oW cq Z) s.heap.size = A at hD ⊢
  have hA : ∀ q : Nat, s.heap.size ≤ q → A q := fun q h => by rw [← hAe]; exact Or.inr h
  have hS : va_S A s.heap s.heap [] := va_S.rf
  have hP : va_P (dC, dI) vwCl (oW cq Z) s.heap := hP
  have hl := lv_entry ([.ref o, .int x1, .int x2]) (n := 3) (Nat.le_of_ble_eq_true rfl)
  rw [lg_entry_eq]
  generalize (lg_sl ([.ref o, .int x1, .int x2]) ++ List.replicate (3 - (lg_sl ([.ref o, .int x1, .int x2])).length) Slot.unset).toArray = ls at hl ⊢
  have hl : lv_has ls 3 [(0, .ref o), (1, .int x1), (2, .int x2)] := hl
  obtain ⟨fn0, fn1, fn2, fn3, fn4⟩ := RC.n hR
  have fb38 : 0 ≤ (v 38).toInt ∧ (v 38).toInt ≤ 3000 := RC.V hR 38
  have fb39 : 0 ≤ (v 39).toInt ∧ (v 39).toInt ≤ 40 := RC.V hR 39
  have fb40 : 0 ≤ (v 40).toInt ∧ (v 40).toInt ≤ 20 := RC.V hR 40
  have fb43 : 0 ≤ (v 43).toInt ∧ (v 43).toInt ≤ 60 := RC.V hR 43
  have fb41 : 0 ≤ (v 41).toInt ∧ (v 41).toInt ≤ 200 := RC.V hR 41
  refine lv_iload_n hx hb dX10_voyage_0 rfl (lv_at hl 1 rfl) ?_
  refine lv_if_lt (tgt := 17) hx hb dX10_voyage_1 (by decide +kernel) (fun c_1 => ?_) (fun c_1 => ?_)
  · have dc_1 := c_lt (a := x1.toInt) (b := 0) rfl (by decide +kernel) c_1
    refine lv_aload_n hx hb dX10_voyage_17 rfl (lv_at hl 0 rfl) ?_
    refine lv_iconst (v := (-1)) hx hb dX10_voyage_18 (by decide +kernel) ?_
    have hFc := o_free hD hS hA
    obtain ⟨q_2, hq_2⟩ := og (cq := cq) to.1 (oE_10 to.2)
    refine va_calli (va_runV (As := [.int (-1)]) (rest := []) ⟨hx, hb, hml, hown, hts⟩ (c_X10_refuse_c l dC dI s.heap.size cq Z gI o to (-1) (by decide +kernel)) (cwV 1 hts gX10_voyage_X10_refuse rfl rfl rfl (by decide +kernel) ⟨(Nat.le_of_ble_eq_true rfl), (Nat.le_of_ble_eq_true rfl)⟩) (pr_V (r := (RX10, TX10, 16)) hP hK hD q_2 10 rfl hq_2) rfl rfl hl.1 rfl (lv_room (Nat.le_of_ble_eq_true rfl)) dX10_voyage_19 ⟨(Nat.le_of_ble_eq_true rfl), (Nat.le_of_ble_eq_true rfl)⟩) hS (fun q _ h => hFc q h) hFc (fun r_4 u t H locs ht hvm w_3 hB hz1 hk1 hS => ?_)
    obtain ⟨S_5, rfl⟩ : ∃ z, z = u := ⟨_, rfl⟩
    obtain ⟨hP1, hK1, hD1⟩ := hB
    rw [ht] at hP1
    have hP : va_P (dC, dI) vwCl (oW cq S_5) H := hP1
    have hD : va_D A (oW cq S_5) := hD1.weaken (fun _ _ _ h => hFc _ h)
    clear hP1 hK1 hD1 hk1 hz1 hvm ht hFc
    obtain ⟨hIS_5, XS_5, hb_6, hx_7⟩ := w_3
    have X_8 : oX [1004, 2015, 2107] Z S_5 := oX.st oX.rf XS_5 (by decide +kernel)
    have g_9 : (oI S_5 o 0).toInt = (oI Z o 0).toInt := by rw [oX.i XS_5 to (by decide +kernel)]
    have g_10 : (oI S_5 o 4).toInt = (oI Z o 4).toInt := by rw [oX.i XS_5 to (by decide +kernel)]
    have rf_11 : r_4.toInt = -1 := by rw [hx_7.1]; decide
    refine W.widen (k := 1) (n := 10) (Nat.le_of_ble_eq_true rfl) (Nat.le_of_ble_eq_true rfl) ?_
    exact W.iret (v := r_4) hx hb hr (fun t ht hW => ⟨⟨r_4, S_5, rfl, ⟨hIS_5, X_8, ⟨by have kc0 : (0 : Int32).toInt = 0 := (by decide +kernel); have kc1 : (1 : Int32).toInt = 1 := (by decide +kernel); have kc2 : (2 : Int32).toInt = 2 := (by decide +kernel); (first | exact Or.inl ⟨by omega, by omega⟩ | (unfold aVy; omega)), (Or.inl ⟨by omega, by rw [hx_7.1]; exact hx_7.2⟩)⟩⟩, ⟨by rw [ht]; exact hP, va_K.moved hW.alike hK, hD⟩⟩, hS.F ht⟩) hS.2.2 dX10_voyage_22
  · have dc_1 := c_nlt (a := x1.toInt) (b := 0) rfl (by decide +kernel) c_1
    refine lv_iload_n hx hb dX10_voyage_4 rfl (lv_at hl 1 rfl) ?_
    refine lv_bipush (v := 10) hx hb dX10_voyage_5 (by decide +kernel) ?_
    refine lv_icmp_ge (tgt := 17) hx hb dX10_voyage_7 (by decide +kernel) (fun c_12 => ?_) (fun c_12 => ?_)
    · have dc_12 := c_le (a := 10) (b := x1.toInt) (by decide +kernel) rfl c_12
      refine lv_aload_n hx hb dX10_voyage_17 rfl (lv_at hl 0 rfl) ?_
      refine lv_iconst (v := (-1)) hx hb dX10_voyage_18 (by decide +kernel) ?_
      have hFc := o_free hD hS hA
      obtain ⟨q_13, hq_13⟩ := og (cq := cq) to.1 (oE_10 to.2)
      refine va_calli (va_runV (As := [.int (-1)]) (rest := []) ⟨hx, hb, hml, hown, hts⟩ (c_X10_refuse_c l dC dI s.heap.size cq Z gI o to (-1) (by decide +kernel)) (cwV 1 hts gX10_voyage_X10_refuse rfl rfl rfl (by decide +kernel) ⟨(Nat.le_of_ble_eq_true rfl), (Nat.le_of_ble_eq_true rfl)⟩) (pr_V (r := (RX10, TX10, 16)) hP hK hD q_13 10 rfl hq_13) rfl rfl hl.1 rfl (lv_room (Nat.le_of_ble_eq_true rfl)) dX10_voyage_19 ⟨(Nat.le_of_ble_eq_true rfl), (Nat.le_of_ble_eq_true rfl)⟩) hS (fun q _ h => hFc q h) hFc (fun r_15 u t H locs ht hvm w_14 hB hz1 hk1 hS => ?_)
      obtain ⟨S_16, rfl⟩ : ∃ z, z = u := ⟨_, rfl⟩
      obtain ⟨hP1, hK1, hD1⟩ := hB
      rw [ht] at hP1
      have hP : va_P (dC, dI) vwCl (oW cq S_16) H := hP1
      have hD : va_D A (oW cq S_16) := hD1.weaken (fun _ _ _ h => hFc _ h)
      clear hP1 hK1 hD1 hk1 hz1 hvm ht hFc
      obtain ⟨hIS_16, XS_16, hb_17, hx_18⟩ := w_14
      have X_19 : oX [1004, 2015, 2107] Z S_16 := oX.st oX.rf XS_16 (by decide +kernel)
      have g_20 : (oI S_16 o 0).toInt = (oI Z o 0).toInt := by rw [oX.i XS_16 to (by decide +kernel)]
      have g_21 : (oI S_16 o 4).toInt = (oI Z o 4).toInt := by rw [oX.i XS_16 to (by decide +kernel)]
      have rf_22 : r_15.toInt = -1 := by rw [hx_18.1]; decide
      refine W.widen (k := 1) (n := 10) (Nat.le_of_ble_eq_true rfl) (Nat.le_of_ble_eq_true rfl) ?_
      exact W.iret (v := r_15) hx hb hr (fun t ht hW => ⟨⟨r_15, S_16, rfl, ⟨hIS_16, X_19, ⟨by have kc0 : (0 : Int32).toInt = 0 := (by decide +kernel); have kc1 : (1 : Int32).toInt = 1 := (by decide +kernel); have kc2 : (2 : Int32).toInt = 2 := (by decide +kernel); (first | exact Or.inl ⟨by omega, by omega⟩ | (unfold aVy; omega)), (Or.inl ⟨by omega, by rw [hx_18.1]; exact hx_18.2⟩)⟩⟩, ⟨by rw [ht]; exact hP, va_K.moved hW.alike hK, hD⟩⟩, hS.F ht⟩) hS.2.2 dX10_voyage_22
    · have dc_12 := c_nle (a := 10) (b := x1.toInt) (by decide +kernel) rfl c_12
      refine lv_iload_n hx hb dX10_voyage_10 rfl (lv_at hl 2 rfl) ?_
      have hFc : ∀ q, va_A [] s.heap.size q → A q := pu_free hS hA
      have hPc := hP.sub (ws' := []) [] rfl
      have hDc := hD.sub (ws' := []) [] (by decide +kernel) rfl
      have hKc := hK.sub (tys' := []) [] rfl
      refine va_calli (va_runS (As := [.int x2]) (rest := []) ⟨hx, hb, hml, hown, hts⟩ (c_X10_isPort_f l dC dI s.heap.size  x2) (va_cwS 1 hts gX10_voyage_X10_isPort rfl rfl rfl (by decide +kernel) ⟨(Nat.le_of_ble_eq_true rfl), (Nat.le_of_ble_eq_true rfl)⟩) (pr_S hPc hKc hDc) rfl rfl hl.1 rfl (lv_room (Nat.le_of_ble_eq_true rfl)) dX10_voyage_11 ⟨(Nat.le_of_ble_eq_true rfl), (Nat.le_of_ble_eq_true rfl)⟩) hS (fun q _ h => hFc q h) hFc (fun r_24 u t H locs ht hvm w_23 hB hz1 hk1 hS => ?_)
      have hP := pu_keep hP hk1
      clear hk1 hz1 hvm hB ht hFc hPc hDc hKc
      obtain ⟨hb_25, hx_26⟩ := w_23
      refine lv_if_ne (tgt := 23) hx hb dX10_voyage_14 (by decide +kernel) (fun c_27 => ?_) (fun c_27 => ?_)
      · have dc_27 := c_ne (a := r_24.toInt) (b := 0) rfl (by decide +kernel) c_27
        refine lv_aload_n hx hb dX10_voyage_23 rfl (lv_at hl 0 rfl) ?_
        refine lv_iload_n hx hb dX10_voyage_24 rfl (lv_at hl 1 rfl) ?_
        have hFc : ∀ q, va_A [] H.size q → A q := pu_free hS hA
        obtain ⟨q_28, hq_28⟩ := og (cq := cq) to.1 (oE_10 to.2)
        refine va_calli (va_runV (As := [.int x1]) (rest := []) ⟨hx, hb, hml, hown, hts⟩ (c_X10_hasVoyage_c l dC dI H.size cq Z gI o to x1 v fa hR) (cwV 1 hts gX10_voyage_X10_hasVoyage rfl rfl rfl (by decide +kernel) ⟨(Nat.le_of_ble_eq_true rfl), (Nat.le_of_ble_eq_true rfl)⟩) (pr_V (r := (RX10, TX10, 16)) hP hK hD q_28 10 rfl hq_28) rfl rfl hl.1 rfl (lv_room (Nat.le_of_ble_eq_true rfl)) dX10_voyage_25 ⟨(Nat.le_of_ble_eq_true rfl), (Nat.le_of_ble_eq_true rfl)⟩) hS (fun q _ h => hFc q h) hFc (fun r_30 u t H locs ht hvm w_29 hB hz1 hk1 hS => ?_)
        have hP := pu_keep hP hk1
        clear hk1 hz1 hvm hB ht hFc
        obtain ⟨hb_31, hx_32⟩ := w_29
        refine lv_if_eq (tgt := 38) hx hb dX10_voyage_28 (by decide +kernel) (fun c_33 => ?_) (fun c_33 => ?_)
        · have dc_33 := c_eq (a := r_30.toInt) (b := 0) rfl (by decide +kernel) c_33
          refine lv_aload_n hx hb dX10_voyage_38 rfl (lv_at hl 0 rfl) ?_
          refine va_get (D := (dC, dI)) (ci := 10) (v := .int (oI Z o 4)) (C := RX10) (T := TX10) (N := 16) hx hb hts in_wsX10_voyage_X10 hown hK hP q_28 hq_28 rfl 4 (by decide +kernel) (hts (.fieldLink RX10 99 "ShipOffice" "voyageCount" "I") iw_X10_voyage_1) (fun _ h9 => h9) rfl dX10_voyage_39 ?_
          refine lv_topi (fun x_34 ex_34 => ?_)
          have hx_34 : 0 ≤ x_34.toInt ∧ x_34.toInt ≤ 21 := iv_of ex_34 (by omega)
          have gx_34 : x_34.toInt = (oI Z o 4).toInt := iv_to ex_34
          clear ex_34
          refine lv_bipush (v := 20) hx hb dX10_voyage_42 (by decide +kernel) ?_
          refine lv_icmp_lt (tgt := 54) hx hb dX10_voyage_44 (by decide +kernel) (fun c_35 => ?_) (fun c_35 => ?_)
          · have dc_35 := c_lt (a := x_34.toInt) (b := 20) rfl (by decide +kernel) c_35
            refine lv_aload_n hx hb dX10_voyage_54 rfl (lv_at hl 0 rfl) ?_
            obtain ⟨b_36, hb_36⟩ := oInv.nn (i := 3) gI to rfl
            refine va_get (D := (dC, dI)) (ci := 10) (v := .ref b_36) (C := RX10) (T := TX10) (N := 16) hx hb hts in_wsX10_voyage_X10 hown hK hP q_28 hq_28 rfl 3 (by decide +kernel) (hts (.fieldLink RX10 17 "ShipOffice" "voyages" "[LShipOffice$Voyage;") iw_X10_voyage_2) (fun _ h9 => h9) (o_rd hb_36) dX10_voyage_55 ?_
            have tb_36 : oty Z b_36 15 := oInv.rd gI to.2 hb_36 rfl rfl
            refine lv_aload_n hx hb dX10_voyage_58 rfl (lv_at hl 0 rfl) ?_
            refine va_get (D := (dC, dI)) (ci := 10) (v := .int (oI Z o 4)) (C := RX10) (T := TX10) (N := 16) hx hb hts in_wsX10_voyage_X10 hown hK hP q_28 hq_28 rfl 4 (by decide +kernel) (hts (.fieldLink RX10 99 "ShipOffice" "voyageCount" "I") iw_X10_voyage_1) (fun _ h9 => h9) rfl dX10_voyage_59 ?_
            refine lv_topi (fun x_37 ex_37 => ?_)
            have hx_37 : 0 ≤ x_37.toInt ∧ x_37.toInt ≤ 21 := iv_of ex_37 (by omega)
            have gx_37 : x_37.toInt = (oI Z o 4).toInt := iv_to ex_37
            clear ex_37
            refine va_new (ci := 9) (fs := [.int 0, .int 0, .int 0, .int 0, .int 0, .int 0, .int 0, .int 0, .int 0, .null]) (C := RX9) (T := TX9) (N := 10) hx hb hts in_wsX10_voyage_X9 tyX9 tyX9_ok hown (hts (.classLink RX10 15 RX9) iw_X10_voyage_3) (hts (.instantiable RX9 10) iw_X10_voyage_4) (hts (.initialized RX9) iw_X10_voyage_5) hK hP hD hS hA rfl (fun j hj => by rcases (show j = 0 ∨ j = 1 ∨ j = 2 ∨ j = 3 ∨ j = 4 ∨ j = 5 ∨ j = 6 ∨ j = 7 ∨ j = 8 ∨ j = 9 by omega) with rfl | rfl | rfl | rfl | rfl | rfl | rfl | rfl | rfl | rfl <;> rfl) (Nat.le_of_ble_eq_true rfl) (Nat.le_of_ble_eq_true rfl) dX10_voyage_62 (fun q_38 H hP1 hD1 hS => ?_)
            have hnq_38 := add_q hD1
            obtain ⟨S_39, eS_39⟩ : ∃ zq, zq = addO Z q_38 39 := ⟨_, rfl⟩
            have hP : va_P (dC, dI) vwCl (oW cq S_39) H := by rw [eS_39]; exact cP (onew hD1 (by rw [oE_39 add_K, add_I, add_P]; rfl)) hP1
            have hD : va_D A (oW cq S_39) := by rw [eS_39]; exact cD (onew hD1 (by rw [oE_39 add_K, add_I, add_P]; rfl)) hD1
            clear hP1 hD1
            have hIS_39 : oInv S_39 := by rw [eS_39]; exact oInv.add gI hnq_38 (by decide +kernel)
            have XS_39 : oX [] Z S_39 := by rw [eS_39]; exact oX.add hnq_38
            have nzq_38 : q_38 ∉ oL Z := hnq_38
            have sr_40 : oP S_39 o 3 = some b_36 := by rw [eS_39, add_Pn hnq_38 to.1]; exact hb_36
            have g_41 : (oI S_39 o 0).toInt = (oI Z o 0).toInt := by rw [eS_39, add_In hnq_38 to.1]
            have g_42 : (oI S_39 o 4).toInt = (oI Z o 4).toInt := by rw [eS_39, add_In hnq_38 to.1]
            have X_43 : oX [1004, 2015, 2107] Z S_39 := oX.st oX.rf XS_39 (by decide +kernel)
            have tq_38 : oty S_39 q_38 39 := by rw [eS_39]; exact add_ty
            refine W.widen (k := 1) (n := 10) (Nat.le_of_ble_eq_true rfl) (Nat.le_of_ble_eq_true rfl) ?_
            refine lv_dup hx hb dX10_voyage_65 rfl ?_
            refine lv_aload_n hx hb dX10_voyage_66 rfl (lv_at hl 0 rfl) ?_
            have t_44 : oty S_39 o 10 := (oX.ty XS_39 to)
            obtain ⟨q_45, hq_45⟩ := og (cq := cq) t_44.1 (oE_10 t_44.2)
            refine va_get (D := (dC, dI)) (ci := 10) (v := .int (oI S_39 o 4)) (C := RX10) (T := TX10) (N := 16) hx hb hts in_wsX10_voyage_X10 hown hK hP q_45 hq_45 rfl 4 (by decide +kernel) (hts (.fieldLink RX10 99 "ShipOffice" "voyageCount" "I") iw_X10_voyage_1) (fun _ h9 => h9) rfl dX10_voyage_67 ?_
            refine lv_topi (fun x_46 ex_46 => ?_)
            have hx_46 : 0 ≤ x_46.toInt ∧ x_46.toInt ≤ 21 := iv_of ex_46 (by omega)
            have gx_46 : x_46.toInt = (oI S_39 o 4).toInt := iv_to ex_46
            clear ex_46
            refine lv_iload_n hx hb dX10_voyage_70 rfl (lv_at hl 1 rfl) ?_
            refine lv_iload_n hx hb dX10_voyage_71 rfl (lv_at hl 2 rfl) ?_
            refine lv_aload_n hx hb dX10_voyage_72 rfl (lv_at hl 0 rfl) ?_
            refine va_get (D := (dC, dI)) (ci := 10) (v := .int (oI S_39 o 0)) (C := RX10) (T := TX10) (N := 16) hx hb hts in_wsX10_voyage_X10 hown hK hP q_45 hq_45 rfl 0 (by decide +kernel) (hts (.fieldLink RX10 73 "ShipOffice" "now" "I") iw_X10_voyage_6) (fun _ h9 => h9) rfl dX10_voyage_73 ?_
            refine lv_topi (fun x_47 ex_47 => ?_)
            have hx_47 : 0 ≤ x_47.toInt ∧ x_47.toInt ≤ 3000 := iv_of ex_47 (oInv.iv hIS_39 t_44.2 rfl rfl)
            have gx_47 : x_47.toInt = (oI S_39 o 0).toInt := iv_to ex_47
            clear ex_47
            have hFc := o_free hD hS hA
            refine va_callv (va_runI (As := [.int x_46, .int x1, .int x2, .int x_47]) (rest := [.ref q_38, .int x_37, .ref b_36]) ⟨hx, hb, hml, hown, hts⟩ (c_X9_init_c l dC dI H.size cq S_39 hIS_39 q_38 tq_38 x_46 x1 x2 (by omega) x_47 (by omega) (fun j => by rw [eS_39, add_I]) (fun j => by rw [eS_39, add_P])) (cwI 4 hts gX10_voyage_X9_init rfl rfl rfl (hts (.initialized RX9) iw_X10_voyage_5) (hts (.methodLink RX10 102 yX9_init) iw_X10_voyage_7) (hts (.instanceMethod yX9_init) iw_X10_voyage_8) rfl (by decide +kernel) ⟨(Nat.le_of_ble_eq_true rfl), (Nat.le_of_ble_eq_true rfl)⟩) (pr_S hP hK hD) rfl rfl hl.1 rfl (lv_room (Nat.le_of_ble_eq_true rfl)) dX10_voyage_76 ⟨(Nat.le_of_ble_eq_true rfl), (Nat.le_of_ble_eq_true rfl)⟩) hS (fun q _ h => hFc q h) hFc (fun u t H locs ht hvm w_48 hB hz1 hk1 hS => ?_)
            obtain ⟨S_50, rfl⟩ : ∃ z, z = u := ⟨_, rfl⟩
            obtain ⟨hP1, hK1, hD1⟩ := hB
            rw [ht] at hP1
            have hP : va_P (dC, dI) vwCl (oW cq S_50) H := hP1
            have hD : va_D A (oW cq S_50) := hD1.weaken (fun _ _ _ h => hFc _ h)
            clear hP1 hK1 hD1 hk1 hz1 hvm ht hFc
            obtain ⟨hIS_50, XS_50, hx_51⟩ := w_48
            obtain ⟨hxS_50, hcS_50⟩ := hx_51
            have X_52 : oX [1004, 2015, 2107] Z S_50 := oX.c X_43 XS_50 nzq_38 (by decide +kernel)
            have sr_53 : oP S_50 o 3 = some b_36 := by rw [oXc.p XS_50 (ty_ne t_44 tq_38 (by decide +kernel)) t_44 (by decide +kernel)]; exact sr_40
            have g_54 : (oI S_50 o 0).toInt = (oI S_39 o 0).toInt := by rw [oXc.i XS_50 (ty_ne t_44 tq_38 (by decide +kernel)) t_44 (by decide +kernel)]
            have g_55 : (oI S_50 o 4).toInt = (oI S_39 o 4).toInt := by rw [oXc.i XS_50 (ty_ne t_44 tq_38 (by decide +kernel)) t_44 (by decide +kernel)]
            have fzS_50 : oX [] Z S_50 := oX.c (W := []) (oX.st oX.rf XS_39 (by decide +kernel)) XS_50 nzq_38 (by decide +kernel)
            have t_56 : oty S_50 b_36 15 := (oXc.ty XS_50 (ty_ne (oX.ty XS_39 tb_36) tq_38 (by decide +kernel)) (oX.ty XS_39 tb_36))
            obtain ⟨q_57, hq_57⟩ := og (cq := cq) t_56.1 (oE_15 t_56.2)
            obtain ⟨q_58, hq_58⟩ := og (cq := cq) hxS_50.1 (oE_9 hxS_50.2)
            refine va_astq (r := (RX9, TX9, 10)) hx hb hK hP hD hS q_57 4 q_58 9 hq_57 rfl hq_58 rfl (vp_in_iff.mpr (by omega)) dX10_voyage_79 (fun H locs hP1 hD1 hS => ?_)
            obtain ⟨S_59, eS_59⟩ : ∃ zq, zq = setP S_50 b_36 (x_37 : Int32).toNatClampNeg (some q_38) := ⟨_, rfl⟩
            have hP : va_P (dC, dI) vwCl (oW cq S_59) H := by rw [eS_59]; exact cP (oset t_56.1 hq_57 hD rfl (he_15 t_56.2) neP) hP1
            have hD : va_D A (oW cq S_59) := by rw [eS_59]; exact cD (oset t_56.1 hq_57 hD rfl (he_15 t_56.2) neP) hD1
            clear hP1 hD1
            have hIS_59 : oInv S_59 := by rw [eS_59]; exact oInv.P (k := 15) hIS_50 t_56.2 (by decide +kernel) rfl (fun h => absurd h.1 (by decide +kernel)) hxS_50 (show 9 ≤ 9 ∧ 9 ≤ 9 from ⟨Nat.le_refl _, Nat.le_refl _⟩)
            have XS_59 : oX [2015] S_50 S_59 := by rw [eS_59]; exact oX.P (k := 15) (key := 2015) t_56.2 rfl (List.mem_singleton.mpr rfl)
            have X_60 : oX [1004, 2015, 2107] Z S_59 := oX.st X_52 XS_59 (by decide +kernel)
            have g_61 : (oI S_59 o 0).toInt = (oI S_50 o 0).toInt := by rw [eS_59]; rfl
            have g_62 : (oI S_59 o 4).toInt = (oI S_50 o 4).toInt := by rw [eS_59]; rfl
            have helS_59 : oP S_59 b_36 (x_37 : Int32).toNatClampNeg = some q_38 := by rw [eS_59, setP_same]
            have hsrS_59 : oP S_59 o 3 = some b_36 := by rw [eS_59, setP_oth (ty_ne (oXc.ty XS_50 (ty_ne t_44 tq_38 (by decide +kernel)) t_44) t_56 (by decide +kernel))]; exact sr_53
            refine lv_aload_n hx hb dX10_voyage_80 rfl (lv_at hl 0 rfl) ?_
            refine lv_dup hx hb dX10_voyage_81 rfl ?_
            have t_63 : oty S_59 o 10 := (oX.ty XS_59 (oXc.ty XS_50 (ty_ne t_44 tq_38 (by decide +kernel)) t_44))
            obtain ⟨q_64, hq_64⟩ := og (cq := cq) t_63.1 (oE_10 t_63.2)
            refine va_get (D := (dC, dI)) (ci := 10) (v := .int (oI S_59 o 4)) (C := RX10) (T := TX10) (N := 16) hx hb hts in_wsX10_voyage_X10 hown hK hP q_64 hq_64 rfl 4 (by decide +kernel) (hts (.fieldLink RX10 99 "ShipOffice" "voyageCount" "I") iw_X10_voyage_1) (fun _ h9 => h9) rfl dX10_voyage_82 ?_
            refine lv_topi (fun x_65 ex_65 => ?_)
            have hx_65 : 0 ≤ x_65.toInt ∧ x_65.toInt ≤ 21 := iv_of ex_65 (by omega)
            have gx_65 : x_65.toInt = (oI S_59 o 4).toInt := iv_to ex_65
            clear ex_65
            refine lv_iconst (v := 1) hx hb dX10_voyage_85 (by decide +kernel) ?_
            refine lv_iadd hx hb dX10_voyage_86 ?_
            refine lv_topi (fun x_66 ex_66 => ?_)
            have hx_66 : x_66.toInt = x_65.toInt + 1 := (iv_to ex_66).trans (ad_i rfl (by decide +kernel) (by omega) (by omega))
            clear ex_66
            refine va_put (D := (dC, dI)) (ci := 10) (v := .int x_66) (ty := .int) (C := RX10) (T := TX10) (N := 16) hx hb hts in_wsX10_voyage_X10 tyX10 tyX10_ok nmX10 hown hK hP hD hS q_64 hq_64 rfl 4 (by decide +kernel) (hts (.fieldLink RX10 99 "ShipOffice" "voyageCount" "I") iw_X10_voyage_1) (fun _ h9 => h9) rfl (by decide +kernel) rfl rfl (Nat.le_of_ble_eq_true rfl) dX10_voyage_87 (fun H locs hP1 hD1 hS => ?_)
            obtain ⟨S_67, eS_67⟩ : ∃ zq, zq = setI S_59 o 4 x_66 := ⟨_, rfl⟩
            have hP : va_P (dC, dI) vwCl (oW cq S_67) H := by rw [eS_67]; exact cP (oset t_63.1 hq_64 hD rfl (he_10_4 t_63.2) neI) hP1
            have hD : va_D A (oW cq S_67) := by rw [eS_67]; exact cD (oset t_63.1 hq_64 hD rfl (he_10_4 t_63.2) neI) hD1
            clear hP1 hD1
            have hIS_67 : oInv S_67 := by rw [eS_67]; exact oInv.I (k := 10) (lo := 0) (hi := 20) hIS_59 t_63.2 (by decide +kernel) rfl rfl (by omega) (inv_cnt hIS_59 t_63 rfl hsrS_59 (by omega) (by omega) ⟨_, by rw [← cnt_at (x := x_37) (S := S_59) (a := o) (i := 4) (by omega)]; exact helS_59⟩)
            have XS_67 : oX [1004] S_59 S_67 := by rw [eS_67]; exact oX.I (k := 10) (key := 1004) t_63.2 rfl (List.mem_singleton.mpr rfl)
            have X_68 : oX [1004, 2015, 2107] Z S_67 := oX.st X_60 XS_67 (by decide +kernel)
            have g_69 : (oI S_67 o 0).toInt = (oI S_59 o 0).toInt := by rw [eS_67, setI_ne (by decide +kernel)]
            have g_70 : (oI S_67 o 4).toInt = x_66.toInt := by rw [eS_67, setI_same]
            refine lv_aload_n hx hb dX10_voyage_90 rfl (lv_at hl 0 rfl) ?_
            have t_71 : oty S_67 o 10 := (oX.ty XS_67 t_63)
            obtain ⟨q_72, hq_72⟩ := og (cq := cq) t_71.1 (oE_10 t_71.2)
            refine va_get (D := (dC, dI)) (ci := 10) (v := .int (oI S_67 o 4)) (C := RX10) (T := TX10) (N := 16) hx hb hts in_wsX10_voyage_X10 hown hK hP q_72 hq_72 rfl 4 (by decide +kernel) (hts (.fieldLink RX10 99 "ShipOffice" "voyageCount" "I") iw_X10_voyage_1) (fun _ h9 => h9) rfl dX10_voyage_91 ?_
            refine lv_topi (fun x_73 ex_73 => ?_)
            have hx_73 : 0 ≤ x_73.toInt ∧ x_73.toInt ≤ 21 := iv_of ex_73 (by omega)
            have gx_73 : x_73.toInt = (oI S_67 o 4).toInt := iv_to ex_73
            clear ex_73
            refine lv_iconst (v := 1) hx hb dX10_voyage_94 (by decide +kernel) ?_
            refine lv_isub hx hb dX10_voyage_95 ?_
            refine lv_topi (fun x_74 ex_74 => ?_)
            have hx_74 : x_74.toInt = x_73.toInt - 1 := (iv_to ex_74).trans (sb_i rfl (by decide +kernel) (by omega) (by omega))
            clear ex_74
            exact W.iret (v := x_74) hx hb hr (fun t ht hW => ⟨⟨x_74, S_67, rfl, ⟨hIS_67, X_68, ⟨by have kc0 : (0 : Int32).toInt = 0 := (by decide +kernel); have kc1 : (1 : Int32).toInt = 1 := (by decide +kernel); have kc2 : (2 : Int32).toInt = 2 := (by decide +kernel); (first | exact Or.inr (Or.inr (Or.inr (⟨by omega, by omega, by omega, by omega⟩))) | (unfold aVy; omega)), Or.inr ⟨by have kc0 : (0 : Int32).toInt = 0 := (by decide +kernel); have kc1 : (1 : Int32).toInt = 1 := (by decide +kernel); have kc2 : (2 : Int32).toInt = 2 := (by decide +kernel); omega, (by refine ⟨q_38, S_50, x_66, nzq_38, fzS_50, hxS_50, ?_, by omega, ?_⟩; obtain ⟨h0, h1, h2, h3, h4, h5, h6, h7, h8, h9⟩ := hcS_50; exact ⟨h0.trans (Int32.toInt_inj.mp (by omega)), h1, h2, h3.trans (Int32.toInt_inj.mp (by omega)), h4, h5, h6, h7, h8, h9⟩; rw [eS_67, eS_59, oQ_e hb_36, (show x_37 = oI Z o 4 from Int32.toInt_inj.mp (by omega))])⟩⟩⟩, ⟨by rw [ht]; exact hP, va_K.moved hW.alike hK, hD⟩⟩, hS.F ht⟩) hS.2.2 dX10_voyage_96
          · have dc_35 := c_nlt (a := x_34.toInt) (b := 20) rfl (by decide +kernel) c_35
            refine lv_aload_n hx hb dX10_voyage_47 rfl (lv_at hl 0 rfl) ?_
            refine lv_bipush (v := (-6)) hx hb dX10_voyage_48 (by decide +kernel) ?_
            have hFc := o_free hD hS hA
            refine va_calli (va_runV (As := [.int (-6)]) (rest := []) ⟨hx, hb, hml, hown, hts⟩ (c_X10_refuse_c l dC dI H.size cq Z gI o to (-6) (by decide +kernel)) (cwV 1 hts gX10_voyage_X10_refuse rfl rfl rfl (by decide +kernel) ⟨(Nat.le_of_ble_eq_true rfl), (Nat.le_of_ble_eq_true rfl)⟩) (pr_V (r := (RX10, TX10, 16)) hP hK hD q_28 10 rfl hq_28) rfl rfl hl.1 rfl (lv_room (Nat.le_of_ble_eq_true rfl)) dX10_voyage_50 ⟨(Nat.le_of_ble_eq_true rfl), (Nat.le_of_ble_eq_true rfl)⟩) hS (fun q _ h => hFc q h) hFc (fun r_76 u t H locs ht hvm w_75 hB hz1 hk1 hS => ?_)
            obtain ⟨S_77, rfl⟩ : ∃ z, z = u := ⟨_, rfl⟩
            obtain ⟨hP1, hK1, hD1⟩ := hB
            rw [ht] at hP1
            have hP : va_P (dC, dI) vwCl (oW cq S_77) H := hP1
            have hD : va_D A (oW cq S_77) := hD1.weaken (fun _ _ _ h => hFc _ h)
            clear hP1 hK1 hD1 hk1 hz1 hvm ht hFc
            obtain ⟨hIS_77, XS_77, hb_78, hx_79⟩ := w_75
            have X_80 : oX [1004, 2015, 2107] Z S_77 := oX.st oX.rf XS_77 (by decide +kernel)
            have g_81 : (oI S_77 o 0).toInt = (oI Z o 0).toInt := by rw [oX.i XS_77 to (by decide +kernel)]
            have g_82 : (oI S_77 o 4).toInt = (oI Z o 4).toInt := by rw [oX.i XS_77 to (by decide +kernel)]
            have rf_83 : r_76.toInt = -6 := by rw [hx_79.1]; decide
            refine W.widen (k := 1) (n := 10) (Nat.le_of_ble_eq_true rfl) (Nat.le_of_ble_eq_true rfl) ?_
            exact W.iret (v := r_76) hx hb hr (fun t ht hW => ⟨⟨r_76, S_77, rfl, ⟨hIS_77, X_80, ⟨by have kc0 : (0 : Int32).toInt = 0 := (by decide +kernel); have kc1 : (1 : Int32).toInt = 1 := (by decide +kernel); have kc2 : (2 : Int32).toInt = 2 := (by decide +kernel); (first | exact Or.inr (Or.inr (Or.inl ⟨by omega, by omega, by omega, by omega⟩)) | (unfold aVy; omega)), (Or.inl ⟨by omega, by rw [hx_79.1]; exact hx_79.2⟩)⟩⟩, ⟨by rw [ht]; exact hP, va_K.moved hW.alike hK, hD⟩⟩, hS.F ht⟩) hS.2.2 dX10_voyage_53
        · have dc_33 := c_ne (a := r_30.toInt) (b := 0) rfl (by decide +kernel) c_33
          refine lv_aload_n hx hb dX10_voyage_31 rfl (lv_at hl 0 rfl) ?_
          refine lv_bipush (v := (-3)) hx hb dX10_voyage_32 (by decide +kernel) ?_
          have hFc := o_free hD hS hA
          refine va_calli (va_runV (As := [.int (-3)]) (rest := []) ⟨hx, hb, hml, hown, hts⟩ (c_X10_refuse_c l dC dI H.size cq Z gI o to (-3) (by decide +kernel)) (cwV 1 hts gX10_voyage_X10_refuse rfl rfl rfl (by decide +kernel) ⟨(Nat.le_of_ble_eq_true rfl), (Nat.le_of_ble_eq_true rfl)⟩) (pr_V (r := (RX10, TX10, 16)) hP hK hD q_28 10 rfl hq_28) rfl rfl hl.1 rfl (lv_room (Nat.le_of_ble_eq_true rfl)) dX10_voyage_34 ⟨(Nat.le_of_ble_eq_true rfl), (Nat.le_of_ble_eq_true rfl)⟩) hS (fun q _ h => hFc q h) hFc (fun r_85 u t H locs ht hvm w_84 hB hz1 hk1 hS => ?_)
          obtain ⟨S_86, rfl⟩ : ∃ z, z = u := ⟨_, rfl⟩
          obtain ⟨hP1, hK1, hD1⟩ := hB
          rw [ht] at hP1
          have hP : va_P (dC, dI) vwCl (oW cq S_86) H := hP1
          have hD : va_D A (oW cq S_86) := hD1.weaken (fun _ _ _ h => hFc _ h)
          clear hP1 hK1 hD1 hk1 hz1 hvm ht hFc
          obtain ⟨hIS_86, XS_86, hb_87, hx_88⟩ := w_84
          have X_89 : oX [1004, 2015, 2107] Z S_86 := oX.st oX.rf XS_86 (by decide +kernel)
          have g_90 : (oI S_86 o 0).toInt = (oI Z o 0).toInt := by rw [oX.i XS_86 to (by decide +kernel)]
          have g_91 : (oI S_86 o 4).toInt = (oI Z o 4).toInt := by rw [oX.i XS_86 to (by decide +kernel)]
          have rf_92 : r_85.toInt = -3 := by rw [hx_88.1]; decide
          refine W.widen (k := 1) (n := 10) (Nat.le_of_ble_eq_true rfl) (Nat.le_of_ble_eq_true rfl) ?_
          exact W.iret (v := r_85) hx hb hr (fun t ht hW => ⟨⟨r_85, S_86, rfl, ⟨hIS_86, X_89, ⟨by have kc0 : (0 : Int32).toInt = 0 := (by decide +kernel); have kc1 : (1 : Int32).toInt = 1 := (by decide +kernel); have kc2 : (2 : Int32).toInt = 2 := (by decide +kernel); (first | exact Or.inr (Or.inl ⟨by omega, by omega, by omega⟩) | (unfold aVy; omega)), (Or.inl ⟨by omega, by rw [hx_88.1]; exact hx_88.2⟩)⟩⟩, ⟨by rw [ht]; exact hP, va_K.moved hW.alike hK, hD⟩⟩, hS.F ht⟩) hS.2.2 dX10_voyage_37
      · have dc_27 := c_eq (a := r_24.toInt) (b := 0) rfl (by decide +kernel) c_27
        refine lv_aload_n hx hb dX10_voyage_17 rfl (lv_at hl 0 rfl) ?_
        refine lv_iconst (v := (-1)) hx hb dX10_voyage_18 (by decide +kernel) ?_
        have hFc := o_free hD hS hA
        obtain ⟨q_93, hq_93⟩ := og (cq := cq) to.1 (oE_10 to.2)
        refine va_calli (va_runV (As := [.int (-1)]) (rest := []) ⟨hx, hb, hml, hown, hts⟩ (c_X10_refuse_c l dC dI H.size cq Z gI o to (-1) (by decide +kernel)) (cwV 1 hts gX10_voyage_X10_refuse rfl rfl rfl (by decide +kernel) ⟨(Nat.le_of_ble_eq_true rfl), (Nat.le_of_ble_eq_true rfl)⟩) (pr_V (r := (RX10, TX10, 16)) hP hK hD q_93 10 rfl hq_93) rfl rfl hl.1 rfl (lv_room (Nat.le_of_ble_eq_true rfl)) dX10_voyage_19 ⟨(Nat.le_of_ble_eq_true rfl), (Nat.le_of_ble_eq_true rfl)⟩) hS (fun q _ h => hFc q h) hFc (fun r_95 u t H locs ht hvm w_94 hB hz1 hk1 hS => ?_)
        obtain ⟨S_96, rfl⟩ : ∃ z, z = u := ⟨_, rfl⟩
        obtain ⟨hP1, hK1, hD1⟩ := hB
        rw [ht] at hP1
        have hP : va_P (dC, dI) vwCl (oW cq S_96) H := hP1
        have hD : va_D A (oW cq S_96) := hD1.weaken (fun _ _ _ h => hFc _ h)
        clear hP1 hK1 hD1 hk1 hz1 hvm ht hFc
        obtain ⟨hIS_96, XS_96, hb_97, hx_98⟩ := w_94
        have X_99 : oX [1004, 2015, 2107] Z S_96 := oX.st oX.rf XS_96 (by decide +kernel)
        have g_100 : (oI S_96 o 0).toInt = (oI Z o 0).toInt := by rw [oX.i XS_96 to (by decide +kernel)]
        have g_101 : (oI S_96 o 4).toInt = (oI Z o 4).toInt := by rw [oX.i XS_96 to (by decide +kernel)]
        have rf_102 : r_95.toInt = -1 := by rw [hx_98.1]; decide
        refine W.widen (k := 1) (n := 10) (Nat.le_of_ble_eq_true rfl) (Nat.le_of_ble_eq_true rfl) ?_
        exact W.iret (v := r_95) hx hb hr (fun t ht hW => ⟨⟨r_95, S_96, rfl, ⟨hIS_96, X_99, ⟨by have kc0 : (0 : Int32).toInt = 0 := (by decide +kernel); have kc1 : (1 : Int32).toInt = 1 := (by decide +kernel); have kc2 : (2 : Int32).toInt = 2 := (by decide +kernel); (first | exact Or.inl ⟨by omega, by omega⟩ | (unfold aVy; omega)), (Or.inl ⟨by omega, by rw [hx_98.1]; exact hx_98.2⟩)⟩⟩, ⟨by rw [ht]; exact hP, va_K.moved hW.alike hK, hD⟩⟩, hS.F ht⟩) hS.2.2 dX10_voyage_22
