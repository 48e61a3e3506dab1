


set_option maxHeartbeats 4000000 in
set_option maxRecDepth 100000 in
theorem c_X8_parseUnit_0f (l : Launch) (dC : Nat → ClassId) (dI : Nat → Nat → Nat) (sz : Nat) (tL tS tG : Nat) (cq : Nat → ClassId) (Z : oS) (gI : oInv Z) (o : Nat) (to : oty Z o 8) (x1 : Int32) (hx1 : 0 ≤ x1.toInt ∧ x1.toInt ≤ 0) (rw : Nat) (hrw : oP Z o 0 = some rw) (cd : Nat) (hcd : oP Z o 2 = some cd) (hft : (oI Z o 5).toInt = -1) (hcz : (oI Z o 3).toInt ≤ (oI Z o 4).toInt) : Met l yX8_parseUnit wsX8_parseUnit ({ frames := 22, cells := 0, slots := 0, locals := 493 }) (va_Pc [.ref o, .int x1] (pcO (dC, dI) (oT cq) (oW cq Z) sz tL tS tG (oW cq Z))) (va_Qv (fun (u : oS) => oInv u ∧ oX [803, 804, 805, 2063] Z u ∧ (tR Z u o cd (cU (tC Z o rw) 5 (tA Z o)))) (fun u t => va_P (dC, dI) vwCl (oW cq u) t.heap ∧ va_K (dC, dI) vwCl (oT cq) t ∧ va_D (va_A (oW cq Z) sz) (oW cq u)) (va_A (oW cq Z) sz)) 0 0 (va_A (oW cq Z) sz) := by
  refine Met.ofW (cc := cX8_parseUnit) (maxL := 3) (ret := none) (by decide +kernel) rfl ?_
  intro p e s m args below meth c s₁ B hml hv
  obtain ⟨rfl, ⟨hsz, hP, hK, hD0⟩, hZ⟩ := hv
  have hx := B.exec
  have hb := B.bytes
  have hr := B.returns
  have hts := atoms_spec (ws := wsX8_parseUnit) B.pre
  have hown : s.vm.findClass RX8 = some m.cls := findClass_of_methodNamed B.named
  have hlocks := B.notSynchronized
  subst hsz
  have hD := hD0.self (sz := s.heap.size)
  generalize hAe : va_A (oW cq Z) s.heap.size = A at hD hZ ⊢
  have hA : ∀ q : Nat, s.heap.size ≤ q → A q := fun q h => by rw [← hAe]; exact Or.inr h
  have hS : va_S A s.heap s.heap [] := va_S.rf
  have hP : va_P (dC, dI) vwCl (oW cq Z) s.heap := hP
  have hl := lv_entry ([.ref o, .int x1]) (n := 3) (Nat.le_of_ble_eq_true rfl)
  rw [lg_entry_eq]
  generalize (lg_sl ([.ref o, .int x1]) ++ List.replicate (3 - (lg_sl ([.ref o, .int x1])).length) Slot.unset).toArray = ls at hl ⊢
  have hl : lv_has ls 3 [(0, .ref o), (1, .int x1)] := hl
  have trw : oty Z rw 160 := oInv.rd gI to.2 hrw rfl rfl
  have tcd : oty Z cd 63 := oInv.rd gI to.2 hcd rfl rfl
  have iv_1 : 0 ≤ (oI Z o 1).toInt ∧ (oI Z o 1).toInt ≤ 60 := oInv.iv gI to.2 rfl rfl
  have iv_2 : 0 ≤ (oI Z o 3).toInt ∧ (oI Z o 3).toInt ≤ 60 := oInv.iv gI to.2 rfl rfl
  have iv_3 : 0 ≤ (oI Z o 4).toInt ∧ (oI Z o 4).toInt ≤ 60 := oInv.iv gI to.2 rfl rfl
  refine lv_aload_n hx hb dX8_parseUnit_0 rfl (lv_at hl 0 rfl) ?_
  have hFc : ∀ q, va_A [] s.heap.size q → A q := pu_free hS hA
  obtain ⟨q_4, hq_4⟩ := og (cq := cq) to.1 (oE_8 to.2)
  refine va_calli (va_runV (As := []) (rest := []) ⟨hx, hb, hml, hown, hts⟩ (c_X8_letterHere_f l dC dI s.heap.size tL tS tG cq Z gI o to rw hrw) (cwV 0 hts gX8_parseUnit_X8_letterHere rfl rfl rfl (by decide +kernel) ⟨(Nat.le_of_ble_eq_true rfl), (Nat.le_of_ble_eq_true rfl)⟩) (pr_VO (r := (RX8, TX8, 6)) hP hK hD q_4 8 rfl hq_4 (hZ.go hS hFc)) rfl rfl hl.1 rfl (lv_room (Nat.le_of_ble_eq_true rfl)) dX8_parseUnit_1 ⟨(Nat.le_of_ble_eq_true rfl), (Nat.le_of_ble_eq_true rfl)⟩) hS (fun q _ h => hFc q h) hFc (fun r_6 u t H locs ht hvm w_5 hB hz1 hk1 hS => ?_)
  have hP := pu_keep hP hk1
  clear hk1 hz1 hvm hB ht hFc
  obtain ⟨hb_7, hx_8⟩ := w_5
  refine lv_istore_n (lv' := [(2, .int r_6), (0, .ref o), (1, .int x1)]) hx hb dX8_parseUnit_4 rfl hl (by decide +kernel) rfl (fun ls hl => ?_)
  refine lv_aload_n hx hb dX8_parseUnit_5 rfl (lv_at hl 1 rfl) ?_
  have hFc : ∀ q, va_A [] H.size q → A q := pu_free hS hA
  refine va_calli (va_runV (As := []) (rest := []) ⟨hx, hb, hml, hown, hts⟩ (c_X8_seesDigit_f l dC dI H.size cq Z gI o to rw hrw) (cwV 0 hts gX8_parseUnit_X8_seesDigit rfl rfl rfl (by decide +kernel) ⟨(Nat.le_of_ble_eq_true rfl), (Nat.le_of_ble_eq_true rfl)⟩) (pr_V (r := (RX8, TX8, 6)) hP hK hD q_4 8 rfl hq_4) rfl rfl hl.1 rfl (lv_room (Nat.le_of_ble_eq_true rfl)) dX8_parseUnit_6 ⟨(Nat.le_of_ble_eq_true rfl), (Nat.le_of_ble_eq_true rfl)⟩) hS (fun q _ h => hFc q h) hFc (fun r_10 u t H locs ht hvm w_9 hB hz1 hk1 hS => ?_)
  have hP := pu_keep hP hk1
  clear hk1 hz1 hvm hB ht hFc
  obtain ⟨hb_11, hx_12⟩ := w_9
  refine lv_if_eq (tgt := 19) hx hb dX8_parseUnit_9 (by decide +kernel) (fun c_13 => ?_) (fun c_13 => ?_)
  · have dc_13 := c_eq (a := r_10.toInt) (b := 0) rfl (by decide +kernel) c_13
    have bz_14 := bz0 hx_12 c_13
    refine lv_iload_n hx hb dX8_parseUnit_19 rfl (lv_at hl 0 rfl) ?_
    refine lv_if_lt (tgt := 43) hx hb dX8_parseUnit_20 (by decide +kernel) (fun c_15 => ?_) (fun c_15 => ?_)
    · have dc_15 := c_lt (a := r_6.toInt) (b := 0) rfl (by decide +kernel) c_15
      have lh_16 := lh0 hx_8 (by omega)
      refine lv_aload_n hx hb dX8_parseUnit_43 rfl (lv_at hl 1 rfl) ?_
      refine lv_bipush (v := 40) hx hb dX8_parseUnit_44 (by decide +kernel) ?_
      have hFc : ∀ q, va_A [] H.size q → A q := pu_free hS hA
      refine va_calli (va_runV (As := [.int 40]) (rest := []) ⟨hx, hb, hml, hown, hts⟩ (c_X8_sees_f l dC dI H.size cq Z gI o to 40 rw hrw (by decide +kernel)) (cwV 1 hts gX8_parseUnit_X8_sees rfl rfl rfl (by decide +kernel) ⟨(Nat.le_of_ble_eq_true rfl), (Nat.le_of_ble_eq_true rfl)⟩) (pr_V (r := (RX8, TX8, 6)) hP hK hD q_4 8 rfl hq_4) rfl rfl hl.1 rfl (lv_room (Nat.le_of_ble_eq_true rfl)) dX8_parseUnit_46 ⟨(Nat.le_of_ble_eq_true rfl), (Nat.le_of_ble_eq_true rfl)⟩) hS (fun q _ h => hFc q h) hFc (fun r_18 u t H locs ht hvm w_17 hB hz1 hk1 hS => ?_)
      have hP := pu_keep hP hk1
      clear hk1 hz1 hvm hB ht hFc
      obtain ⟨hb_19, hx_20⟩ := w_17
      refine lv_if_eq (tgt := 77) hx hb dX8_parseUnit_49 (by decide +kernel) (fun c_21 => ?_) (fun c_21 => ?_)
      · have dc_21 := c_eq (a := r_18.toInt) (b := 0) rfl (by decide +kernel) c_21
        have bz_22 := bz0 hx_20 c_21
        refine lv_aload_n hx hb dX8_parseUnit_77 rfl (lv_at hl 1 rfl) ?_
        refine lv_aload_n hx hb dX8_parseUnit_78 rfl (lv_at hl 1 rfl) ?_
        refine va_get (D := (dC, dI)) (ci := 8) (v := .int (oI Z o 4)) (C := RX8) (T := TX8) (N := 6) hx hb hts in_wsX8_parseUnit_X8 hown hK hP q_4 hq_4 rfl 4 (by decide +kernel) (hts (.fieldLink RX8 22 "ShipOffice$Tape" "at" "I") iw_X8_parseUnit_1) (fun _ h9 => h9) rfl dX8_parseUnit_79 ?_
        refine lv_topi (fun x_23 ex_23 => ?_)
        have hx_23 : 0 ≤ x_23.toInt ∧ x_23.toInt ≤ 60 := iv_of ex_23 (oInv.iv gI to.2 rfl rfl)
        have gx_23 : x_23.toInt = (oI Z o 4).toInt := iv_to ex_23
        clear ex_23
        refine va_put (D := (dC, dI)) (ci := 8) (v := .int x_23) (ty := .int) (C := RX8) (T := TX8) (N := 6) hx hb hts in_wsX8_parseUnit_X8 tyX8 tyX8_ok nmX8 hown hK hP hD hS q_4 hq_4 rfl 5 (by decide +kernel) (hts (.fieldLink RX8 28 "ShipOffice$Tape" "fault" "I") iw_X8_parseUnit_2) (fun _ h9 => h9) rfl (by decide +kernel) rfl rfl (Nat.le_of_ble_eq_true rfl) dX8_parseUnit_82 (fun H locs hP1 hD1 hS => ?_)
        obtain ⟨S_24, eS_24⟩ : ∃ zq, zq = setI Z o 5 x_23 := ⟨_, rfl⟩
        have hP : va_P (dC, dI) vwCl (oW cq S_24) H := by rw [eS_24]; exact cP (oset to.1 hq_4 hD rfl (he_8_5 to.2) neI) hP1
        have hD : va_D A (oW cq S_24) := by rw [eS_24]; exact cD (oset to.1 hq_4 hD rfl (he_8_5 to.2) neI) hD1
        clear hP1 hD1
        have hIS_24 : oInv S_24 := by rw [eS_24]; exact oInv.I0 (k := 8) (lo := -2147483648) (hi := 2147483647) gI to.2 (by decide +kernel) rfl rfl rfl (iv_all _)
        have XS_24 : oX [805] Z S_24 := by rw [eS_24]; exact oX.I (k := 8) (key := 805) to.2 rfl (List.mem_singleton.mpr rfl)
        have pk_25 : oP S_24 o 0 = some rw := by rw [eS_24]; exact hrw
        have pk_26 : oP S_24 o 2 = some cd := by rw [eS_24]; exact hcd
        have X_27 : oX [803, 804, 805, 2063] Z S_24 := oX.st oX.rf XS_24 (by decide +kernel)
        have g_28 : (oI S_24 o 1).toInt = (oI Z o 1).toInt := by rw [eS_24, setI_ne (by decide +kernel)]
        have g_29 : (oI S_24 o 3).toInt = (oI Z o 3).toInt := by rw [eS_24, setI_ne (by decide +kernel)]
        have g_30 : (oI S_24 o 4).toInt = (oI Z o 4).toInt := by rw [eS_24, setI_ne (by decide +kernel)]
        have g_31 : (oI S_24 o 5).toInt = x_23.toInt := by rw [eS_24, setI_same]
        exact W.vret hx hb hr (fun t ht hW => ⟨⟨S_24, rfl, ⟨hIS_24, X_27, (Eq.mpr (congrArg (tR Z S_24 o cd) ((congrFun pU_s _).trans (uX_e lh_16 bz_22 (pNum_e bz_14)))) (tR_brk0 to XS_24 (by omega) (by omega)))⟩, ⟨by rw [ht]; exact hP, va_K.moved hW.alike hK, hD⟩⟩, hS.F ht⟩) hS.2.2 dX8_parseUnit_85
      · have dc_21 := c_ne (a := r_18.toInt) (b := 0) rfl (by decide +kernel) c_21
        have bz_32 := bz1 hx_20 c_21
        have iv_33 : 0 ≤ (oI Z o 4).toInt ∧ (oI Z o 4).toInt ≤ 60 := oInv.iv gI to.2 rfl rfl
        have iv_34 : 0 ≤ (oI Z o 1).toInt ∧ (oI Z o 1).toInt ≤ 60 := oInv.iv gI to.2 rfl rfl
        have lt_35 := sf_lt (by decide +kernel) bz_32 (by omega)
        refine lv_iload_n hx hb dX8_parseUnit_52 rfl (lv_at hl 2 rfl) ?_
        refine lv_iconst (v := 5) hx hb dX8_parseUnit_53 (by decide +kernel) ?_
        refine lv_icmp_ge (tgt := 77) hx hb dX8_parseUnit_54 (by decide +kernel) (fun c_36 => ?_) (fun c_36 => ?_)
        · have dc_36 := c_le (a := 5) (b := x1.toInt) (by decide +kernel) rfl c_36
          exfalso; omega
        · have dc_36 := c_nle (a := 5) (b := x1.toInt) (by decide +kernel) rfl c_36
          refine lv_aload_n hx hb dX8_parseUnit_57 rfl (lv_at hl 1 rfl) ?_
          refine lv_dup hx hb dX8_parseUnit_58 rfl ?_
          refine va_get (D := (dC, dI)) (ci := 8) (v := .int (oI Z o 4)) (C := RX8) (T := TX8) (N := 6) hx hb hts in_wsX8_parseUnit_X8 hown hK hP q_4 hq_4 rfl 4 (by decide +kernel) (hts (.fieldLink RX8 22 "ShipOffice$Tape" "at" "I") iw_X8_parseUnit_1) (fun _ h9 => h9) rfl dX8_parseUnit_59 ?_
          refine lv_topi (fun x_37 ex_37 => ?_)
          have hx_37 : 0 ≤ x_37.toInt ∧ x_37.toInt ≤ 60 := iv_of ex_37 (oInv.iv gI to.2 rfl rfl)
          have gx_37 : x_37.toInt = (oI Z o 4).toInt := iv_to ex_37
          clear ex_37
          refine lv_iconst (v := 1) hx hb dX8_parseUnit_62 (by decide +kernel) ?_
          refine lv_iadd hx hb dX8_parseUnit_63 ?_
          refine lv_topi (fun x_38 ex_38 => ?_)
          have hx_38 : x_38.toInt = x_37.toInt + 1 := (iv_to ex_38).trans (ad_i rfl (by decide +kernel) (by omega) (by omega))
          refine va_put (D := (dC, dI)) (ci := 8) (v := .int x_38) (ty := .int) (C := RX8) (T := TX8) (N := 6) hx hb hts in_wsX8_parseUnit_X8 tyX8 tyX8_ok nmX8 hown hK hP hD hS q_4 hq_4 rfl 4 (by decide +kernel) (hts (.fieldLink RX8 22 "ShipOffice$Tape" "at" "I") iw_X8_parseUnit_1) (fun _ h9 => h9) rfl (by decide +kernel) rfl rfl (Nat.le_of_ble_eq_true rfl) dX8_parseUnit_64 (fun H locs hP1 hD1 hS => ?_)
          obtain ⟨S_39, eS_39⟩ : ∃ zq, zq = setI Z o 4 x_38 := ⟨_, rfl⟩
          have hP : va_P (dC, dI) vwCl (oW cq S_39) H := by rw [eS_39]; exact cP (oset to.1 hq_4 hD rfl (he_8_4 to.2) neI) hP1
          have hD : va_D A (oW cq S_39) := by rw [eS_39]; exact cD (oset to.1 hq_4 hD rfl (he_8_4 to.2) neI) hD1
          clear hP1 hD1
          have hIS_39 : oInv S_39 := by rw [eS_39]; exact oInv.I0 (k := 8) (lo := 0) (hi := 60) gI to.2 (by decide +kernel) rfl rfl rfl (by omega)
          have XS_39 : oX [804] Z S_39 := by rw [eS_39]; exact oX.I (k := 8) (key := 804) to.2 rfl (List.mem_singleton.mpr rfl)
          have pk_40 : oP S_39 o 0 = some rw := by rw [eS_39]; exact hrw
          have pk_41 : oP S_39 o 2 = some cd := by rw [eS_39]; exact hcd
          have X_42 : oX [803, 804, 805, 2063] Z S_39 := oX.st oX.rf XS_39 (by decide +kernel)
          have g_43 : (oI S_39 o 1).toInt = (oI Z o 1).toInt := by rw [eS_39, setI_ne (by decide +kernel)]
          have g_44 : (oI S_39 o 3).toInt = (oI Z o 3).toInt := by rw [eS_39, setI_ne (by decide +kernel)]
          have g_45 : (oI S_39 o 4).toInt = x_38.toInt := by rw [eS_39, setI_same]
          have g_46 : (oI S_39 o 5).toInt = (oI Z o 5).toInt := by rw [eS_39, setI_ne (by decide +kernel)]
          refine lv_aload_n hx hb dX8_parseUnit_67 rfl (lv_at hl 1 rfl) ?_
          refine lv_iload_n hx hb dX8_parseUnit_68 rfl (lv_at hl 2 rfl) ?_
          refine lv_iconst (v := 1) hx hb dX8_parseUnit_69 (by decide +kernel) ?_
          refine lv_iadd hx hb dX8_parseUnit_70 ?_
          refine lv_topi (fun x_47 ex_47 => ?_)
          have hx_47 : x_47.toInt = x1.toInt + 1 := (iv_to ex_47).trans (ad_i rfl (by decide +kernel) (by omega) (by omega))
          have t_48 : oty S_39 o 8 := (oX.ty XS_39 to)
          have hFc := o_free hD hS hA
          obtain ⟨q_49, hq_49⟩ := og (cq := cq) t_48.1 (oE_8 t_48.2)
          refine va_callv (va_runV (As := [.int x_47]) (rest := []) ⟨hx, hb, hml, hown, hts⟩ (c_X8_parseBracket_1f l dC dI H.size tL tS tG cq S_39 hIS_39 o t_48 x_47 (by omega) rw pk_40 cd pk_41 (by omega) (by omega)) (cwV 1 hts gX8_parseUnit_X8_parseBracket rfl rfl rfl (by decide +kernel) ⟨(Nat.le_of_ble_eq_true rfl), (Nat.le_of_ble_eq_true rfl)⟩) (pr_VO (r := (RX8, TX8, 6)) hP hK hD q_49 8 rfl hq_49 (hZ.go hS hFc)) rfl rfl hl.1 rfl (lv_room (Nat.le_of_ble_eq_true rfl)) dX8_parseUnit_71 ⟨(Nat.le_of_ble_eq_true rfl), (Nat.le_of_ble_eq_true rfl)⟩) hS (fun q _ h => hFc q h) hFc (fun u t H locs ht hvm w_50 hB hz1 hk1 hS => ?_)
          obtain ⟨S_52, rfl⟩ : ∃ z, z = u := ⟨_, rfl⟩
          obtain ⟨hP1, hK1, hD1⟩ := hB
          rw [ht] at hP1
          have hP : va_P (dC, dI) vwCl (oW cq S_52) H := hP1
          have hD : va_D A (oW cq S_52) := hD1.weaken (fun _ _ _ h => hFc _ h)
          clear hP1 hK1 hD1 hk1 hz1 hvm ht hFc
          obtain ⟨hIS_52, XS_52, hx_53⟩ := w_50
          have X_54 : oX [803, 804, 805, 2063] Z S_52 := oX.st X_42 XS_52 (by decide +kernel)
          have g_55 : (oI S_52 o 1).toInt = (oI S_39 o 1).toInt := by rw [oX.i XS_52 t_48 (by decide +kernel)]
          have pk_56 : oP S_52 o 0 = some rw := by rw [oX.p XS_52 t_48 (by decide +kernel)]; exact pk_40
          have pk_57 : oP S_52 o 2 = some cd := by rw [oX.p XS_52 t_48 (by decide +kernel)]; exact pk_41
          refine lv_goto (tgt := 85) hx hb dX8_parseUnit_74 (by decide +kernel) ?_
          exact W.vret hx hb hr (fun t ht hW => ⟨⟨S_52, rfl, ⟨hIS_52, X_54, (by have q1 := tA_i Z o; have q2 := tA_i S_39 o; have q4 : tA S_39 o = tA Z o + 1 := (by omega); have q3 := hx_53; rw [tX_C XS_39 to trw (by decide +kernel) (by decide +kernel), q4] at q3; exact Eq.mpr (congrArg (tR Z S_52 o cd) ((congrFun pU_s _).trans (uX_b bz_32))) (tR_at XS_39 to tcd q4 q3))⟩, ⟨by rw [ht]; exact hP, va_K.moved hW.alike hK, hD⟩⟩, hS.F ht⟩) hS.2.2 dX8_parseUnit_85
    · have dc_15 := c_nlt (a := r_6.toInt) (b := 0) rfl (by decide +kernel) c_15
      have lh_58 := lh1 hx_8 (by omega)
      have iv_59 : 0 ≤ (oI Z o 4).toInt ∧ (oI Z o 4).toInt ≤ 60 := oInv.iv gI to.2 rfl rfl
      have iv_60 : 0 ≤ (oI Z o 1).toInt ∧ (oI Z o 1).toInt ≤ 60 := oInv.iv gI to.2 rfl rfl
      have lt_61 := sf_l lh_58.1 (by omega)
      refine lv_aload_n hx hb dX8_parseUnit_23 rfl (lv_at hl 1 rfl) ?_
      refine lv_dup hx hb dX8_parseUnit_24 rfl ?_
      refine va_get (D := (dC, dI)) (ci := 8) (v := .int (oI Z o 4)) (C := RX8) (T := TX8) (N := 6) hx hb hts in_wsX8_parseUnit_X8 hown hK hP q_4 hq_4 rfl 4 (by decide +kernel) (hts (.fieldLink RX8 22 "ShipOffice$Tape" "at" "I") iw_X8_parseUnit_1) (fun _ h9 => h9) rfl dX8_parseUnit_25 ?_
      refine lv_topi (fun x_62 ex_62 => ?_)
      have hx_62 : 0 ≤ x_62.toInt ∧ x_62.toInt ≤ 60 := iv_of ex_62 (oInv.iv gI to.2 rfl rfl)
      have gx_62 : x_62.toInt = (oI Z o 4).toInt := iv_to ex_62
      clear ex_62
      refine lv_iconst (v := 1) hx hb dX8_parseUnit_28 (by decide +kernel) ?_
      refine lv_iadd hx hb dX8_parseUnit_29 ?_
      refine lv_topi (fun x_63 ex_63 => ?_)
      have hx_63 : x_63.toInt = x_62.toInt + 1 := (iv_to ex_63).trans (ad_i rfl (by decide +kernel) (by omega) (by omega))
      refine va_put (D := (dC, dI)) (ci := 8) (v := .int x_63) (ty := .int) (C := RX8) (T := TX8) (N := 6) hx hb hts in_wsX8_parseUnit_X8 tyX8 tyX8_ok nmX8 hown hK hP hD hS q_4 hq_4 rfl 4 (by decide +kernel) (hts (.fieldLink RX8 22 "ShipOffice$Tape" "at" "I") iw_X8_parseUnit_1) (fun _ h9 => h9) rfl (by decide +kernel) rfl rfl (Nat.le_of_ble_eq_true rfl) dX8_parseUnit_30 (fun H locs hP1 hD1 hS => ?_)
      obtain ⟨S_64, eS_64⟩ : ∃ zq, zq = setI Z o 4 x_63 := ⟨_, rfl⟩
      have hP : va_P (dC, dI) vwCl (oW cq S_64) H := by rw [eS_64]; exact cP (oset to.1 hq_4 hD rfl (he_8_4 to.2) neI) hP1
      have hD : va_D A (oW cq S_64) := by rw [eS_64]; exact cD (oset to.1 hq_4 hD rfl (he_8_4 to.2) neI) hD1
      clear hP1 hD1
      have hIS_64 : oInv S_64 := by rw [eS_64]; exact oInv.I0 (k := 8) (lo := 0) (hi := 60) gI to.2 (by decide +kernel) rfl rfl rfl (by omega)
      have XS_64 : oX [804] Z S_64 := by rw [eS_64]; exact oX.I (k := 8) (key := 804) to.2 rfl (List.mem_singleton.mpr rfl)
      have pk_65 : oP S_64 o 0 = some rw := by rw [eS_64]; exact hrw
      have pk_66 : oP S_64 o 2 = some cd := by rw [eS_64]; exact hcd
      have X_67 : oX [803, 804, 805, 2063] Z S_64 := oX.st oX.rf XS_64 (by decide +kernel)
      have g_68 : (oI S_64 o 1).toInt = (oI Z o 1).toInt := by rw [eS_64, setI_ne (by decide +kernel)]
      have g_69 : (oI S_64 o 3).toInt = (oI Z o 3).toInt := by rw [eS_64, setI_ne (by decide +kernel)]
      have g_70 : (oI S_64 o 4).toInt = x_63.toInt := by rw [eS_64, setI_same]
      have g_71 : (oI S_64 o 5).toInt = (oI Z o 5).toInt := by rw [eS_64, setI_ne (by decide +kernel)]
      refine lv_aload_n hx hb dX8_parseUnit_33 rfl (lv_at hl 1 rfl) ?_
      refine lv_iconst (v := (-1)) hx hb dX8_parseUnit_34 (by decide +kernel) ?_
      refine lv_iload_n hx hb dX8_parseUnit_35 rfl (lv_at hl 0 rfl) ?_
      refine lv_isub hx hb dX8_parseUnit_36 ?_
      refine lv_topi (fun x_72 ex_72 => ?_)
      have hx_72 : x_72.toInt = (-1) - r_6.toInt := (iv_to ex_72).trans (sb_i (by decide +kernel) rfl (by omega) (by omega))
      have t_73 : oty S_64 o 8 := (oX.ty XS_64 to)
      have hFc := o_free hD hS hA
      obtain ⟨q_74, hq_74⟩ := og (cq := cq) t_73.1 (oE_8 t_73.2)
      refine va_callv (va_runV (As := [.int x_72]) (rest := []) ⟨hx, hb, hml, hown, hts⟩ (c_X8_emit_f l dC dI H.size cq S_64 hIS_64 o t_73 x_72 cd pk_66) (cwV 1 hts gX8_parseUnit_X8_emit rfl rfl rfl (by decide +kernel) ⟨(Nat.le_of_ble_eq_true rfl), (Nat.le_of_ble_eq_true rfl)⟩) (pr_V (r := (RX8, TX8, 6)) hP hK hD q_74 8 rfl hq_74) rfl rfl hl.1 rfl (lv_room (Nat.le_of_ble_eq_true rfl)) dX8_parseUnit_37 ⟨(Nat.le_of_ble_eq_true rfl), (Nat.le_of_ble_eq_true rfl)⟩) hS (fun q _ h => hFc q h) hFc (fun u t H locs ht hvm w_75 hB hz1 hk1 hS => ?_)
      obtain ⟨S_77, rfl⟩ : ∃ z, z = u := ⟨_, rfl⟩
      obtain ⟨hP1, hK1, hD1⟩ := hB
      rw [ht] at hP1
      have hP : va_P (dC, dI) vwCl (oW cq S_77) H := hP1
      have hD : va_D A (oW cq S_77) := hD1.weaken (fun _ _ _ h => hFc _ h)
      clear hP1 hK1 hD1 hk1 hz1 hvm ht hFc
      obtain ⟨hIS_77, XS_77, hx_78⟩ := w_75
      have X_79 : oX [803, 804, 805, 2063] Z S_77 := oX.st X_67 XS_77 (by decide +kernel)
      have g_80 : (oI S_77 o 1).toInt = (oI S_64 o 1).toInt := by rw [oX.i XS_77 t_73 (by decide +kernel)]
      have g_81 : (oI S_77 o 4).toInt = (oI S_64 o 4).toInt := by rw [oX.i XS_77 t_73 (by decide +kernel)]
      have g_82 : (oI S_77 o 5).toInt = (oI S_64 o 5).toInt := by rw [oX.i XS_77 t_73 (by decide +kernel)]
      have pk_83 : oP S_77 o 0 = some rw := by rw [oX.p XS_77 t_73 (by decide +kernel)]; exact pk_65
      have pk_84 : oP S_77 o 2 = some cd := by rw [oX.p XS_77 t_73 (by decide +kernel)]; exact pk_66
      refine lv_goto (tgt := 85) hx hb dX8_parseUnit_40 (by decide +kernel) ?_
      exact W.vret hx hb hr (fun t ht hW => ⟨⟨S_77, rfl, ⟨hIS_77, X_79, (by have q1 := tA_i Z o; have q2 := tA_i S_64 o; have q3 := tR_one XS_64 to tcd (by omega) XS_77 hft (hx_78 (by omega)); rw [ex_72, ← lh_58.2] at q3; exact Eq.mpr (congrArg (tR Z S_77 o cd) ((congrFun pU_s _).trans (uX_l lh_58.1))) q3)⟩, ⟨by rw [ht]; exact hP, va_K.moved hW.alike hK, hD⟩⟩, hS.F ht⟩) hS.2.2 dX8_parseUnit_85
  · have dc_13 := c_ne (a := r_10.toInt) (b := 0) rfl (by decide +kernel) c_13
    have bz_85 := bz1 hx_12 c_13
    have iv_86 : 0 ≤ (oI Z o 4).toInt ∧ (oI Z o 4).toInt ≤ 60 := oInv.iv gI to.2 rfl rfl
    have iv_87 : 0 ≤ (oI Z o 1).toInt ∧ (oI Z o 1).toInt ≤ 60 := oInv.iv gI to.2 rfl rfl
    have lt_88 := sf_ge bz_85.1 (by omega)
    refine lv_aload_n hx hb dX8_parseUnit_12 rfl (lv_at hl 1 rfl) ?_
    have hFc := o_free hD hS hA
    refine va_callv (va_runV (As := []) (rest := []) ⟨hx, hb, hml, hown, hts⟩ (c_X8_parseNumber_f l dC dI H.size cq Z gI o to rw hrw cd hcd (by omega) (by omega) bz_85) (cwV 0 hts gX8_parseUnit_X8_parseNumber rfl rfl rfl (by decide +kernel) ⟨(Nat.le_of_ble_eq_true rfl), (Nat.le_of_ble_eq_true rfl)⟩) (pr_V (r := (RX8, TX8, 6)) hP hK hD q_4 8 rfl hq_4) rfl rfl hl.1 rfl (lv_room (Nat.le_of_ble_eq_true rfl)) dX8_parseUnit_13 ⟨(Nat.le_of_ble_eq_true rfl), (Nat.le_of_ble_eq_true rfl)⟩) hS (fun q _ h => hFc q h) hFc (fun u t H locs ht hvm w_89 hB hz1 hk1 hS => ?_)
    obtain ⟨S_91, rfl⟩ : ∃ z, z = u := ⟨_, rfl⟩
    obtain ⟨hP1, hK1, hD1⟩ := hB
    rw [ht] at hP1
    have hP : va_P (dC, dI) vwCl (oW cq S_91) H := hP1
    have hD : va_D A (oW cq S_91) := hD1.weaken (fun _ _ _ h => hFc _ h)
    clear hP1 hK1 hD1 hk1 hz1 hvm ht hFc
    obtain ⟨hIS_91, XS_91, hx_92⟩ := w_89
    have X_93 : oX [803, 804, 805, 2063] Z S_91 := oX.st oX.rf XS_91 (by decide +kernel)
    have g_94 : (oI S_91 o 1).toInt = (oI Z o 1).toInt := by rw [oX.i XS_91 to (by decide +kernel)]
    have g_95 : (oI S_91 o 5).toInt = (oI Z o 5).toInt := by rw [oX.i XS_91 to (by decide +kernel)]
    have pk_96 : oP S_91 o 0 = some rw := by rw [oX.p XS_91 to (by decide +kernel)]; exact hrw
    have pk_97 : oP S_91 o 2 = some cd := by rw [oX.p XS_91 to (by decide +kernel)]; exact hcd
    refine lv_goto (tgt := 85) hx hb dX8_parseUnit_16 (by decide +kernel) ?_
    exact W.vret hx hb hr (fun t ht hW => ⟨⟨S_91, rfl, ⟨hIS_91, X_93, (Eq.mpr (congrArg (tR Z S_91 o cd) ((congrFun pU_s _).trans (uX_d bz_85.1 bz_85.2))) hx_92)⟩, ⟨by rw [ht]; exact hP, va_K.moved hW.alike hK, hD⟩⟩, hS.F ht⟩) hS.2.2 dX8_parseUnit_85
set_option maxHeartbeats 4000000 in
set_option maxRecDepth 100000 in
theorem c_X8_parseTerm_0f (l : Launch) (dC : Nat → ClassId) (dI : Nat → Nat → Nat) (sz : Nat) (tL tS tG : Nat) (cq : Nat → ClassId) (Z : oS) (gI : oInv Z) (o : Nat) (to : oty Z o 8) (x1 : Int32) (hx1 : 0 ≤ x1.toInt ∧ x1.toInt ≤ 0) (rw : Nat) (hrw : oP Z o 0 = some rw) (cd : Nat) (hcd : oP Z o 2 = some cd) (hft : (oI Z o 5).toInt = -1) (hcz : (oI Z o 3).toInt ≤ (oI Z o 4).toInt) : Met l yX8_parseTerm wsX8_parseTerm ({ frames := 23, cells := 0, slots := 0, locals := 515 }) (va_Pc [.ref o, .int x1] (pcO (dC, dI) (oT cq) (oW cq Z) sz tL tS tG (oW cq Z))) (va_Qv (fun (u : oS) => oInv u ∧ oX [803, 804, 805, 2063] Z u ∧ (tR Z u o cd (cT (tC Z o rw) 5 (tA Z o)))) (fun u t => va_P (dC, dI) vwCl (oW cq u) t.heap ∧ va_K (dC, dI) vwCl (oT cq) t ∧ va_D (va_A (oW cq Z) sz) (oW cq u)) (va_A (oW cq Z) sz)) 0 0 (va_A (oW cq Z) sz) := by
  refine Met.ofW (cc := cX8_parseTerm) (maxL := 4) (ret := none) (by decide +kernel) rfl ?_
  intro p e s m args below meth c s₁ B hml hv
  obtain ⟨rfl, ⟨hsz, hP, hK, hD0⟩, hZ⟩ := hv
  have hx := B.exec
  have hb := B.bytes
  have hr := B.returns
  have hts := atoms_spec (ws := wsX8_parseTerm) B.pre
  have hown : s.vm.findClass RX8 = some m.cls := findClass_of_methodNamed B.named
  have hlocks := B.notSynchronized
  subst hsz
  have hD := hD0.self (sz := s.heap.size)
  generalize hAe : va_A (oW cq Z) s.heap.size = A at hD hZ ⊢
  have hA : ∀ q : Nat, s.heap.size ≤ q → A q := fun q h => by rw [← hAe]; exact Or.inr h
  have hS : va_S A s.heap s.heap [] := va_S.rf
  have hP : va_P (dC, dI) vwCl (oW cq Z) s.heap := hP
  have hl := lv_entry ([.ref o, .int x1]) (n := 4) (Nat.le_of_ble_eq_true rfl)
  rw [lg_entry_eq]
  generalize (lg_sl ([.ref o, .int x1]) ++ List.replicate (4 - (lg_sl ([.ref o, .int x1])).length) Slot.unset).toArray = ls at hl ⊢
  have hl : lv_has ls 4 [(0, .ref o), (1, .int x1)] := hl
  have trw : oty Z rw 160 := oInv.rd gI to.2 hrw rfl rfl
  have tcd : oty Z cd 63 := oInv.rd gI to.2 hcd rfl rfl
  have iv_1 : 0 ≤ (oI Z o 1).toInt ∧ (oI Z o 1).toInt ≤ 60 := oInv.iv gI to.2 rfl rfl
  have iv_2 : 0 ≤ (oI Z o 3).toInt ∧ (oI Z o 3).toInt ≤ 60 := oInv.iv gI to.2 rfl rfl
  have iv_3 : 0 ≤ (oI Z o 4).toInt ∧ (oI Z o 4).toInt ≤ 60 := oInv.iv gI to.2 rfl rfl
  refine lv_aload_n hx hb dX8_parseTerm_0 rfl (lv_at hl 0 rfl) ?_
  refine lv_iload_n hx hb dX8_parseTerm_1 rfl (lv_at hl 1 rfl) ?_
  have hFc := o_free hD hS hA
  obtain ⟨q_4, hq_4⟩ := og (cq := cq) to.1 (oE_8 to.2)
  refine va_callv (va_runV (As := [.int x1]) (rest := []) ⟨hx, hb, hml, hown, hts⟩ (c_X8_parseUnit_0f l dC dI s.heap.size tL tS tG cq Z gI o to x1 (by omega) rw hrw cd hcd (by omega) (by omega)) (cwV 1 hts gX8_parseTerm_X8_parseUnit rfl rfl rfl (by decide +kernel) ⟨(Nat.le_of_ble_eq_true rfl), (Nat.le_of_ble_eq_true rfl)⟩) (pr_VO (r := (RX8, TX8, 6)) hP hK hD q_4 8 rfl hq_4 (hZ.go hS hFc)) rfl rfl hl.1 rfl (lv_room (Nat.le_of_ble_eq_true rfl)) dX8_parseTerm_2 ⟨(Nat.le_of_ble_eq_true rfl), (Nat.le_of_ble_eq_true rfl)⟩) hS (fun q _ h => hFc q h) hFc (fun u t H locs ht hvm w_5 hB hz1 hk1 hS => ?_)
  obtain ⟨S_7, rfl⟩ : ∃ z, z = u := ⟨_, rfl⟩
  obtain ⟨hP1, hK1, hD1⟩ := hB
  rw [ht] at hP1
  have hP : va_P (dC, dI) vwCl (oW cq S_7) H := hP1
  have hD : va_D A (oW cq S_7) := hD1.weaken (fun _ _ _ h => hFc _ h)
  clear hP1 hK1 hD1 hk1 hz1 hvm ht hFc
  obtain ⟨hIS_7, XS_7, hx_8⟩ := w_5
  have X_9 : oX [803, 804, 805, 2063] Z S_7 := oX.st oX.rf XS_7 (by decide +kernel)
  have g_10 : (oI S_7 o 1).toInt = (oI Z o 1).toInt := by rw [oX.i XS_7 to (by decide +kernel)]
  have pk_11 : oP S_7 o 0 = some rw := by rw [oX.p XS_7 to (by decide +kernel)]; exact hrw
  have pk_12 : oP S_7 o 2 = some cd := by rw [oX.p XS_7 to (by decide +kernel)]; exact hcd
  refine lv_iconst (v := 0) hx hb dX8_parseTerm_5 (by decide +kernel) ?_
  refine lv_istore_n (lv' := [(2, .int 0), (0, .ref o), (1, .int x1)]) hx hb dX8_parseTerm_6 rfl hl (by decide +kernel) rfl (fun ls hl => ?_)
  have cut_13 : ∀ (n : Nat) (y_14 : Int32) (S_15 : oS) (H : Heap) (locs : List Loc) (ls : Array Slot), 60 - y_14.toInt ≤ (n : Int) → (0 ≤ y_14.toInt ∧ y_14.toInt ≤ 60) → tLp Z S_15 o cd (cU (tC Z o rw) 5) (tC Z o rw) 42 47 (60 - y_14.toInt).toNat (cT (tC Z o rw) 5 (tA Z o)) → oInv S_15 → oX [803, 804, 805, 2063] S_7 S_15 → va_P (dC, dI) vwCl (oW cq S_15) H → va_D A (oW cq S_15) → va_S A s.heap H locs → oP S_15 o 0 = some rw → oP S_15 o 2 = some cd → lv_has ls 4 [(2, .int y_14), (0, .ref o), (1, .int x1)] → W p l e (headSpec wsX8_parseTerm { frames := 23, cells := 0, slots := 0, locals := 515 }).room s m #[Value.ref o, Value.int x1] below meth c H locs 0 0 (MQ below (va_Qv (fun (u : oS) => oInv u ∧ oX [803, 804, 805, 2063] Z u ∧ (tR Z u o cd (cT (tC Z o rw) 5 (tA Z o)))) (fun u t => va_P (dC, dI) vwCl (oW cq u) t.heap ∧ va_K (dC, dI) vwCl (oT cq) t ∧ va_D A (oW cq u)) A) #[Value.ref o, Value.int x1] s 0 0 A) (F0 m 7 ls []) := by
    intro n
    induction n using Nat.strongRecOn with
    | ind n ih =>
      intro y_14 S_15 H locs ls hm hy_14 hq0_cut_13 hIS_15 XS_15 hP hD hS pk_16 pk_17 hl
      have YS_15 : oX [803, 804, 805, 2063] Z S_15 := oX.st X_9 XS_15 (fun _ q => q)
      refine lv_iload_n hx hb dX8_parseTerm_7 rfl (lv_at hl 0 rfl) ?_
      refine lv_bipush (v := 60) hx hb dX8_parseTerm_8 (by decide +kernel) ?_
      refine lv_icmp_ge (tgt := 74) hx hb dX8_parseTerm_10 (by decide +kernel) (fun c_18 => ?_) (fun c_18 => ?_)
      · have dc_18 := c_le (a := 60) (b := y_14.toInt) (by decide +kernel) rfl c_18
        exact W.vret hx hb hr (fun t ht hW => ⟨⟨S_15, rfl, ⟨hIS_15, YS_15, (tLp_0 hq0_cut_13 (by omega))⟩, ⟨by rw [ht]; exact hP, va_K.moved hW.alike hK, hD⟩⟩, hS.F ht⟩) hS.2.2 dX8_parseTerm_74
      · have dc_18 := c_nle (a := 60) (b := y_14.toInt) (by decide +kernel) rfl c_18
        refine lv_aload_n hx hb dX8_parseTerm_13 rfl (lv_at hl 1 rfl) ?_
        have t_19 : oty S_15 o 8 := (oX.ty XS_15 (oX.ty XS_7 to))
        obtain ⟨q_20, hq_20⟩ := og (cq := cq) t_19.1 (oE_8 t_19.2)
        refine va_get (D := (dC, dI)) (ci := 8) (v := .int (oI S_15 o 5)) (C := RX8) (T := TX8) (N := 6) hx hb hts in_wsX8_parseTerm_X8 hown hK hP q_20 hq_20 rfl 5 (by decide +kernel) (hts (.fieldLink RX8 28 "ShipOffice$Tape" "fault" "I") iw_X8_parseTerm_1) (fun _ h9 => h9) rfl dX8_parseTerm_14 ?_
        refine lv_topi (fun x_21 ex_21 => ?_)
        have gx_21 : x_21.toInt = (oI S_15 o 5).toInt := iv_to ex_21
        clear ex_21
        refine lv_if_ge (tgt := 74) hx hb dX8_parseTerm_17 (by decide +kernel) (fun c_22 => ?_) (fun c_22 => ?_)
        · have dc_22 := c_le (a := 0) (b := x_21.toInt) (by decide +kernel) rfl c_22
          exact W.vret hx hb hr (fun t ht hW => ⟨⟨S_15, rfl, ⟨hIS_15, YS_15, (tLp_f hq0_cut_13 (by omega))⟩, ⟨by rw [ht]; exact hP, va_K.moved hW.alike hK, hD⟩⟩, hS.F ht⟩) hS.2.2 dX8_parseTerm_74
        · have dc_22 := c_nle (a := 0) (b := x_21.toInt) (by decide +kernel) rfl c_22
          refine lv_aload_n hx hb dX8_parseTerm_20 rfl (lv_at hl 1 rfl) ?_
          refine lv_bipush (v := 42) hx hb dX8_parseTerm_21 (by decide +kernel) ?_
          have hFc : ∀ q, va_A [] H.size q → A q := pu_free hS hA
          refine va_calli (va_runV (As := [.int 42]) (rest := []) ⟨hx, hb, hml, hown, hts⟩ (c_X8_sees_f l dC dI H.size cq S_15 hIS_15 o t_19 42 rw pk_16 (by decide +kernel)) (cwV 1 hts gX8_parseTerm_X8_sees rfl rfl rfl (by decide +kernel) ⟨(Nat.le_of_ble_eq_true rfl), (Nat.le_of_ble_eq_true rfl)⟩) (pr_V (r := (RX8, TX8, 6)) hP hK hD q_20 8 rfl hq_20) rfl rfl hl.1 rfl (lv_room (Nat.le_of_ble_eq_true rfl)) dX8_parseTerm_23 ⟨(Nat.le_of_ble_eq_true rfl), (Nat.le_of_ble_eq_true rfl)⟩) hS (fun q _ h => hFc q h) hFc (fun r_24 u t H locs ht hvm w_23 hB hz1 hk1 hS => ?_)
          have hP := pu_keep hP hk1
          clear hk1 hz1 hvm hB ht hFc
          obtain ⟨hb_25, hx_26⟩ := w_23
          refine lv_if_ne (tgt := 38) hx hb dX8_parseTerm_26 (by decide +kernel) (fun c_27 => ?_) (fun c_27 => ?_)
          · have dc_27 := c_ne (a := r_24.toInt) (b := 0) rfl (by decide +kernel) c_27
            have bz_28 := bz1 hx_26 c_27
            have iv_29 : 0 ≤ (oI S_15 o 4).toInt ∧ (oI S_15 o 4).toInt ≤ 60 := oInv.iv hIS_15 t_19.2 rfl rfl
            have iv_30 : 0 ≤ (oI S_15 o 1).toInt ∧ (oI S_15 o 1).toInt ≤ 60 := oInv.iv hIS_15 t_19.2 rfl rfl
            have lt_31 := sf_lt (by decide +kernel) bz_28 (by omega)
            have iv_32 : 0 ≤ (oI S_15 o 3).toInt ∧ (oI S_15 o 3).toInt ≤ 60 := oInv.iv hIS_15 t_19.2 rfl rfl
            have iv_33 : 0 ≤ (oI S_15 o 4).toInt ∧ (oI S_15 o 4).toInt ≤ 60 := oInv.iv hIS_15 t_19.2 rfl rfl
            have z0 := tN_i Z o
            have z1 := tA_i Z o
            have z2 := tN_i S_15 o
            have z3 := tA_i S_15 o
            have z4 := tLp_m hq0_cut_13 (by omega) (by omega)
            refine lv_aload_n hx hb dX8_parseTerm_38 rfl (lv_at hl 1 rfl) ?_
            refine va_get (D := (dC, dI)) (ci := 8) (v := .ref rw) (C := RX8) (T := TX8) (N := 6) hx hb hts in_wsX8_parseTerm_X8 hown hK hP q_20 hq_20 rfl 0 (by decide +kernel) (hts (.fieldLink RX8 9 "ShipOffice$Tape" "bytes" "[I") iw_X8_parseTerm_2) (fun _ h9 => h9) (o_rd pk_16) dX8_parseTerm_39 ?_
            refine lv_aload_n hx hb dX8_parseTerm_42 rfl (lv_at hl 1 rfl) ?_
            refine va_get (D := (dC, dI)) (ci := 8) (v := .int (oI S_15 o 4)) (C := RX8) (T := TX8) (N := 6) hx hb hts in_wsX8_parseTerm_X8 hown hK hP q_20 hq_20 rfl 4 (by decide +kernel) (hts (.fieldLink RX8 22 "ShipOffice$Tape" "at" "I") iw_X8_parseTerm_3) (fun _ h9 => h9) rfl dX8_parseTerm_43 ?_
            refine lv_topi (fun x_34 ex_34 => ?_)
            have hx_34 : 0 ≤ x_34.toInt ∧ x_34.toInt ≤ 60 := iv_of ex_34 (oInv.iv hIS_15 t_19.2 rfl rfl)
            have gx_34 : x_34.toInt = (oI S_15 o 4).toInt := iv_to ex_34
            clear ex_34
            have t_35 : oty S_15 rw 160 := (oX.ty XS_15 (oX.ty XS_7 trw))
            obtain ⟨q_36, hq_36⟩ := og (cq := cq) t_35.1 (oE_a1 (n := 60) t_35.2 (by decide +kernel))
            refine va_iald hx hb hK hP q_36 0 hq_36 rfl (vp_in_iff.mpr (by omega)) dX8_parseTerm_46 ?_
            refine lv_topi (fun x_37 ex_37 => ?_)
            refine lv_istore_n (lv' := [(3, .int x_37), (2, .int y_14), (0, .ref o), (1, .int x1)]) hx hb dX8_parseTerm_47 rfl hl (by decide +kernel) rfl (fun ls hl => ?_)
            refine lv_aload_n hx hb dX8_parseTerm_48 rfl (lv_at hl 2 rfl) ?_
            refine lv_dup hx hb dX8_parseTerm_49 rfl ?_
            refine va_get (D := (dC, dI)) (ci := 8) (v := .int (oI S_15 o 4)) (C := RX8) (T := TX8) (N := 6) hx hb hts in_wsX8_parseTerm_X8 hown hK hP q_20 hq_20 rfl 4 (by decide +kernel) (hts (.fieldLink RX8 22 "ShipOffice$Tape" "at" "I") iw_X8_parseTerm_3) (fun _ h9 => h9) rfl dX8_parseTerm_50 ?_
            refine lv_topi (fun x_38 ex_38 => ?_)
            have hx_38 : 0 ≤ x_38.toInt ∧ x_38.toInt ≤ 60 := iv_of ex_38 (oInv.iv hIS_15 t_19.2 rfl rfl)
            have gx_38 : x_38.toInt = (oI S_15 o 4).toInt := iv_to ex_38
            clear ex_38
            refine lv_iconst (v := 1) hx hb dX8_parseTerm_53 (by decide +kernel) ?_
            refine lv_iadd hx hb dX8_parseTerm_54 ?_
            refine lv_topi (fun x_39 ex_39 => ?_)
            have hx_39 : x_39.toInt = x_38.toInt + 1 := (iv_to ex_39).trans (ad_i rfl (by decide +kernel) (by omega) (by omega))
            refine va_put (D := (dC, dI)) (ci := 8) (v := .int x_39) (ty := .int) (C := RX8) (T := TX8) (N := 6) hx hb hts in_wsX8_parseTerm_X8 tyX8 tyX8_ok nmX8 hown hK hP hD hS q_20 hq_20 rfl 4 (by decide +kernel) (hts (.fieldLink RX8 22 "ShipOffice$Tape" "at" "I") iw_X8_parseTerm_3) (fun _ h9 => h9) rfl (by decide +kernel) rfl rfl (Nat.le_of_ble_eq_true rfl) dX8_parseTerm_55 (fun H locs hP1 hD1 hS => ?_)
            obtain ⟨S_40, eS_40⟩ : ∃ zq, zq = setI S_15 o 4 x_39 := ⟨_, rfl⟩
            have hP : va_P (dC, dI) vwCl (oW cq S_40) H := by rw [eS_40]; exact cP (oset t_19.1 hq_20 hD rfl (he_8_4 t_19.2) neI) hP1
            have hD : va_D A (oW cq S_40) := by rw [eS_40]; exact cD (oset t_19.1 hq_20 hD rfl (he_8_4 t_19.2) neI) hD1
            clear hP1 hD1
            have hIS_40 : oInv S_40 := by rw [eS_40]; exact oInv.I0 (k := 8) (lo := 0) (hi := 60) hIS_15 t_19.2 (by decide +kernel) rfl rfl rfl (by omega)
            have XS_40 : oX [804] S_15 S_40 := by rw [eS_40]; exact oX.I (k := 8) (key := 804) t_19.2 rfl (List.mem_singleton.mpr rfl)
            have pk_41 : oP S_40 o 0 = some rw := by rw [eS_40]; exact pk_16
            have pk_42 : oP S_40 o 2 = some cd := by rw [eS_40]; exact pk_17
            have X_43 : oX [803, 804, 805, 2063] Z S_40 := oX.st YS_15 XS_40 (by decide +kernel)
            have g_44 : (oI S_40 o 1).toInt = (oI S_15 o 1).toInt := by rw [eS_40, setI_ne (by decide +kernel)]
            have g_45 : (oI S_40 o 3).toInt = (oI S_15 o 3).toInt := by rw [eS_40, setI_ne (by decide +kernel)]
            have g_46 : (oI S_40 o 4).toInt = x_39.toInt := by rw [eS_40, setI_same]
            have g_47 : (oI S_40 o 5).toInt = (oI S_15 o 5).toInt := by rw [eS_40, setI_ne (by decide +kernel)]
            have hkx_37 : x_37.toInt = 42 := by rw [(sf_e (y := x_34) (by omega) (by omega) (by omega) ex_37).symm.trans bz_28]; decide
            refine lv_aload_n hx hb dX8_parseTerm_58 rfl (lv_at hl 2 rfl) ?_
            refine lv_iload_n hx hb dX8_parseTerm_59 rfl (lv_at hl 3 rfl) ?_
            have t_48 : oty S_40 o 8 := (oX.ty XS_40 t_19)
            have hFc := o_free hD hS hA
            obtain ⟨q_49, hq_49⟩ := og (cq := cq) t_48.1 (oE_8 t_48.2)
            refine va_callv (va_runV (As := [.int x1]) (rest := []) ⟨hx, hb, hml, hown, hts⟩ (c_X8_parseUnit_0f l dC dI H.size tL tS tG cq S_40 hIS_40 o t_48 x1 (by omega) rw pk_41 cd pk_42 (by omega) (by omega)) (cwV 1 hts gX8_parseTerm_X8_parseUnit rfl rfl rfl (by decide +kernel) ⟨(Nat.le_of_ble_eq_true rfl), (Nat.le_of_ble_eq_true rfl)⟩) (pr_VO (r := (RX8, TX8, 6)) hP hK hD q_49 8 rfl hq_49 (hZ.go hS hFc)) rfl rfl hl.1 rfl (lv_room (Nat.le_of_ble_eq_true rfl)) dX8_parseTerm_60 ⟨(Nat.le_of_ble_eq_true rfl), (Nat.le_of_ble_eq_true rfl)⟩) hS (fun q _ h => hFc q h) hFc (fun u t H locs ht hvm w_50 hB hz1 hk1 hS => ?_)
            obtain ⟨S_52, rfl⟩ : ∃ z, z = u := ⟨_, rfl⟩
            obtain ⟨hP1, hK1, hD1⟩ := hB
            rw [ht] at hP1
            have hP : va_P (dC, dI) vwCl (oW cq S_52) H := hP1
            have hD : va_D A (oW cq S_52) := hD1.weaken (fun _ _ _ h => hFc _ h)
            clear hP1 hK1 hD1 hk1 hz1 hvm ht hFc
            obtain ⟨hIS_52, XS_52, hx_53⟩ := w_50
            have X_54 : oX [803, 804, 805, 2063] Z S_52 := oX.st X_43 XS_52 (by decide +kernel)
            have g_55 : (oI S_52 o 1).toInt = (oI S_40 o 1).toInt := by rw [oX.i XS_52 t_48 (by decide +kernel)]
            have pk_56 : oP S_52 o 0 = some rw := by rw [oX.p XS_52 t_48 (by decide +kernel)]; exact pk_41
            have pk_57 : oP S_52 o 2 = some cd := by rw [oX.p XS_52 t_48 (by decide +kernel)]; exact pk_42
            have t_59 : oty S_52 o 8 := (oX.ty XS_52 t_48)
            have iv_58 : 0 ≤ (oI S_52 o 4).toInt ∧ (oI S_52 o 4).toInt ≤ 60 := oInv.iv hIS_52 t_59.2 rfl rfl
            refine lv_aload_n hx hb dX8_parseTerm_63 rfl (lv_at hl 2 rfl) ?_
            refine lv_iload_n hx hb dX8_parseTerm_64 rfl (lv_at hl 0 rfl) ?_
            have hFc := o_free hD hS hA
            obtain ⟨q_60, hq_60⟩ := og (cq := cq) t_59.1 (oE_8 t_59.2)
            refine va_callv (va_runV (As := [.int x_37]) (rest := []) ⟨hx, hb, hml, hown, hts⟩ (c_X8_emitSign_f l dC dI H.size tL tS tG cq S_52 hIS_52 o t_59 x_37 cd pk_57 (by omega)) (cwV 1 hts gX8_parseTerm_X8_emitSign rfl rfl rfl (by decide +kernel) ⟨(Nat.le_of_ble_eq_true rfl), (Nat.le_of_ble_eq_true rfl)⟩) (pr_VO (r := (RX8, TX8, 6)) hP hK hD q_60 8 rfl hq_60 (hZ.go hS hFc)) rfl rfl hl.1 rfl (lv_room (Nat.le_of_ble_eq_true rfl)) dX8_parseTerm_65 ⟨(Nat.le_of_ble_eq_true rfl), (Nat.le_of_ble_eq_true rfl)⟩) hS (fun q _ h => hFc q h) hFc (fun u t H locs ht hvm w_61 hB hz1 hk1 hS => ?_)
            obtain ⟨S_63, rfl⟩ : ∃ z, z = u := ⟨_, rfl⟩
            obtain ⟨hP1, hK1, hD1⟩ := hB
            rw [ht] at hP1
            have hP : va_P (dC, dI) vwCl (oW cq S_63) H := hP1
            have hD : va_D A (oW cq S_63) := hD1.weaken (fun _ _ _ h => hFc _ h)
            clear hP1 hK1 hD1 hk1 hz1 hvm ht hFc
            obtain ⟨hIS_63, XS_63, hx_64⟩ := w_61
            have X_65 : oX [803, 804, 805, 2063] Z S_63 := oX.st X_54 XS_63 (by decide +kernel)
            have g_66 : (oI S_63 o 1).toInt = (oI S_52 o 1).toInt := by rw [oX.i XS_63 t_59 (by decide +kernel)]
            have pk_67 : oP S_63 o 0 = some rw := by rw [oX.p XS_63 t_59 (by decide +kernel)]; exact pk_56
            have pk_68 : oP S_63 o 2 = some cd := by rw [oX.p XS_63 t_59 (by decide +kernel)]; exact pk_57
            obtain ⟨x_69, ex_69⟩ : ∃ zq : Int32, y_14 + 1 = zq := ⟨_, rfl⟩
            have hx_69 : x_69.toInt = y_14.toInt + 1 := (iv_to ex_69).symm.trans (ad_i rfl (by decide +kernel) (by omega) (by omega))
            refine lv_iinc (v := x_69) (lv' := [(2, .int x_69), (3, .int x_37), (0, .ref o), (1, .int x1)]) hx hb dX8_parseTerm_68 hl (k := 1) rfl ex_69 (by decide +kernel) rfl (fun ls hl => ?_)
            clear ex_69
            refine lv_goto (tgt := 7) hx hb dX8_parseTerm_71 (by decide +kernel) ?_
            exact ih (n - 1) (by omega) x_69 S_63 _ _ ls (by omega) (by omega) (by have hC := tX_C YS_15 to trw (by decide +kernel) (by decide +kernel); have a0 := tA_i Z o; have a1 := tA_i S_15 o; have a2 := tA_i S_40 o; have a3 := tA_i S_52 o; have n0 := tN_i Z o; exact tLp_go hq0_cut_13 (by omega) (by omega) (by rw [← hC]; exact sf_e (y := x_34) (by omega) (by omega) (by omega) ex_37) (Or.inl ((sf_e (y := x_34) (by omega) (by omega) (by omega) ex_37).symm.trans bz_28)) (oX.ty XS_15 (oX.ty XS_7 to)) (oX.ty XS_15 (oX.ty XS_7 tcd)) XS_40 (by omega) (by have g := hx_53; rw [tX_C XS_40 (oX.ty XS_15 (oX.ty XS_7 to)) (oX.ty XS_15 (oX.ty XS_7 trw)) (by decide +kernel) (by decide +kernel), hC] at g; exact g) XS_63 (oX.ty XS_52 (oX.ty XS_40 (oX.ty XS_15 (oX.ty XS_7 to)))) (by omega) (by omega) hx_64) hIS_63 (oX.st (oX.st (oX.st (oX.st oX.rf XS_15 (by decide +kernel)) XS_40 (by decide +kernel)) XS_52 (by decide +kernel)) XS_63 (by decide +kernel)) hP hD hS pk_67 pk_68 (lv_sub hl [0, 2, 3] rfl)
          · have dc_27 := c_eq (a := r_24.toInt) (b := 0) rfl (by decide +kernel) c_27
            have bz_70 := bz0 hx_26 c_27
            refine lv_aload_n hx hb dX8_parseTerm_29 rfl (lv_at hl 1 rfl) ?_
            refine lv_bipush (v := 47) hx hb dX8_parseTerm_30 (by decide +kernel) ?_
            have hFc : ∀ q, va_A [] H.size q → A q := pu_free hS hA
            refine va_calli (va_runV (As := [.int 47]) (rest := []) ⟨hx, hb, hml, hown, hts⟩ (c_X8_sees_f l dC dI H.size cq S_15 hIS_15 o t_19 47 rw pk_16 (by decide +kernel)) (cwV 1 hts gX8_parseTerm_X8_sees rfl rfl rfl (by decide +kernel) ⟨(Nat.le_of_ble_eq_true rfl), (Nat.le_of_ble_eq_true rfl)⟩) (pr_V (r := (RX8, TX8, 6)) hP hK hD q_20 8 rfl hq_20) rfl rfl hl.1 rfl (lv_room (Nat.le_of_ble_eq_true rfl)) dX8_parseTerm_32 ⟨(Nat.le_of_ble_eq_true rfl), (Nat.le_of_ble_eq_true rfl)⟩) hS (fun q _ h => hFc q h) hFc (fun r_72 u t H locs ht hvm w_71 hB hz1 hk1 hS => ?_)
            have hP := pu_keep hP hk1
            clear hk1 hz1 hvm hB ht hFc
            obtain ⟨hb_73, hx_74⟩ := w_71
            refine lv_if_eq (tgt := 74) hx hb dX8_parseTerm_35 (by decide +kernel) (fun c_75 => ?_) (fun c_75 => ?_)
            · have dc_75 := c_eq (a := r_72.toInt) (b := 0) rfl (by decide +kernel) c_75
              have bz_76 := bz0 hx_74 c_75
              exact W.vret hx hb hr (fun t ht hW => ⟨⟨S_15, rfl, ⟨hIS_15, YS_15, (by have hC := tX_C YS_15 to trw (by decide +kernel) (by decide +kernel); exact tLp_n hq0_cut_13 (by rw [← hC]; exact bz_70) (by rw [← hC]; exact bz_76))⟩, ⟨by rw [ht]; exact hP, va_K.moved hW.alike hK, hD⟩⟩, hS.F ht⟩) hS.2.2 dX8_parseTerm_74
            · have dc_75 := c_ne (a := r_72.toInt) (b := 0) rfl (by decide +kernel) c_75
              have bz_77 := bz1 hx_74 c_75
              have iv_78 : 0 ≤ (oI S_15 o 4).toInt ∧ (oI S_15 o 4).toInt ≤ 60 := oInv.iv hIS_15 t_19.2 rfl rfl
              have iv_79 : 0 ≤ (oI S_15 o 1).toInt ∧ (oI S_15 o 1).toInt ≤ 60 := oInv.iv hIS_15 t_19.2 rfl rfl
              have lt_80 := sf_lt (by decide +kernel) bz_77 (by omega)
              have iv_81 : 0 ≤ (oI S_15 o 3).toInt ∧ (oI S_15 o 3).toInt ≤ 60 := oInv.iv hIS_15 t_19.2 rfl rfl
              have iv_82 : 0 ≤ (oI S_15 o 4).toInt ∧ (oI S_15 o 4).toInt ≤ 60 := oInv.iv hIS_15 t_19.2 rfl rfl
              have z0 := tN_i Z o
              have z1 := tA_i Z o
              have z2 := tN_i S_15 o
              have z3 := tA_i S_15 o
              have z4 := tLp_m hq0_cut_13 (by omega) (by omega)
              refine lv_aload_n hx hb dX8_parseTerm_38 rfl (lv_at hl 1 rfl) ?_
              refine va_get (D := (dC, dI)) (ci := 8) (v := .ref rw) (C := RX8) (T := TX8) (N := 6) hx hb hts in_wsX8_parseTerm_X8 hown hK hP q_20 hq_20 rfl 0 (by decide +kernel) (hts (.fieldLink RX8 9 "ShipOffice$Tape" "bytes" "[I") iw_X8_parseTerm_2) (fun _ h9 => h9) (o_rd pk_16) dX8_parseTerm_39 ?_
              refine lv_aload_n hx hb dX8_parseTerm_42 rfl (lv_at hl 1 rfl) ?_
              refine va_get (D := (dC, dI)) (ci := 8) (v := .int (oI S_15 o 4)) (C := RX8) (T := TX8) (N := 6) hx hb hts in_wsX8_parseTerm_X8 hown hK hP q_20 hq_20 rfl 4 (by decide +kernel) (hts (.fieldLink RX8 22 "ShipOffice$Tape" "at" "I") iw_X8_parseTerm_3) (fun _ h9 => h9) rfl dX8_parseTerm_43 ?_
              refine lv_topi (fun x_83 ex_83 => ?_)
              have hx_83 : 0 ≤ x_83.toInt ∧ x_83.toInt ≤ 60 := iv_of ex_83 (oInv.iv hIS_15 t_19.2 rfl rfl)
              have gx_83 : x_83.toInt = (oI S_15 o 4).toInt := iv_to ex_83
              clear ex_83
              have t_84 : oty S_15 rw 160 := (oX.ty XS_15 (oX.ty XS_7 trw))
              obtain ⟨q_85, hq_85⟩ := og (cq := cq) t_84.1 (oE_a1 (n := 60) t_84.2 (by decide +kernel))
              refine va_iald hx hb hK hP q_85 0 hq_85 rfl (vp_in_iff.mpr (by omega)) dX8_parseTerm_46 ?_
              refine lv_topi (fun x_86 ex_86 => ?_)
              refine lv_istore_n (lv' := [(3, .int x_86), (2, .int y_14), (0, .ref o), (1, .int x1)]) hx hb dX8_parseTerm_47 rfl hl (by decide +kernel) rfl (fun ls hl => ?_)
              refine lv_aload_n hx hb dX8_parseTerm_48 rfl (lv_at hl 2 rfl) ?_
              refine lv_dup hx hb dX8_parseTerm_49 rfl ?_
              refine va_get (D := (dC, dI)) (ci := 8) (v := .int (oI S_15 o 4)) (C := RX8) (T := TX8) (N := 6) hx hb hts in_wsX8_parseTerm_X8 hown hK hP q_20 hq_20 rfl 4 (by decide +kernel) (hts (.fieldLink RX8 22 "ShipOffice$Tape" "at" "I") iw_X8_parseTerm_3) (fun _ h9 => h9) rfl dX8_parseTerm_50 ?_
              refine lv_topi (fun x_87 ex_87 => ?_)
              have hx_87 : 0 ≤ x_87.toInt ∧ x_87.toInt ≤ 60 := iv_of ex_87 (oInv.iv hIS_15 t_19.2 rfl rfl)
              have gx_87 : x_87.toInt = (oI S_15 o 4).toInt := iv_to ex_87
              clear ex_87
              refine lv_iconst (v := 1) hx hb dX8_parseTerm_53 (by decide +kernel) ?_
              refine lv_iadd hx hb dX8_parseTerm_54 ?_
              refine lv_topi (fun x_88 ex_88 => ?_)
              have hx_88 : x_88.toInt = x_87.toInt + 1 := (iv_to ex_88).trans (ad_i rfl (by decide +kernel) (by omega) (by omega))
              refine va_put (D := (dC, dI)) (ci := 8) (v := .int x_88) (ty := .int) (C := RX8) (T := TX8) (N := 6) hx hb hts in_wsX8_parseTerm_X8 tyX8 tyX8_ok nmX8 hown hK hP hD hS q_20 hq_20 rfl 4 (by decide +kernel) (hts (.fieldLink RX8 22 "ShipOffice$Tape" "at" "I") iw_X8_parseTerm_3) (fun _ h9 => h9) rfl (by decide +kernel) rfl rfl (Nat.le_of_ble_eq_true rfl) dX8_parseTerm_55 (fun H locs hP1 hD1 hS => ?_)
              obtain ⟨S_89, eS_89⟩ : ∃ zq, zq = setI S_15 o 4 x_88 := ⟨_, rfl⟩
              have hP : va_P (dC, dI) vwCl (oW cq S_89) H := by rw [eS_89]; exact cP (oset t_19.1 hq_20 hD rfl (he_8_4 t_19.2) neI) hP1
              have hD : va_D A (oW cq S_89) := by rw [eS_89]; exact cD (oset t_19.1 hq_20 hD rfl (he_8_4 t_19.2) neI) hD1
              clear hP1 hD1
              have hIS_89 : oInv S_89 := by rw [eS_89]; exact oInv.I0 (k := 8) (lo := 0) (hi := 60) hIS_15 t_19.2 (by decide +kernel) rfl rfl rfl (by omega)
              have XS_89 : oX [804] S_15 S_89 := by rw [eS_89]; exact oX.I (k := 8) (key := 804) t_19.2 rfl (List.mem_singleton.mpr rfl)
              have pk_90 : oP S_89 o 0 = some rw := by rw [eS_89]; exact pk_16
              have pk_91 : oP S_89 o 2 = some cd := by rw [eS_89]; exact pk_17
              have X_92 : oX [803, 804, 805, 2063] Z S_89 := oX.st YS_15 XS_89 (by decide +kernel)
              have g_93 : (oI S_89 o 1).toInt = (oI S_15 o 1).toInt := by rw [eS_89, setI_ne (by decide +kernel)]
              have g_94 : (oI S_89 o 3).toInt = (oI S_15 o 3).toInt := by rw [eS_89, setI_ne (by decide +kernel)]
              have g_95 : (oI S_89 o 4).toInt = x_88.toInt := by rw [eS_89, setI_same]
              have g_96 : (oI S_89 o 5).toInt = (oI S_15 o 5).toInt := by rw [eS_89, setI_ne (by decide +kernel)]
              have hkx_86 : x_86.toInt = 47 := by rw [(sf_e (y := x_83) (by omega) (by omega) (by omega) ex_86).symm.trans bz_77]; decide
              refine lv_aload_n hx hb dX8_parseTerm_58 rfl (lv_at hl 2 rfl) ?_
              refine lv_iload_n hx hb dX8_parseTerm_59 rfl (lv_at hl 3 rfl) ?_
              have t_97 : oty S_89 o 8 := (oX.ty XS_89 t_19)
              have hFc := o_free hD hS hA
              obtain ⟨q_98, hq_98⟩ := og (cq := cq) t_97.1 (oE_8 t_97.2)
              refine va_callv (va_runV (As := [.int x1]) (rest := []) ⟨hx, hb, hml, hown, hts⟩ (c_X8_parseUnit_0f l dC dI H.size tL tS tG cq S_89 hIS_89 o t_97 x1 (by omega) rw pk_90 cd pk_91 (by omega) (by omega)) (cwV 1 hts gX8_parseTerm_X8_parseUnit rfl rfl rfl (by decide +kernel) ⟨(Nat.le_of_ble_eq_true rfl), (Nat.le_of_ble_eq_true rfl)⟩) (pr_VO (r := (RX8, TX8, 6)) hP hK hD q_98 8 rfl hq_98 (hZ.go hS hFc)) rfl rfl hl.1 rfl (lv_room (Nat.le_of_ble_eq_true rfl)) dX8_parseTerm_60 ⟨(Nat.le_of_ble_eq_true rfl), (Nat.le_of_ble_eq_true rfl)⟩) hS (fun q _ h => hFc q h) hFc (fun u t H locs ht hvm w_99 hB hz1 hk1 hS => ?_)
              obtain ⟨S_101, rfl⟩ : ∃ z, z = u := ⟨_, rfl⟩
              obtain ⟨hP1, hK1, hD1⟩ := hB
              rw [ht] at hP1
              have hP : va_P (dC, dI) vwCl (oW cq S_101) H := hP1
              have hD : va_D A (oW cq S_101) := hD1.weaken (fun _ _ _ h => hFc _ h)
              clear hP1 hK1 hD1 hk1 hz1 hvm ht hFc
              obtain ⟨hIS_101, XS_101, hx_102⟩ := w_99
              have X_103 : oX [803, 804, 805, 2063] Z S_101 := oX.st X_92 XS_101 (by decide +kernel)
              have g_104 : (oI S_101 o 1).toInt = (oI S_89 o 1).toInt := by rw [oX.i XS_101 t_97 (by decide +kernel)]
              have pk_105 : oP S_101 o 0 = some rw := by rw [oX.p XS_101 t_97 (by decide +kernel)]; exact pk_90
              have pk_106 : oP S_101 o 2 = some cd := by rw [oX.p XS_101 t_97 (by decide +kernel)]; exact pk_91
              have t_108 : oty S_101 o 8 := (oX.ty XS_101 t_97)
              have iv_107 : 0 ≤ (oI S_101 o 4).toInt ∧ (oI S_101 o 4).toInt ≤ 60 := oInv.iv hIS_101 t_108.2 rfl rfl
              refine lv_aload_n hx hb dX8_parseTerm_63 rfl (lv_at hl 2 rfl) ?_
              refine lv_iload_n hx hb dX8_parseTerm_64 rfl (lv_at hl 0 rfl) ?_
              have hFc := o_free hD hS hA
              obtain ⟨q_109, hq_109⟩ := og (cq := cq) t_108.1 (oE_8 t_108.2)
              refine va_callv (va_runV (As := [.int x_86]) (rest := []) ⟨hx, hb, hml, hown, hts⟩ (c_X8_emitSign_f l dC dI H.size tL tS tG cq S_101 hIS_101 o t_108 x_86 cd pk_106 (by omega)) (cwV 1 hts gX8_parseTerm_X8_emitSign rfl rfl rfl (by decide +kernel) ⟨(Nat.le_of_ble_eq_true rfl), (Nat.le_of_ble_eq_true rfl)⟩) (pr_VO (r := (RX8, TX8, 6)) hP hK hD q_109 8 rfl hq_109 (hZ.go hS hFc)) rfl rfl hl.1 rfl (lv_room (Nat.le_of_ble_eq_true rfl)) dX8_parseTerm_65 ⟨(Nat.le_of_ble_eq_true rfl), (Nat.le_of_ble_eq_true rfl)⟩) hS (fun q _ h => hFc q h) hFc (fun u t H locs ht hvm w_110 hB hz1 hk1 hS => ?_)
              obtain ⟨S_112, rfl⟩ : ∃ z, z = u := ⟨_, rfl⟩
              obtain ⟨hP1, hK1, hD1⟩ := hB
              rw [ht] at hP1
              have hP : va_P (dC, dI) vwCl (oW cq S_112) H := hP1
              have hD : va_D A (oW cq S_112) := hD1.weaken (fun _ _ _ h => hFc _ h)
              clear hP1 hK1 hD1 hk1 hz1 hvm ht hFc
              obtain ⟨hIS_112, XS_112, hx_113⟩ := w_110
              have X_114 : oX [803, 804, 805, 2063] Z S_112 := oX.st X_103 XS_112 (by decide +kernel)
              have g_115 : (oI S_112 o 1).toInt = (oI S_101 o 1).toInt := by rw [oX.i XS_112 t_108 (by decide +kernel)]
              have pk_116 : oP S_112 o 0 = some rw := by rw [oX.p XS_112 t_108 (by decide +kernel)]; exact pk_105
              have pk_117 : oP S_112 o 2 = some cd := by rw [oX.p XS_112 t_108 (by decide +kernel)]; exact pk_106
              obtain ⟨x_118, ex_118⟩ : ∃ zq : Int32, y_14 + 1 = zq := ⟨_, rfl⟩
              have hx_118 : x_118.toInt = y_14.toInt + 1 := (iv_to ex_118).symm.trans (ad_i rfl (by decide +kernel) (by omega) (by omega))
              refine lv_iinc (v := x_118) (lv' := [(2, .int x_118), (3, .int x_86), (0, .ref o), (1, .int x1)]) hx hb dX8_parseTerm_68 hl (k := 1) rfl ex_118 (by decide +kernel) rfl (fun ls hl => ?_)
              clear ex_118
              refine lv_goto (tgt := 7) hx hb dX8_parseTerm_71 (by decide +kernel) ?_
              exact ih (n - 1) (by omega) x_118 S_112 _ _ ls (by omega) (by omega) (by have hC := tX_C YS_15 to trw (by decide +kernel) (by decide +kernel); have a0 := tA_i Z o; have a1 := tA_i S_15 o; have a2 := tA_i S_89 o; have a3 := tA_i S_101 o; have n0 := tN_i Z o; exact tLp_go hq0_cut_13 (by omega) (by omega) (by rw [← hC]; exact sf_e (y := x_83) (by omega) (by omega) (by omega) ex_86) (Or.inr ((sf_e (y := x_83) (by omega) (by omega) (by omega) ex_86).symm.trans bz_77)) (oX.ty XS_15 (oX.ty XS_7 to)) (oX.ty XS_15 (oX.ty XS_7 tcd)) XS_89 (by omega) (by have g := hx_102; rw [tX_C XS_89 (oX.ty XS_15 (oX.ty XS_7 to)) (oX.ty XS_15 (oX.ty XS_7 trw)) (by decide +kernel) (by decide +kernel), hC] at g; exact g) XS_112 (oX.ty XS_101 (oX.ty XS_89 (oX.ty XS_15 (oX.ty XS_7 to)))) (by omega) (by omega) hx_113) hIS_112 (oX.st (oX.st (oX.st (oX.st oX.rf XS_15 (by decide +kernel)) XS_89 (by decide +kernel)) XS_101 (by decide +kernel)) XS_112 (by decide +kernel)) hP hD hS pk_116 pk_117 (lv_sub hl [0, 2, 3] rfl)
  have kc_119 : (0 : Int32).toInt = 0 := by decide
  exact cut_13 61 0 S_7 _ _ ls (by omega) (by decide +kernel) ⟨_, by rw [show (60 - (0 : Int32).toInt).toNat = 60 by decide]; rfl, hx_8⟩ hIS_7 oX.rf hP hD hS pk_11 pk_12 (lv_sub hl [0, 1, 2] rfl)
set_option maxHeartbeats 4000000 in
set_option maxRecDepth 100000 in
theorem c_X8_parseSum_0f (l : Launch) (dC : Nat → ClassId) (dI : Nat → Nat → Nat) (sz : Nat) (tL tS tG : Nat) (cq : Nat → ClassId) (Z : oS) (gI : oInv Z) (o : Nat) (to : oty Z o 8) (x1 : Int32) (hx1 : 0 ≤ x1.toInt ∧ x1.toInt ≤ 0) (rw : Nat) (hrw : oP Z o 0 = some rw) (cd : Nat) (hcd : oP Z o 2 = some cd) (hft : (oI Z o 5).toInt = -1) (hcz : (oI Z o 3).toInt ≤ (oI Z o 4).toInt) : Met l yX8_parseSum wsX8_parseSum ({ frames := 24, cells := 0, slots := 0, locals := 538 }) (va_Pc [.ref o, .int x1] (pcO (dC, dI) (oT cq) (oW cq Z) sz tL tS tG (oW cq Z))) (va_Qv (fun (u : oS) => oInv u ∧ oX [803, 804, 805, 2063] Z u ∧ (tR Z u o cd (cS (tC Z o rw) 5 (tA Z o)))) (fun u t => va_P (dC, dI) vwCl (oW cq u) t.heap ∧ va_K (dC, dI) vwCl (oT cq) t ∧ va_D (va_A (oW cq Z) sz) (oW cq u)) (va_A (oW cq Z) sz)) 0 0 (va_A (oW cq Z) sz) := by
  refine Met.ofW (cc := cX8_parseSum) (maxL := 4) (ret := none) (by decide +kernel) rfl ?_
  intro p e s m args below meth c s₁ B hml hv
  obtain ⟨rfl, ⟨hsz, hP, hK, hD0⟩, hZ⟩ := hv
  have hx := B.exec
  have hb := B.bytes
  have hr := B.returns
  have hts := atoms_spec (ws := wsX8_parseSum) B.pre
  have hown : s.vm.findClass RX8 = some m.cls := findClass_of_methodNamed B.named
  have hlocks := B.notSynchronized
  subst hsz
  have hD := hD0.self (sz := s.heap.size)
  generalize hAe : va_A (oW cq Z) s.heap.size = A at hD hZ ⊢
  have hA : ∀ q : Nat, s.heap.size ≤ q → A q := fun q h => by rw [← hAe]; exact Or.inr h
  have hS : va_S A s.heap s.heap [] := va_S.rf
  have hP : va_P (dC, dI) vwCl (oW cq Z) s.heap := hP
  have hl := lv_entry ([.ref o, .int x1]) (n := 4) (Nat.le_of_ble_eq_true rfl)
  rw [lg_entry_eq]
  generalize (lg_sl ([.ref o, .int x1]) ++ List.replicate (4 - (lg_sl ([.ref o, .int x1])).length) Slot.unset).toArray = ls at hl ⊢
  have hl : lv_has ls 4 [(0, .ref o), (1, .int x1)] := hl
  have trw : oty Z rw 160 := oInv.rd gI to.2 hrw rfl rfl
  have tcd : oty Z cd 63 := oInv.rd gI to.2 hcd rfl rfl
  have iv_1 : 0 ≤ (oI Z o 1).toInt ∧ (oI Z o 1).toInt ≤ 60 := oInv.iv gI to.2 rfl rfl
  have iv_2 : 0 ≤ (oI Z o 3).toInt ∧ (oI Z o 3).toInt ≤ 60 := oInv.iv gI to.2 rfl rfl
  have iv_3 : 0 ≤ (oI Z o 4).toInt ∧ (oI Z o 4).toInt ≤ 60 := oInv.iv gI to.2 rfl rfl
  refine lv_aload_n hx hb dX8_parseSum_0 rfl (lv_at hl 0 rfl) ?_
  refine lv_iload_n hx hb dX8_parseSum_1 rfl (lv_at hl 1 rfl) ?_
  have hFc := o_free hD hS hA
  obtain ⟨q_4, hq_4⟩ := og (cq := cq) to.1 (oE_8 to.2)
  refine va_callv (va_runV (As := [.int x1]) (rest := []) ⟨hx, hb, hml, hown, hts⟩ (c_X8_parseTerm_0f l dC dI s.heap.size tL tS tG cq Z gI o to x1 (by omega) rw hrw cd hcd (by omega) (by omega)) (cwV 1 hts gX8_parseSum_X8_parseTerm rfl rfl rfl (by decide +kernel) ⟨(Nat.le_of_ble_eq_true rfl), (Nat.le_of_ble_eq_true rfl)⟩) (pr_VO (r := (RX8, TX8, 6)) hP hK hD q_4 8 rfl hq_4 (hZ.go hS hFc)) rfl rfl hl.1 rfl (lv_room (Nat.le_of_ble_eq_true rfl)) dX8_parseSum_2 ⟨(Nat.le_of_ble_eq_true rfl), (Nat.le_of_ble_eq_true rfl)⟩) hS (fun q _ h => hFc q h) hFc (fun u t H locs ht hvm w_5 hB hz1 hk1 hS => ?_)
  obtain ⟨S_7, rfl⟩ : ∃ z, z = u := ⟨_, rfl⟩
  obtain ⟨hP1, hK1, hD1⟩ := hB
  rw [ht] at hP1
  have hP : va_P (dC, dI) vwCl (oW cq S_7) H := hP1
  have hD : va_D A (oW cq S_7) := hD1.weaken (fun _ _ _ h => hFc _ h)
  clear hP1 hK1 hD1 hk1 hz1 hvm ht hFc
  obtain ⟨hIS_7, XS_7, hx_8⟩ := w_5
  have X_9 : oX [803, 804, 805, 2063] Z S_7 := oX.st oX.rf XS_7 (by decide +kernel)
  have g_10 : (oI S_7 o 1).toInt = (oI Z o 1).toInt := by rw [oX.i XS_7 to (by decide +kernel)]
  have pk_11 : oP S_7 o 0 = some rw := by rw [oX.p XS_7 to (by decide +kernel)]; exact hrw
  have pk_12 : oP S_7 o 2 = some cd := by rw [oX.p XS_7 to (by decide +kernel)]; exact hcd
  refine lv_iconst (v := 0) hx hb dX8_parseSum_5 (by decide +kernel) ?_
  refine lv_istore_n (lv' := [(2, .int 0), (0, .ref o), (1, .int x1)]) hx hb dX8_parseSum_6 rfl hl (by decide +kernel) rfl (fun ls hl => ?_)
  have cut_13 : ∀ (n : Nat) (y_14 : Int32) (S_15 : oS) (H : Heap) (locs : List Loc) (ls : Array Slot), 60 - y_14.toInt ≤ (n : Int) → (0 ≤ y_14.toInt ∧ y_14.toInt ≤ 60) → tLp Z S_15 o cd (cT (tC Z o rw) 5) (tC Z o rw) 43 45 (60 - y_14.toInt).toNat (cS (tC Z o rw) 5 (tA Z o)) → oInv S_15 → oX [803, 804, 805, 2063] S_7 S_15 → va_P (dC, dI) vwCl (oW cq S_15) H → va_D A (oW cq S_15) → va_S A s.heap H locs → oP S_15 o 0 = some rw → oP S_15 o 2 = some cd → lv_has ls 4 [(2, .int y_14), (0, .ref o), (1, .int x1)] → W p l e (headSpec wsX8_parseSum { frames := 24, cells := 0, slots := 0, locals := 538 }).room s m #[Value.ref o, Value.int x1] below meth c H locs 0 0 (MQ below (va_Qv (fun (u : oS) => oInv u ∧ oX [803, 804, 805, 2063] Z u ∧ (tR Z u o cd (cS (tC Z o rw) 5 (tA Z o)))) (fun u t => va_P (dC, dI) vwCl (oW cq u) t.heap ∧ va_K (dC, dI) vwCl (oT cq) t ∧ va_D A (oW cq u)) A) #[Value.ref o, Value.int x1] s 0 0 A) (F0 m 7 ls []) := by
    intro n
    induction n using Nat.strongRecOn with
    | ind n ih =>
      intro y_14 S_15 H locs ls hm hy_14 hq0_cut_13 hIS_15 XS_15 hP hD hS pk_16 pk_17 hl
      have YS_15 : oX [803, 804, 805, 2063] Z S_15 := oX.st X_9 XS_15 (fun _ q => q)
      refine lv_iload_n hx hb dX8_parseSum_7 rfl (lv_at hl 0 rfl) ?_
      refine lv_bipush (v := 60) hx hb dX8_parseSum_8 (by decide +kernel) ?_
      refine lv_icmp_ge (tgt := 74) hx hb dX8_parseSum_10 (by decide +kernel) (fun c_18 => ?_) (fun c_18 => ?_)
      · have dc_18 := c_le (a := 60) (b := y_14.toInt) (by decide +kernel) rfl c_18
        exact W.vret hx hb hr (fun t ht hW => ⟨⟨S_15, rfl, ⟨hIS_15, YS_15, (tLp_0 hq0_cut_13 (by omega))⟩, ⟨by rw [ht]; exact hP, va_K.moved hW.alike hK, hD⟩⟩, hS.F ht⟩) hS.2.2 dX8_parseSum_74
      · have dc_18 := c_nle (a := 60) (b := y_14.toInt) (by decide +kernel) rfl c_18
        refine lv_aload_n hx hb dX8_parseSum_13 rfl (lv_at hl 1 rfl) ?_
        have t_19 : oty S_15 o 8 := (oX.ty XS_15 (oX.ty XS_7 to))
        obtain ⟨q_20, hq_20⟩ := og (cq := cq) t_19.1 (oE_8 t_19.2)
        refine va_get (D := (dC, dI)) (ci := 8) (v := .int (oI S_15 o 5)) (C := RX8) (T := TX8) (N := 6) hx hb hts in_wsX8_parseSum_X8 hown hK hP q_20 hq_20 rfl 5 (by decide +kernel) (hts (.fieldLink RX8 28 "ShipOffice$Tape" "fault" "I") iw_X8_parseSum_1) (fun _ h9 => h9) rfl dX8_parseSum_14 ?_
        refine lv_topi (fun x_21 ex_21 => ?_)
        have gx_21 : x_21.toInt = (oI S_15 o 5).toInt := iv_to ex_21
        clear ex_21
        refine lv_if_ge (tgt := 74) hx hb dX8_parseSum_17 (by decide +kernel) (fun c_22 => ?_) (fun c_22 => ?_)
        · have dc_22 := c_le (a := 0) (b := x_21.toInt) (by decide +kernel) rfl c_22
          exact W.vret hx hb hr (fun t ht hW => ⟨⟨S_15, rfl, ⟨hIS_15, YS_15, (tLp_f hq0_cut_13 (by omega))⟩, ⟨by rw [ht]; exact hP, va_K.moved hW.alike hK, hD⟩⟩, hS.F ht⟩) hS.2.2 dX8_parseSum_74
        · have dc_22 := c_nle (a := 0) (b := x_21.toInt) (by decide +kernel) rfl c_22
          refine lv_aload_n hx hb dX8_parseSum_20 rfl (lv_at hl 1 rfl) ?_
          refine lv_bipush (v := 43) hx hb dX8_parseSum_21 (by decide +kernel) ?_
          have hFc : ∀ q, va_A [] H.size q → A q := pu_free hS hA
          refine va_calli (va_runV (As := [.int 43]) (rest := []) ⟨hx, hb, hml, hown, hts⟩ (c_X8_sees_f l dC dI H.size cq S_15 hIS_15 o t_19 43 rw pk_16 (by decide +kernel)) (cwV 1 hts gX8_parseSum_X8_sees rfl rfl rfl (by decide +kernel) ⟨(Nat.le_of_ble_eq_true rfl), (Nat.le_of_ble_eq_true rfl)⟩) (pr_V (r := (RX8, TX8, 6)) hP hK hD q_20 8 rfl hq_20) rfl rfl hl.1 rfl (lv_room (Nat.le_of_ble_eq_true rfl)) dX8_parseSum_23 ⟨(Nat.le_of_ble_eq_true rfl), (Nat.le_of_ble_eq_true rfl)⟩) hS (fun q _ h => hFc q h) hFc (fun r_24 u t H locs ht hvm w_23 hB hz1 hk1 hS => ?_)
          have hP := pu_keep hP hk1
          clear hk1 hz1 hvm hB ht hFc
          obtain ⟨hb_25, hx_26⟩ := w_23
          refine lv_if_ne (tgt := 38) hx hb dX8_parseSum_26 (by decide +kernel) (fun c_27 => ?_) (fun c_27 => ?_)
          · have dc_27 := c_ne (a := r_24.toInt) (b := 0) rfl (by decide +kernel) c_27
            have bz_28 := bz1 hx_26 c_27
            have iv_29 : 0 ≤ (oI S_15 o 4).toInt ∧ (oI S_15 o 4).toInt ≤ 60 := oInv.iv hIS_15 t_19.2 rfl rfl
            have iv_30 : 0 ≤ (oI S_15 o 1).toInt ∧ (oI S_15 o 1).toInt ≤ 60 := oInv.iv hIS_15 t_19.2 rfl rfl
            have lt_31 := sf_lt (by decide +kernel) bz_28 (by omega)
            have iv_32 : 0 ≤ (oI S_15 o 3).toInt ∧ (oI S_15 o 3).toInt ≤ 60 := oInv.iv hIS_15 t_19.2 rfl rfl
            have iv_33 : 0 ≤ (oI S_15 o 4).toInt ∧ (oI S_15 o 4).toInt ≤ 60 := oInv.iv hIS_15 t_19.2 rfl rfl
            have z0 := tN_i Z o
            have z1 := tA_i Z o
            have z2 := tN_i S_15 o
            have z3 := tA_i S_15 o
            have z4 := tLp_m hq0_cut_13 (by omega) (by omega)
            refine lv_aload_n hx hb dX8_parseSum_38 rfl (lv_at hl 1 rfl) ?_
            refine va_get (D := (dC, dI)) (ci := 8) (v := .ref rw) (C := RX8) (T := TX8) (N := 6) hx hb hts in_wsX8_parseSum_X8 hown hK hP q_20 hq_20 rfl 0 (by decide +kernel) (hts (.fieldLink RX8 9 "ShipOffice$Tape" "bytes" "[I") iw_X8_parseSum_2) (fun _ h9 => h9) (o_rd pk_16) dX8_parseSum_39 ?_
            refine lv_aload_n hx hb dX8_parseSum_42 rfl (lv_at hl 1 rfl) ?_
            refine va_get (D := (dC, dI)) (ci := 8) (v := .int (oI S_15 o 4)) (C := RX8) (T := TX8) (N := 6) hx hb hts in_wsX8_parseSum_X8 hown hK hP q_20 hq_20 rfl 4 (by decide +kernel) (hts (.fieldLink RX8 22 "ShipOffice$Tape" "at" "I") iw_X8_parseSum_3) (fun _ h9 => h9) rfl dX8_parseSum_43 ?_
            refine lv_topi (fun x_34 ex_34 => ?_)
            have hx_34 : 0 ≤ x_34.toInt ∧ x_34.toInt ≤ 60 := iv_of ex_34 (oInv.iv hIS_15 t_19.2 rfl rfl)
            have gx_34 : x_34.toInt = (oI S_15 o 4).toInt := iv_to ex_34
            clear ex_34
            have t_35 : oty S_15 rw 160 := (oX.ty XS_15 (oX.ty XS_7 trw))
            obtain ⟨q_36, hq_36⟩ := og (cq := cq) t_35.1 (oE_a1 (n := 60) t_35.2 (by decide +kernel))
            refine va_iald hx hb hK hP q_36 0 hq_36 rfl (vp_in_iff.mpr (by omega)) dX8_parseSum_46 ?_
            refine lv_topi (fun x_37 ex_37 => ?_)
            refine lv_istore_n (lv' := [(3, .int x_37), (2, .int y_14), (0, .ref o), (1, .int x1)]) hx hb dX8_parseSum_47 rfl hl (by decide +kernel) rfl (fun ls hl => ?_)
            refine lv_aload_n hx hb dX8_parseSum_48 rfl (lv_at hl 2 rfl) ?_
            refine lv_dup hx hb dX8_parseSum_49 rfl ?_
            refine va_get (D := (dC, dI)) (ci := 8) (v := .int (oI S_15 o 4)) (C := RX8) (T := TX8) (N := 6) hx hb hts in_wsX8_parseSum_X8 hown hK hP q_20 hq_20 rfl 4 (by decide +kernel) (hts (.fieldLink RX8 22 "ShipOffice$Tape" "at" "I") iw_X8_parseSum_3) (fun _ h9 => h9) rfl dX8_parseSum_50 ?_
            refine lv_topi (fun x_38 ex_38 => ?_)
            have hx_38 : 0 ≤ x_38.toInt ∧ x_38.toInt ≤ 60 := iv_of ex_38 (oInv.iv hIS_15 t_19.2 rfl rfl)
            have gx_38 : x_38.toInt = (oI S_15 o 4).toInt := iv_to ex_38
            clear ex_38
            refine lv_iconst (v := 1) hx hb dX8_parseSum_53 (by decide +kernel) ?_
            refine lv_iadd hx hb dX8_parseSum_54 ?_
            refine lv_topi (fun x_39 ex_39 => ?_)
            have hx_39 : x_39.toInt = x_38.toInt + 1 := (iv_to ex_39).trans (ad_i rfl (by decide +kernel) (by omega) (by omega))
            refine va_put (D := (dC, dI)) (ci := 8) (v := .int x_39) (ty := .int) (C := RX8) (T := TX8) (N := 6) hx hb hts in_wsX8_parseSum_X8 tyX8 tyX8_ok nmX8 hown hK hP hD hS q_20 hq_20 rfl 4 (by decide +kernel) (hts (.fieldLink RX8 22 "ShipOffice$Tape" "at" "I") iw_X8_parseSum_3) (fun _ h9 => h9) rfl (by decide +kernel) rfl rfl (Nat.le_of_ble_eq_true rfl) dX8_parseSum_55 (fun H locs hP1 hD1 hS => ?_)
            obtain ⟨S_40, eS_40⟩ : ∃ zq, zq = setI S_15 o 4 x_39 := ⟨_, rfl⟩
            have hP : va_P (dC, dI) vwCl (oW cq S_40) H := by rw [eS_40]; exact cP (oset t_19.1 hq_20 hD rfl (he_8_4 t_19.2) neI) hP1
            have hD : va_D A (oW cq S_40) := by rw [eS_40]; exact cD (oset t_19.1 hq_20 hD rfl (he_8_4 t_19.2) neI) hD1
            clear hP1 hD1
            have hIS_40 : oInv S_40 := by rw [eS_40]; exact oInv.I0 (k := 8) (lo := 0) (hi := 60) hIS_15 t_19.2 (by decide +kernel) rfl rfl rfl (by omega)
            have XS_40 : oX [804] S_15 S_40 := by rw [eS_40]; exact oX.I (k := 8) (key := 804) t_19.2 rfl (List.mem_singleton.mpr rfl)
            have pk_41 : oP S_40 o 0 = some rw := by rw [eS_40]; exact pk_16
            have pk_42 : oP S_40 o 2 = some cd := by rw [eS_40]; exact pk_17
            have X_43 : oX [803, 804, 805, 2063] Z S_40 := oX.st YS_15 XS_40 (by decide +kernel)
            have g_44 : (oI S_40 o 1).toInt = (oI S_15 o 1).toInt := by rw [eS_40, setI_ne (by decide +kernel)]
            have g_45 : (oI S_40 o 3).toInt = (oI S_15 o 3).toInt := by rw [eS_40, setI_ne (by decide +kernel)]
            have g_46 : (oI S_40 o 4).toInt = x_39.toInt := by rw [eS_40, setI_same]
            have g_47 : (oI S_40 o 5).toInt = (oI S_15 o 5).toInt := by rw [eS_40, setI_ne (by decide +kernel)]
            have hkx_37 : x_37.toInt = 43 := by rw [(sf_e (y := x_34) (by omega) (by omega) (by omega) ex_37).symm.trans bz_28]; decide
            refine lv_aload_n hx hb dX8_parseSum_58 rfl (lv_at hl 2 rfl) ?_
            refine lv_iload_n hx hb dX8_parseSum_59 rfl (lv_at hl 3 rfl) ?_
            have t_48 : oty S_40 o 8 := (oX.ty XS_40 t_19)
            have hFc := o_free hD hS hA
            obtain ⟨q_49, hq_49⟩ := og (cq := cq) t_48.1 (oE_8 t_48.2)
            refine va_callv (va_runV (As := [.int x1]) (rest := []) ⟨hx, hb, hml, hown, hts⟩ (c_X8_parseTerm_0f l dC dI H.size tL tS tG cq S_40 hIS_40 o t_48 x1 (by omega) rw pk_41 cd pk_42 (by omega) (by omega)) (cwV 1 hts gX8_parseSum_X8_parseTerm rfl rfl rfl (by decide +kernel) ⟨(Nat.le_of_ble_eq_true rfl), (Nat.le_of_ble_eq_true rfl)⟩) (pr_VO (r := (RX8, TX8, 6)) hP hK hD q_49 8 rfl hq_49 (hZ.go hS hFc)) rfl rfl hl.1 rfl (lv_room (Nat.le_of_ble_eq_true rfl)) dX8_parseSum_60 ⟨(Nat.le_of_ble_eq_true rfl), (Nat.le_of_ble_eq_true rfl)⟩) hS (fun q _ h => hFc q h) hFc (fun u t H locs ht hvm w_50 hB hz1 hk1 hS => ?_)
            obtain ⟨S_52, rfl⟩ : ∃ z, z = u := ⟨_, rfl⟩
            obtain ⟨hP1, hK1, hD1⟩ := hB
            rw [ht] at hP1
            have hP : va_P (dC, dI) vwCl (oW cq S_52) H := hP1
            have hD : va_D A (oW cq S_52) := hD1.weaken (fun _ _ _ h => hFc _ h)
            clear hP1 hK1 hD1 hk1 hz1 hvm ht hFc
            obtain ⟨hIS_52, XS_52, hx_53⟩ := w_50
            have X_54 : oX [803, 804, 805, 2063] Z S_52 := oX.st X_43 XS_52 (by decide +kernel)
            have g_55 : (oI S_52 o 1).toInt = (oI S_40 o 1).toInt := by rw [oX.i XS_52 t_48 (by decide +kernel)]
            have pk_56 : oP S_52 o 0 = some rw := by rw [oX.p XS_52 t_48 (by decide +kernel)]; exact pk_41
            have pk_57 : oP S_52 o 2 = some cd := by rw [oX.p XS_52 t_48 (by decide +kernel)]; exact pk_42
            have t_59 : oty S_52 o 8 := (oX.ty XS_52 t_48)
            have iv_58 : 0 ≤ (oI S_52 o 4).toInt ∧ (oI S_52 o 4).toInt ≤ 60 := oInv.iv hIS_52 t_59.2 rfl rfl
            refine lv_aload_n hx hb dX8_parseSum_63 rfl (lv_at hl 2 rfl) ?_
            refine lv_iload_n hx hb dX8_parseSum_64 rfl (lv_at hl 0 rfl) ?_
            have hFc := o_free hD hS hA
            obtain ⟨q_60, hq_60⟩ := og (cq := cq) t_59.1 (oE_8 t_59.2)
            refine va_callv (va_runV (As := [.int x_37]) (rest := []) ⟨hx, hb, hml, hown, hts⟩ (c_X8_emitSign_f l dC dI H.size tL tS tG cq S_52 hIS_52 o t_59 x_37 cd pk_57 (by omega)) (cwV 1 hts gX8_parseSum_X8_emitSign rfl rfl rfl (by decide +kernel) ⟨(Nat.le_of_ble_eq_true rfl), (Nat.le_of_ble_eq_true rfl)⟩) (pr_VO (r := (RX8, TX8, 6)) hP hK hD q_60 8 rfl hq_60 (hZ.go hS hFc)) rfl rfl hl.1 rfl (lv_room (Nat.le_of_ble_eq_true rfl)) dX8_parseSum_65 ⟨(Nat.le_of_ble_eq_true rfl), (Nat.le_of_ble_eq_true rfl)⟩) hS (fun q _ h => hFc q h) hFc (fun u t H locs ht hvm w_61 hB hz1 hk1 hS => ?_)
            obtain ⟨S_63, rfl⟩ : ∃ z, z = u := ⟨_, rfl⟩
            obtain ⟨hP1, hK1, hD1⟩ := hB
            rw [ht] at hP1
            have hP : va_P (dC, dI) vwCl (oW cq S_63) H := hP1
            have hD : va_D A (oW cq S_63) := hD1.weaken (fun _ _ _ h => hFc _ h)
            clear hP1 hK1 hD1 hk1 hz1 hvm ht hFc
            obtain ⟨hIS_63, XS_63, hx_64⟩ := w_61
            have X_65 : oX [803, 804, 805, 2063] Z S_63 := oX.st X_54 XS_63 (by decide +kernel)
            have g_66 : (oI S_63 o 1).toInt = (oI S_52 o 1).toInt := by rw [oX.i XS_63 t_59 (by decide +kernel)]
            have pk_67 : oP S_63 o 0 = some rw := by rw [oX.p XS_63 t_59 (by decide +kernel)]; exact pk_56
            have pk_68 : oP S_63 o 2 = some cd := by rw [oX.p XS_63 t_59 (by decide +kernel)]; exact pk_57
            obtain ⟨x_69, ex_69⟩ : ∃ zq : Int32, y_14 + 1 = zq := ⟨_, rfl⟩
            have hx_69 : x_69.toInt = y_14.toInt + 1 := (iv_to ex_69).symm.trans (ad_i rfl (by decide +kernel) (by omega) (by omega))
            refine lv_iinc (v := x_69) (lv' := [(2, .int x_69), (3, .int x_37), (0, .ref o), (1, .int x1)]) hx hb dX8_parseSum_68 hl (k := 1) rfl ex_69 (by decide +kernel) rfl (fun ls hl => ?_)
            clear ex_69
            refine lv_goto (tgt := 7) hx hb dX8_parseSum_71 (by decide +kernel) ?_
            exact ih (n - 1) (by omega) x_69 S_63 _ _ ls (by omega) (by omega) (by have hC := tX_C YS_15 to trw (by decide +kernel) (by decide +kernel); have a0 := tA_i Z o; have a1 := tA_i S_15 o; have a2 := tA_i S_40 o; have a3 := tA_i S_52 o; have n0 := tN_i Z o; exact tLp_go hq0_cut_13 (by omega) (by omega) (by rw [← hC]; exact sf_e (y := x_34) (by omega) (by omega) (by omega) ex_37) (Or.inl ((sf_e (y := x_34) (by omega) (by omega) (by omega) ex_37).symm.trans bz_28)) (oX.ty XS_15 (oX.ty XS_7 to)) (oX.ty XS_15 (oX.ty XS_7 tcd)) XS_40 (by omega) (by have g := hx_53; rw [tX_C XS_40 (oX.ty XS_15 (oX.ty XS_7 to)) (oX.ty XS_15 (oX.ty XS_7 trw)) (by decide +kernel) (by decide +kernel), hC] at g; exact g) XS_63 (oX.ty XS_52 (oX.ty XS_40 (oX.ty XS_15 (oX.ty XS_7 to)))) (by omega) (by omega) hx_64) hIS_63 (oX.st (oX.st (oX.st (oX.st oX.rf XS_15 (by decide +kernel)) XS_40 (by decide +kernel)) XS_52 (by decide +kernel)) XS_63 (by decide +kernel)) hP hD hS pk_67 pk_68 (lv_sub hl [0, 2, 3] rfl)
          · have dc_27 := c_eq (a := r_24.toInt) (b := 0) rfl (by decide +kernel) c_27
            have bz_70 := bz0 hx_26 c_27
            refine lv_aload_n hx hb dX8_parseSum_29 rfl (lv_at hl 1 rfl) ?_
            refine lv_bipush (v := 45) hx hb dX8_parseSum_30 (by decide +kernel) ?_
            have hFc : ∀ q, va_A [] H.size q → A q := pu_free hS hA
            refine va_calli (va_runV (As := [.int 45]) (rest := []) ⟨hx, hb, hml, hown, hts⟩ (c_X8_sees_f l dC dI H.size cq S_15 hIS_15 o t_19 45 rw pk_16 (by decide +kernel)) (cwV 1 hts gX8_parseSum_X8_sees rfl rfl rfl (by decide +kernel) ⟨(Nat.le_of_ble_eq_true rfl), (Nat.le_of_ble_eq_true rfl)⟩) (pr_V (r := (RX8, TX8, 6)) hP hK hD q_20 8 rfl hq_20) rfl rfl hl.1 rfl (lv_room (Nat.le_of_ble_eq_true rfl)) dX8_parseSum_32 ⟨(Nat.le_of_ble_eq_true rfl), (Nat.le_of_ble_eq_true rfl)⟩) hS (fun q _ h => hFc q h) hFc (fun r_72 u t H locs ht hvm w_71 hB hz1 hk1 hS => ?_)
            have hP := pu_keep hP hk1
            clear hk1 hz1 hvm hB ht hFc
            obtain ⟨hb_73, hx_74⟩ := w_71
            refine lv_if_eq (tgt := 74) hx hb dX8_parseSum_35 (by decide +kernel) (fun c_75 => ?_) (fun c_75 => ?_)
            · have dc_75 := c_eq (a := r_72.toInt) (b := 0) rfl (by decide +kernel) c_75
              have bz_76 := bz0 hx_74 c_75
              exact W.vret hx hb hr (fun t ht hW => ⟨⟨S_15, rfl, ⟨hIS_15, YS_15, (by have hC := tX_C YS_15 to trw (by decide +kernel) (by decide +kernel); exact tLp_n hq0_cut_13 (by rw [← hC]; exact bz_70) (by rw [← hC]; exact bz_76))⟩, ⟨by rw [ht]; exact hP, va_K.moved hW.alike hK, hD⟩⟩, hS.F ht⟩) hS.2.2 dX8_parseSum_74
            · have dc_75 := c_ne (a := r_72.toInt) (b := 0) rfl (by decide +kernel) c_75
              have bz_77 := bz1 hx_74 c_75
              have iv_78 : 0 ≤ (oI S_15 o 4).toInt ∧ (oI S_15 o 4).toInt ≤ 60 := oInv.iv hIS_15 t_19.2 rfl rfl
              have iv_79 : 0 ≤ (oI S_15 o 1).toInt ∧ (oI S_15 o 1).toInt ≤ 60 := oInv.iv hIS_15 t_19.2 rfl rfl
              have lt_80 := sf_lt (by decide +kernel) bz_77 (by omega)
              have iv_81 : 0 ≤ (oI S_15 o 3).toInt ∧ (oI S_15 o 3).toInt ≤ 60 := oInv.iv hIS_15 t_19.2 rfl rfl
              have iv_82 : 0 ≤ (oI S_15 o 4).toInt ∧ (oI S_15 o 4).toInt ≤ 60 := oInv.iv hIS_15 t_19.2 rfl rfl
              have z0 := tN_i Z o
              have z1 := tA_i Z o
              have z2 := tN_i S_15 o
              have z3 := tA_i S_15 o
              have z4 := tLp_m hq0_cut_13 (by omega) (by omega)
              refine lv_aload_n hx hb dX8_parseSum_38 rfl (lv_at hl 1 rfl) ?_
              refine va_get (D := (dC, dI)) (ci := 8) (v := .ref rw) (C := RX8) (T := TX8) (N := 6) hx hb hts in_wsX8_parseSum_X8 hown hK hP q_20 hq_20 rfl 0 (by decide +kernel) (hts (.fieldLink RX8 9 "ShipOffice$Tape" "bytes" "[I") iw_X8_parseSum_2) (fun _ h9 => h9) (o_rd pk_16) dX8_parseSum_39 ?_
              refine lv_aload_n hx hb dX8_parseSum_42 rfl (lv_at hl 1 rfl) ?_
              refine va_get (D := (dC, dI)) (ci := 8) (v := .int (oI S_15 o 4)) (C := RX8) (T := TX8) (N := 6) hx hb hts in_wsX8_parseSum_X8 hown hK hP q_20 hq_20 rfl 4 (by decide +kernel) (hts (.fieldLink RX8 22 "ShipOffice$Tape" "at" "I") iw_X8_parseSum_3) (fun _ h9 => h9) rfl dX8_parseSum_43 ?_
              refine lv_topi (fun x_83 ex_83 => ?_)
              have hx_83 : 0 ≤ x_83.toInt ∧ x_83.toInt ≤ 60 := iv_of ex_83 (oInv.iv hIS_15 t_19.2 rfl rfl)
              have gx_83 : x_83.toInt = (oI S_15 o 4).toInt := iv_to ex_83
              clear ex_83
              have t_84 : oty S_15 rw 160 := (oX.ty XS_15 (oX.ty XS_7 trw))
              obtain ⟨q_85, hq_85⟩ := og (cq := cq) t_84.1 (oE_a1 (n := 60) t_84.2 (by decide +kernel))
              refine va_iald hx hb hK hP q_85 0 hq_85 rfl (vp_in_iff.mpr (by omega)) dX8_parseSum_46 ?_
              refine lv_topi (fun x_86 ex_86 => ?_)
              refine lv_istore_n (lv' := [(3, .int x_86), (2, .int y_14), (0, .ref o), (1, .int x1)]) hx hb dX8_parseSum_47 rfl hl (by decide +kernel) rfl (fun ls hl => ?_)
              refine lv_aload_n hx hb dX8_parseSum_48 rfl (lv_at hl 2 rfl) ?_
              refine lv_dup hx hb dX8_parseSum_49 rfl ?_
              refine va_get (D := (dC, dI)) (ci := 8) (v := .int (oI S_15 o 4)) (C := RX8) (T := TX8) (N := 6) hx hb hts in_wsX8_parseSum_X8 hown hK hP q_20 hq_20 rfl 4 (by decide +kernel) (hts (.fieldLink RX8 22 "ShipOffice$Tape" "at" "I") iw_X8_parseSum_3) (fun _ h9 => h9) rfl dX8_parseSum_50 ?_
              refine lv_topi (fun x_87 ex_87 => ?_)
              have hx_87 : 0 ≤ x_87.toInt ∧ x_87.toInt ≤ 60 := iv_of ex_87 (oInv.iv hIS_15 t_19.2 rfl rfl)
              have gx_87 : x_87.toInt = (oI S_15 o 4).toInt := iv_to ex_87
              clear ex_87
              refine lv_iconst (v := 1) hx hb dX8_parseSum_53 (by decide +kernel) ?_
              refine lv_iadd hx hb dX8_parseSum_54 ?_
              refine lv_topi (fun x_88 ex_88 => ?_)
              have hx_88 : x_88.toInt = x_87.toInt + 1 := (iv_to ex_88).trans (ad_i rfl (by decide +kernel) (by omega) (by omega))
              refine va_put (D := (dC, dI)) (ci := 8) (v := .int x_88) (ty := .int) (C := RX8) (T := TX8) (N := 6) hx hb hts in_wsX8_parseSum_X8 tyX8 tyX8_ok nmX8 hown hK hP hD hS q_20 hq_20 rfl 4 (by decide +kernel) (hts (.fieldLink RX8 22 "ShipOffice$Tape" "at" "I") iw_X8_parseSum_3) (fun _ h9 => h9) rfl (by decide +kernel) rfl rfl (Nat.le_of_ble_eq_true rfl) dX8_parseSum_55 (fun H locs hP1 hD1 hS => ?_)
              obtain ⟨S_89, eS_89⟩ : ∃ zq, zq = setI S_15 o 4 x_88 := ⟨_, rfl⟩
              have hP : va_P (dC, dI) vwCl (oW cq S_89) H := by rw [eS_89]; exact cP (oset t_19.1 hq_20 hD rfl (he_8_4 t_19.2) neI) hP1
              have hD : va_D A (oW cq S_89) := by rw [eS_89]; exact cD (oset t_19.1 hq_20 hD rfl (he_8_4 t_19.2) neI) hD1
              clear hP1 hD1
              have hIS_89 : oInv S_89 := by rw [eS_89]; exact oInv.I0 (k := 8) (lo := 0) (hi := 60) hIS_15 t_19.2 (by decide +kernel) rfl rfl rfl (by omega)
              have XS_89 : oX [804] S_15 S_89 := by rw [eS_89]; exact oX.I (k := 8) (key := 804) t_19.2 rfl (List.mem_singleton.mpr rfl)
              have pk_90 : oP S_89 o 0 = some rw := by rw [eS_89]; exact pk_16
              have pk_91 : oP S_89 o 2 = some cd := by rw [eS_89]; exact pk_17
              have X_92 : oX [803, 804, 805, 2063] Z S_89 := oX.st YS_15 XS_89 (by decide +kernel)
              have g_93 : (oI S_89 o 1).toInt = (oI S_15 o 1).toInt := by rw [eS_89, setI_ne (by decide +kernel)]
              have g_94 : (oI S_89 o 3).toInt = (oI S_15 o 3).toInt := by rw [eS_89, setI_ne (by decide +kernel)]
              have g_95 : (oI S_89 o 4).toInt = x_88.toInt := by rw [eS_89, setI_same]
              have g_96 : (oI S_89 o 5).toInt = (oI S_15 o 5).toInt := by rw [eS_89, setI_ne (by decide +kernel)]
              have hkx_86 : x_86.toInt = 45 := by rw [(sf_e (y := x_83) (by omega) (by omega) (by omega) ex_86).symm.trans bz_77]; decide
              refine lv_aload_n hx hb dX8_parseSum_58 rfl (lv_at hl 2 rfl) ?_
              refine lv_iload_n hx hb dX8_parseSum_59 rfl (lv_at hl 3 rfl) ?_
              have t_97 : oty S_89 o 8 := (oX.ty XS_89 t_19)
              have hFc := o_free hD hS hA
              obtain ⟨q_98, hq_98⟩ := og (cq := cq) t_97.1 (oE_8 t_97.2)
              refine va_callv (va_runV (As := [.int x1]) (rest := []) ⟨hx, hb, hml, hown, hts⟩ (c_X8_parseTerm_0f l dC dI H.size tL tS tG cq S_89 hIS_89 o t_97 x1 (by omega) rw pk_90 cd pk_91 (by omega) (by omega)) (cwV 1 hts gX8_parseSum_X8_parseTerm rfl rfl rfl (by decide +kernel) ⟨(Nat.le_of_ble_eq_true rfl), (Nat.le_of_ble_eq_true rfl)⟩) (pr_VO (r := (RX8, TX8, 6)) hP hK hD q_98 8 rfl hq_98 (hZ.go hS hFc)) rfl rfl hl.1 rfl (lv_room (Nat.le_of_ble_eq_true rfl)) dX8_parseSum_60 ⟨(Nat.le_of_ble_eq_true rfl), (Nat.le_of_ble_eq_true rfl)⟩) hS (fun q _ h => hFc q h) hFc (fun u t H locs ht hvm w_99 hB hz1 hk1 hS => ?_)
              obtain ⟨S_101, rfl⟩ : ∃ z, z = u := ⟨_, rfl⟩
              obtain ⟨hP1, hK1, hD1⟩ := hB
              rw [ht] at hP1
              have hP : va_P (dC, dI) vwCl (oW cq S_101) H := hP1
              have hD : va_D A (oW cq S_101) := hD1.weaken (fun _ _ _ h => hFc _ h)
              clear hP1 hK1 hD1 hk1 hz1 hvm ht hFc
              obtain ⟨hIS_101, XS_101, hx_102⟩ := w_99
              have X_103 : oX [803, 804, 805, 2063] Z S_101 := oX.st X_92 XS_101 (by decide +kernel)
              have g_104 : (oI S_101 o 1).toInt = (oI S_89 o 1).toInt := by rw [oX.i XS_101 t_97 (by decide +kernel)]
              have pk_105 : oP S_101 o 0 = some rw := by rw [oX.p XS_101 t_97 (by decide +kernel)]; exact pk_90
              have pk_106 : oP S_101 o 2 = some cd := by rw [oX.p XS_101 t_97 (by decide +kernel)]; exact pk_91
              have t_108 : oty S_101 o 8 := (oX.ty XS_101 t_97)
              have iv_107 : 0 ≤ (oI S_101 o 4).toInt ∧ (oI S_101 o 4).toInt ≤ 60 := oInv.iv hIS_101 t_108.2 rfl rfl
              refine lv_aload_n hx hb dX8_parseSum_63 rfl (lv_at hl 2 rfl) ?_
              refine lv_iload_n hx hb dX8_parseSum_64 rfl (lv_at hl 0 rfl) ?_
              have hFc := o_free hD hS hA
              obtain ⟨q_109, hq_109⟩ := og (cq := cq) t_108.1 (oE_8 t_108.2)
              refine va_callv (va_runV (As := [.int x_86]) (rest := []) ⟨hx, hb, hml, hown, hts⟩ (c_X8_emitSign_f l dC dI H.size tL tS tG cq S_101 hIS_101 o t_108 x_86 cd pk_106 (by omega)) (cwV 1 hts gX8_parseSum_X8_emitSign rfl rfl rfl (by decide +kernel) ⟨(Nat.le_of_ble_eq_true rfl), (Nat.le_of_ble_eq_true rfl)⟩) (pr_VO (r := (RX8, TX8, 6)) hP hK hD q_109 8 rfl hq_109 (hZ.go hS hFc)) rfl rfl hl.1 rfl (lv_room (Nat.le_of_ble_eq_true rfl)) dX8_parseSum_65 ⟨(Nat.le_of_ble_eq_true rfl), (Nat.le_of_ble_eq_true rfl)⟩) hS (fun q _ h => hFc q h) hFc (fun u t H locs ht hvm w_110 hB hz1 hk1 hS => ?_)
              obtain ⟨S_112, rfl⟩ : ∃ z, z = u := ⟨_, rfl⟩
              obtain ⟨hP1, hK1, hD1⟩ := hB
              rw [ht] at hP1
              have hP : va_P (dC, dI) vwCl (oW cq S_112) H := hP1
              have hD : va_D A (oW cq S_112) := hD1.weaken (fun _ _ _ h => hFc _ h)
              clear hP1 hK1 hD1 hk1 hz1 hvm ht hFc
              obtain ⟨hIS_112, XS_112, hx_113⟩ := w_110
              have X_114 : oX [803, 804, 805, 2063] Z S_112 := oX.st X_103 XS_112 (by decide +kernel)
              have g_115 : (oI S_112 o 1).toInt = (oI S_101 o 1).toInt := by rw [oX.i XS_112 t_108 (by decide +kernel)]
              have pk_116 : oP S_112 o 0 = some rw := by rw [oX.p XS_112 t_108 (by decide +kernel)]; exact pk_105
              have pk_117 : oP S_112 o 2 = some cd := by rw [oX.p XS_112 t_108 (by decide +kernel)]; exact pk_106
              obtain ⟨x_118, ex_118⟩ : ∃ zq : Int32, y_14 + 1 = zq := ⟨_, rfl⟩
              have hx_118 : x_118.toInt = y_14.toInt + 1 := (iv_to ex_118).symm.trans (ad_i rfl (by decide +kernel) (by omega) (by omega))
              refine lv_iinc (v := x_118) (lv' := [(2, .int x_118), (3, .int x_86), (0, .ref o), (1, .int x1)]) hx hb dX8_parseSum_68 hl (k := 1) rfl ex_118 (by decide +kernel) rfl (fun ls hl => ?_)
              clear ex_118
              refine lv_goto (tgt := 7) hx hb dX8_parseSum_71 (by decide +kernel) ?_
              exact ih (n - 1) (by omega) x_118 S_112 _ _ ls (by omega) (by omega) (by have hC := tX_C YS_15 to trw (by decide +kernel) (by decide +kernel); have a0 := tA_i Z o; have a1 := tA_i S_15 o; have a2 := tA_i S_89 o; have a3 := tA_i S_101 o; have n0 := tN_i Z o; exact tLp_go hq0_cut_13 (by omega) (by omega) (by rw [← hC]; exact sf_e (y := x_83) (by omega) (by omega) (by omega) ex_86) (Or.inr ((sf_e (y := x_83) (by omega) (by omega) (by omega) ex_86).symm.trans bz_77)) (oX.ty XS_15 (oX.ty XS_7 to)) (oX.ty XS_15 (oX.ty XS_7 tcd)) XS_89 (by omega) (by have g := hx_102; rw [tX_C XS_89 (oX.ty XS_15 (oX.ty XS_7 to)) (oX.ty XS_15 (oX.ty XS_7 trw)) (by decide +kernel) (by decide +kernel), hC] at g; exact g) XS_112 (oX.ty XS_101 (oX.ty XS_89 (oX.ty XS_15 (oX.ty XS_7 to)))) (by omega) (by omega) hx_113) hIS_112 (oX.st (oX.st (oX.st (oX.st oX.rf XS_15 (by decide +kernel)) XS_89 (by decide +kernel)) XS_101 (by decide +kernel)) XS_112 (by decide +kernel)) hP hD hS pk_116 pk_117 (lv_sub hl [0, 2, 3] rfl)
  have kc_119 : (0 : Int32).toInt = 0 := by decide
  exact cut_13 61 0 S_7 _ _ ls (by omega) (by decide +kernel) ⟨_, by rw [show (60 - (0 : Int32).toInt).toNat = 60 by decide]; rfl, hx_8⟩ hIS_7 oX.rf hP hD hS pk_11 pk_12 (lv_sub hl [0, 1, 2] rfl)
