


set_option maxHeartbeats 4000000 in
set_option maxRecDepth 100000 in
theorem c_X8_parseUnit_2f (l : Launch) (dC : Nat → ClassId) (dI : Nat → Nat → Nat) (sz : Nat) (tL tS tG : Nat) (cq : Nat → ClassId) (Z : oS) (gI : oInv Z) (o : Nat) (to : oty Z o 8) (x1 : Int32) (hx1 : 2 ≤ x1.toInt ∧ x1.toInt ≤ 2) (rw : Nat) (hrw : oP Z o 0 = some rw) (cd : Nat) (hcd : oP Z o 2 = some cd) (hft : (oI Z o 5).toInt = -1) (hcz : (oI Z o 3).toInt ≤ (oI Z o 4).toInt) : Met l yX8_parseUnit wsX8_parseUnit ({ frames := 14, cells := 0, slots := 0, locals := 313 }) (va_Pc [.ref o, .int x1] (pcO (dC, dI) (oT cq) (oW cq Z) sz tL tS tG (oW cq Z))) (va_Qv (fun (u : oS) => oInv u ∧ oX [803, 804, 805, 2063] Z u ∧ (tR Z u o cd (cU (tC Z o rw) 3 (tA Z o)))) (fun u t => va_P (dC, dI) vwCl (oW cq u) t.heap ∧ va_K (dC, dI) vwCl (oT cq) t ∧ va_D (va_A (oW cq Z) sz) (oW cq u)) (va_A (oW cq Z) sz)) 0 0 (va_A (oW cq Z) sz) := by
  refine Met.ofW (cc := cX8_parseUnit) (maxL := 3) (ret := none) (by decide +kernel) rfl ?_
  intro p e s m args below meth c s₁ B hml hv
  obtain ⟨rfl, ⟨hsz, hP, hK, hD0⟩, hZ⟩ := hv
  have hx := B.exec
  have hb := B.bytes
  have hr := B.returns
  have hts := atoms_spec (ws := wsX8_parseUnit) B.pre
  have hown : s.vm.findClass RX8 = some m.cls := findClass_of_methodNamed B.named
  have hlocks := B.notSynchronized
  subst hsz
  have hD := hD0.self (sz := s.heap.size)
  generalize hAe : va_A (oW cq Z) s.heap.size = A at hD hZ ⊢
  have hA : ∀ q : Nat, s.heap.size ≤ q → A q := fun q h => by rw [← hAe]; exact Or.inr h
  have hS : va_S A s.heap s.heap [] := va_S.rf
  have hP : va_P (dC, dI) vwCl (oW cq Z) s.heap := hP
  have hl := lv_entry ([.ref o, .int x1]) (n := 3) (Nat.le_of_ble_eq_true rfl)
  rw [lg_entry_eq]
  generalize (lg_sl ([.ref o, .int x1]) ++ List.replicate (3 - (lg_sl ([.ref o, .int x1])).length) Slot.unset).toArray = ls at hl ⊢
  have hl : lv_has ls 3 [(0, .ref o), (1, .int x1)] := hl
  have trw : oty Z rw 160 := oInv.rd gI to.2 hrw rfl rfl
  have tcd : oty Z cd 63 := oInv.rd gI to.2 hcd rfl rfl
  have iv_1 : 0 ≤ (oI Z o 1).toInt ∧ (oI Z o 1).toInt ≤ 60 := oInv.iv gI to.2 rfl rfl
  have iv_2 : 0 ≤ (oI Z o 3).toInt ∧ (oI Z o 3).toInt ≤ 60 := oInv.iv gI to.2 rfl rfl
  have iv_3 : 0 ≤ (oI Z o 4).toInt ∧ (oI Z o 4).toInt ≤ 60 := oInv.iv gI to.2 rfl rfl
  refine lv_aload_n hx hb dX8_parseUnit_0 rfl (lv_at hl 0 rfl) ?_
  have hFc : ∀ q, va_A [] s.heap.size q → A q := pu_free hS hA
  obtain ⟨q_4, hq_4⟩ := og (cq := cq) to.1 (oE_8 to.2)
  refine va_calli (va_runV (As := []) (rest := []) ⟨hx, hb, hml, hown, hts⟩ (c_X8_letterHere_f l dC dI s.heap.size tL tS tG cq Z gI o to rw hrw) (cwV 0 hts gX8_parseUnit_X8_letterHere rfl rfl rfl (by decide +kernel) ⟨(Nat.le_of_ble_eq_true rfl), (Nat.le_of_ble_eq_true rfl)⟩) (pr_VO (r := (RX8, TX8, 6)) hP hK hD q_4 8 rfl hq_4 (hZ.go hS hFc)) rfl rfl hl.1 rfl (lv_room (Nat.le_of_ble_eq_true rfl)) dX8_parseUnit_1 ⟨(Nat.le_of_ble_eq_true rfl), (Nat.le_of_ble_eq_true rfl)⟩) hS (fun q _ h => hFc q h) hFc (fun r_6 u t H locs ht hvm w_5 hB hz1 hk1 hS => ?_)
  have hP := pu_keep hP hk1
  clear hk1 hz1 hvm hB ht hFc
  obtain ⟨hb_7, hx_8⟩ := w_5
  refine lv_istore_n (lv' := [(2, .int r_6), (0, .ref o), (1, .int x1)]) hx hb dX8_parseUnit_4 rfl hl (by decide +kernel) rfl (fun ls hl => ?_)
  refine lv_aload_n hx hb dX8_parseUnit_5 rfl (lv_at hl 1 rfl) ?_
  have hFc : ∀ q, va_A [] H.size q → A q := pu_free hS hA
  refine va_calli (va_runV (As := []) (rest := []) ⟨hx, hb, hml, hown, hts⟩ (c_X8_seesDigit_f l dC dI H.size cq Z gI o to rw hrw) (cwV 0 hts gX8_parseUnit_X8_seesDigit rfl rfl rfl (by decide +kernel) ⟨(Nat.le_of_ble_eq_true rfl), (Nat.le_of_ble_eq_true rfl)⟩) (pr_V (r := (RX8, TX8, 6)) hP hK hD q_4 8 rfl hq_4) rfl rfl hl.1 rfl (lv_room (Nat.le_of_ble_eq_true rfl)) dX8_parseUnit_6 ⟨(Nat.le_of_ble_eq_true rfl), (Nat.le_of_ble_eq_true rfl)⟩) hS (fun q _ h => hFc q h) hFc (fun r_10 u t H locs ht hvm w_9 hB hz1 hk1 hS => ?_)
  have hP := pu_keep hP hk1
  clear hk1 hz1 hvm hB ht hFc
  obtain ⟨hb_11, hx_12⟩ := w_9
  refine lv_if_eq (tgt := 19) hx hb dX8_parseUnit_9 (by decide +kernel) (fun c_13 => ?_) (fun c_13 => ?_)
  · have dc_13 := c_eq (a := r_10.toInt) (b := 0) rfl (by decide +kernel) c_13
    have bz_14 := bz0 hx_12 c_13
    refine lv_iload_n hx hb dX8_parseUnit_19 rfl (lv_at hl 0 rfl) ?_
    refine lv_if_lt (tgt := 43) hx hb dX8_parseUnit_20 (by decide +kernel) (fun c_15 => ?_) (fun c_15 => ?_)
    · have dc_15 := c_lt (a := r_6.toInt) (b := 0) rfl (by decide +kernel) c_15
      have lh_16 := lh0 hx_8 (by omega)
      refine lv_aload_n hx hb dX8_parseUnit_43 rfl (lv_at hl 1 rfl) ?_
      refine lv_bipush (v := 40) hx hb dX8_parseUnit_44 (by decide +kernel) ?_
      have hFc : ∀ q, va_A [] H.size q → A q := pu_free hS hA
      refine va_calli (va_runV (As := [.int 40]) (rest := []) ⟨hx, hb, hml, hown, hts⟩ (c_X8_sees_f l dC dI H.size cq Z gI o to 40 rw hrw (by decide +kernel)) (cwV 1 hts gX8_parseUnit_X8_sees rfl rfl rfl (by decide +kernel) ⟨(Nat.le_of_ble_eq_true rfl), (Nat.le_of_ble_eq_true rfl)⟩) (pr_V (r := (RX8, TX8, 6)) hP hK hD q_4 8 rfl hq_4) rfl rfl hl.1 rfl (lv_room (Nat.le_of_ble_eq_true rfl)) dX8_parseUnit_46 ⟨(Nat.le_of_ble_eq_true rfl), (Nat.le_of_ble_eq_true rfl)⟩) hS (fun q _ h => hFc q h) hFc (fun r_18 u t H locs ht hvm w_17 hB hz1 hk1 hS => ?_)
      have hP := pu_keep hP hk1
      clear hk1 hz1 hvm hB ht hFc
      obtain ⟨hb_19, hx_20⟩ := w_17
      refine lv_if_eq (tgt := 77) hx hb dX8_parseUnit_49 (by decide +kernel) (fun c_21 => ?_) (fun c_21 => ?_)
      · have dc_21 := c_eq (a := r_18.toInt) (b := 0) rfl (by decide +kernel) c_21
        have bz_22 := bz0 hx_20 c_21
        refine lv_aload_n hx hb dX8_parseUnit_77 rfl (lv_at hl 1 rfl) ?_
        refine lv_aload_n hx hb dX8_parseUnit_78 rfl (lv_at hl 1 rfl) ?_
        refine va_get (D := (dC, dI)) (ci := 8) (v := .int (oI Z o 4)) (C := RX8) (T := TX8) (N := 6) hx hb hts in_wsX8_parseUnit_X8 hown hK hP q_4 hq_4 rfl 4 (by decide +kernel) (hts (.fieldLink RX8 22 "ShipOffice$Tape" "at" "I") iw_X8_parseUnit_1) (fun _ h9 => h9) rfl dX8_parseUnit_79 ?_
        refine lv_topi (fun x_23 ex_23 => ?_)
        have hx_23 : 0 ≤ x_23.toInt ∧ x_23.toInt ≤ 60 := iv_of ex_23 (oInv.iv gI to.2 rfl rfl)
        have gx_23 : x_23.toInt = (oI Z o 4).toInt := iv_to ex_23
        clear ex_23
        refine va_put (D := (dC, dI)) (ci := 8) (v := .int x_23) (ty := .int) (C := RX8) (T := TX8) (N := 6) hx hb hts in_wsX8_parseUnit_X8 tyX8 tyX8_ok nmX8 hown hK hP hD hS q_4 hq_4 rfl 5 (by decide +kernel) (hts (.fieldLink RX8 28 "ShipOffice$Tape" "fault" "I") iw_X8_parseUnit_2) (fun _ h9 => h9) rfl (by decide +kernel) rfl rfl (Nat.le_of_ble_eq_true rfl) dX8_parseUnit_82 (fun H locs hP1 hD1 hS => ?_)
        obtain ⟨S_24, eS_24⟩ : ∃ zq, zq = setI Z o 5 x_23 := ⟨_, rfl⟩
        have hP : va_P (dC, dI) vwCl (oW cq S_24) H := by rw [eS_24]; exact cP (oset to.1 hq_4 hD rfl (he_8_5 to.2) neI) hP1
        have hD : va_D A (oW cq S_24) := by rw [eS_24]; exact cD (oset to.1 hq_4 hD rfl (he_8_5 to.2) neI) hD1
        clear hP1 hD1
        have hIS_24 : oInv S_24 := by rw [eS_24]; exact oInv.I0 (k := 8) (lo := -2147483648) (hi := 2147483647) gI to.2 (by decide +kernel) rfl rfl rfl (iv_all _)
        have XS_24 : oX [805] Z S_24 := by rw [eS_24]; exact oX.I (k := 8) (key := 805) to.2 rfl (List.mem_singleton.mpr rfl)
        have pk_25 : oP S_24 o 0 = some rw := by rw [eS_24]; exact hrw
        have pk_26 : oP S_24 o 2 = some cd := by rw [eS_24]; exact hcd
        have X_27 : oX [803, 804, 805, 2063] Z S_24 := oX.st oX.rf XS_24 (by decide +kernel)
        have g_28 : (oI S_24 o 1).toInt = (oI Z o 1).toInt := by rw [eS_24, setI_ne (by decide +kernel)]
        have g_29 : (oI S_24 o 3).toInt = (oI Z o 3).toInt := by rw [eS_24, setI_ne (by decide +kernel)]
        have g_30 : (oI S_24 o 4).toInt = (oI Z o 4).toInt := by rw [eS_24, setI_ne (by decide +kernel)]
        have g_31 : (oI S_24 o 5).toInt = x_23.toInt := by rw [eS_24, setI_same]
        exact W.vret hx hb hr (fun t ht hW => ⟨⟨S_24, rfl, ⟨hIS_24, X_27, (Eq.mpr (congrArg (tR Z S_24 o cd) ((congrFun pU_s _).trans (uX_e lh_16 bz_22 (pNum_e bz_14)))) (tR_brk0 to XS_24 (by omega) (by omega)))⟩, ⟨by rw [ht]; exact hP, va_K.moved hW.alike hK, hD⟩⟩, hS.F ht⟩) hS.2.2 dX8_parseUnit_85
      · have dc_21 := c_ne (a := r_18.toInt) (b := 0) rfl (by decide +kernel) c_21
        have bz_32 := bz1 hx_20 c_21
        have iv_33 : 0 ≤ (oI Z o 4).toInt ∧ (oI Z o 4).toInt ≤ 60 := oInv.iv gI to.2 rfl rfl
        have iv_34 : 0 ≤ (oI Z o 1).toInt ∧ (oI Z o 1).toInt ≤ 60 := oInv.iv gI to.2 rfl rfl
        have lt_35 := sf_lt (by decide +kernel) bz_32 (by omega)
        refine lv_iload_n hx hb dX8_parseUnit_52 rfl (lv_at hl 2 rfl) ?_
        refine lv_iconst (v := 5) hx hb dX8_parseUnit_53 (by decide +kernel) ?_
        refine lv_icmp_ge (tgt := 77) hx hb dX8_parseUnit_54 (by decide +kernel) (fun c_36 => ?_) (fun c_36 => ?_)
        · have dc_36 := c_le (a := 5) (b := x1.toInt) (by decide +kernel) rfl c_36
          exfalso; omega
        · have dc_36 := c_nle (a := 5) (b := x1.toInt) (by decide +kernel) rfl c_36
          refine lv_aload_n hx hb dX8_parseUnit_57 rfl (lv_at hl 1 rfl) ?_
          refine lv_dup hx hb dX8_parseUnit_58 rfl ?_
          refine va_get (D := (dC, dI)) (ci := 8) (v := .int (oI Z o 4)) (C := RX8) (T := TX8) (N := 6) hx hb hts in_wsX8_parseUnit_X8 hown hK hP q_4 hq_4 rfl 4 (by decide +kernel) (hts (.fieldLink RX8 22 "ShipOffice$Tape" "at" "I") iw_X8_parseUnit_1) (fun _ h9 => h9) rfl dX8_parseUnit_59 ?_
          refine lv_topi (fun x_37 ex_37 => ?_)
          have hx_37 : 0 ≤ x_37.toInt ∧ x_37.toInt ≤ 60 := iv_of ex_37 (oInv.iv gI to.2 rfl rfl)
          have gx_37 : x_37.toInt = (oI Z o 4).toInt := iv_to ex_37
          clear ex_37
          refine lv_iconst (v := 1) hx hb dX8_parseUnit_62 (by decide +kernel) ?_
          refine lv_iadd hx hb dX8_parseUnit_63 ?_
          refine lv_topi (fun x_38 ex_38 => ?_)
          have hx_38 : x_38.toInt = x_37.toInt + 1 := (iv_to ex_38).trans (ad_i rfl (by decide +kernel) (by omega) (by omega))
          refine va_put (D := (dC, dI)) (ci := 8) (v := .int x_38) (ty := .int) (C := RX8) (T := TX8) (N := 6) hx hb hts in_wsX8_parseUnit_X8 tyX8 tyX8_ok nmX8 hown hK hP hD hS q_4 hq_4 rfl 4 (by decide +kernel) (hts (.fieldLink RX8 22 "ShipOffice$Tape" "at" "I") iw_X8_parseUnit_1) (fun _ h9 => h9) rfl (by decide +kernel) rfl rfl (Nat.le_of_ble_eq_true rfl) dX8_parseUnit_64 (fun H locs hP1 hD1 hS => ?_)
          obtain ⟨S_39, eS_39⟩ : ∃ zq, zq = setI Z o 4 x_38 := ⟨_, rfl⟩
          have hP : va_P (dC, dI) vwCl (oW cq S_39) H := by rw [eS_39]; exact cP (oset to.1 hq_4 hD rfl (he_8_4 to.2) neI) hP1
          have hD : va_D A (oW cq S_39) := by rw [eS_39]; exact cD (oset to.1 hq_4 hD rfl (he_8_4 to.2) neI) hD1
          clear hP1 hD1
          have hIS_39 : oInv S_39 := by rw [eS_39]; exact oInv.I0 (k := 8) (lo := 0) (hi := 60) gI to.2 (by decide +kernel) rfl rfl rfl (by omega)
          have XS_39 : oX [804] Z S_39 := by rw [eS_39]; exact oX.I (k := 8) (key := 804) to.2 rfl (List.mem_singleton.mpr rfl)
          have pk_40 : oP S_39 o 0 = some rw := by rw [eS_39]; exact hrw
          have pk_41 : oP S_39 o 2 = some cd := by rw [eS_39]; exact hcd
          have X_42 : oX [803, 804, 805, 2063] Z S_39 := oX.st oX.rf XS_39 (by decide +kernel)
          have g_43 : (oI S_39 o 1).toInt = (oI Z o 1).toInt := by rw [eS_39, setI_ne (by decide +kernel)]
          have g_44 : (oI S_39 o 3).toInt = (oI Z o 3).toInt := by rw [eS_39, setI_ne (by decide +kernel)]
          have g_45 : (oI S_39 o 4).toInt = x_38.toInt := by rw [eS_39, setI_same]
          have g_46 : (oI S_39 o 5).toInt = (oI Z o 5).toInt := by rw [eS_39, setI_ne (by decide +kernel)]
          refine lv_aload_n hx hb dX8_parseUnit_67 rfl (lv_at hl 1 rfl) ?_
          refine lv_iload_n hx hb dX8_parseUnit_68 rfl (lv_at hl 2 rfl) ?_
          refine lv_iconst (v := 1) hx hb dX8_parseUnit_69 (by decide +kernel) ?_
          refine lv_iadd hx hb dX8_parseUnit_70 ?_
          refine lv_topi (fun x_47 ex_47 => ?_)
          have hx_47 : x_47.toInt = x1.toInt + 1 := (iv_to ex_47).trans (ad_i rfl (by decide +kernel) (by omega) (by omega))
          have t_48 : oty S_39 o 8 := (oX.ty XS_39 to)
          have hFc := o_free hD hS hA
          obtain ⟨q_49, hq_49⟩ := og (cq := cq) t_48.1 (oE_8 t_48.2)
          refine va_callv (va_runV (As := [.int x_47]) (rest := []) ⟨hx, hb, hml, hown, hts⟩ (c_X8_parseBracket_3f l dC dI H.size tL tS tG cq S_39 hIS_39 o t_48 x_47 (by omega) rw pk_40 cd pk_41 (by omega) (by omega)) (cwV 1 hts gX8_parseUnit_X8_parseBracket rfl rfl rfl (by decide +kernel) ⟨(Nat.le_of_ble_eq_true rfl), (Nat.le_of_ble_eq_true rfl)⟩) (pr_VO (r := (RX8, TX8, 6)) hP hK hD q_49 8 rfl hq_49 (hZ.go hS hFc)) rfl rfl hl.1 rfl (lv_room (Nat.le_of_ble_eq_true rfl)) dX8_parseUnit_71 ⟨(Nat.le_of_ble_eq_true rfl), (Nat.le_of_ble_eq_true rfl)⟩) hS (fun q _ h => hFc q h) hFc (fun u t H locs ht hvm w_50 hB hz1 hk1 hS => ?_)
          obtain ⟨S_52, rfl⟩ : ∃ z, z = u := ⟨_, rfl⟩
          obtain ⟨hP1, hK1, hD1⟩ := hB
          rw [ht] at hP1
          have hP : va_P (dC, dI) vwCl (oW cq S_52) H := hP1
          have hD : va_D A (oW cq S_52) := hD1.weaken (fun _ _ _ h => hFc _ h)
          clear hP1 hK1 hD1 hk1 hz1 hvm ht hFc
          obtain ⟨hIS_52, XS_52, hx_53⟩ := w_50
          have X_54 : oX [803, 804, 805, 2063] Z S_52 := oX.st X_42 XS_52 (by decide +kernel)
          have g_55 : (oI S_52 o 1).toInt = (oI S_39 o 1).toInt := by rw [oX.i XS_52 t_48 (by decide +kernel)]
          have pk_56 : oP S_52 o 0 = some rw := by rw [oX.p XS_52 t_48 (by decide +kernel)]; exact pk_40
          have pk_57 : oP S_52 o 2 = some cd := by rw [oX.p XS_52 t_48 (by decide +kernel)]; exact pk_41
          refine lv_goto (tgt := 85) hx hb dX8_parseUnit_74 (by decide +kernel) ?_
          exact W.vret hx hb hr (fun t ht hW => ⟨⟨S_52, rfl, ⟨hIS_52, X_54, (by have q1 := tA_i Z o; have q2 := tA_i S_39 o; have q4 : tA S_39 o = tA Z o + 1 := (by omega); have q3 := hx_53; rw [tX_C XS_39 to trw (by decide +kernel) (by decide +kernel), q4] at q3; exact Eq.mpr (congrArg (tR Z S_52 o cd) ((congrFun pU_s _).trans (uX_b bz_32))) (tR_at XS_39 to tcd q4 q3))⟩, ⟨by rw [ht]; exact hP, va_K.moved hW.alike hK, hD⟩⟩, hS.F ht⟩) hS.2.2 dX8_parseUnit_85
    · have dc_15 := c_nlt (a := r_6.toInt) (b := 0) rfl (by decide +kernel) c_15
      have lh_58 := lh1 hx_8 (by omega)
      have iv_59 : 0 ≤ (oI Z o 4).toInt ∧ (oI Z o 4).toInt ≤ 60 := oInv.iv gI to.2 rfl rfl
      have iv_60 : 0 ≤ (oI Z o 1).toInt ∧ (oI Z o 1).toInt ≤ 60 := oInv.iv gI to.2 rfl rfl
      have lt_61 := sf_l lh_58.1 (by omega)
      refine lv_aload_n hx hb dX8_parseUnit_23 rfl (lv_at hl 1 rfl) ?_
      refine lv_dup hx hb dX8_parseUnit_24 rfl ?_
      refine va_get (D := (dC, dI)) (ci := 8) (v := .int (oI Z o 4)) (C := RX8) (T := TX8) (N := 6) hx hb hts in_wsX8_parseUnit_X8 hown hK hP q_4 hq_4 rfl 4 (by decide +kernel) (hts (.fieldLink RX8 22 "ShipOffice$Tape" "at" "I") iw_X8_parseUnit_1) (fun _ h9 => h9) rfl dX8_parseUnit_25 ?_
      refine lv_topi (fun x_62 ex_62 => ?_)
      have hx_62 : 0 ≤ x_62.toInt ∧ x_62.toInt ≤ 60 := iv_of ex_62 (oInv.iv gI to.2 rfl rfl)
      have gx_62 : x_62.toInt = (oI Z o 4).toInt := iv_to ex_62
      clear ex_62
      refine lv_iconst (v := 1) hx hb dX8_parseUnit_28 (by decide +kernel) ?_
      refine lv_iadd hx hb dX8_parseUnit_29 ?_
      refine lv_topi (fun x_63 ex_63 => ?_)
      have hx_63 : x_63.toInt = x_62.toInt + 1 := (iv_to ex_63).trans (ad_i rfl (by decide +kernel) (by omega) (by omega))
      refine va_put (D := (dC, dI)) (ci := 8) (v := .int x_63) (ty := .int) (C := RX8) (T := TX8) (N := 6) hx hb hts in_wsX8_parseUnit_X8 tyX8 tyX8_ok nmX8 hown hK hP hD hS q_4 hq_4 rfl 4 (by decide +kernel) (hts (.fieldLink RX8 22 "ShipOffice$Tape" "at" "I") iw_X8_parseUnit_1) (fun _ h9 => h9) rfl (by decide +kernel) rfl rfl (Nat.le_of_ble_eq_true rfl) dX8_parseUnit_30 (fun H locs hP1 hD1 hS => ?_)
      obtain ⟨S_64, eS_64⟩ : ∃ zq, zq = setI Z o 4 x_63 := ⟨_, rfl⟩
      have hP : va_P (dC, dI) vwCl (oW cq S_64) H := by rw [eS_64]; exact cP (oset to.1 hq_4 hD rfl (he_8_4 to.2) neI) hP1
      have hD : va_D A (oW cq S_64) := by rw [eS_64]; exact cD (oset to.1 hq_4 hD rfl (he_8_4 to.2) neI) hD1
      clear hP1 hD1
      have hIS_64 : oInv S_64 := by rw [eS_64]; exact oInv.I0 (k := 8) (lo := 0) (hi := 60) gI to.2 (by decide +kernel) rfl rfl rfl (by omega)
      have XS_64 : oX [804] Z S_64 := by rw [eS_64]; exact oX.I (k := 8) (key := 804) to.2 rfl (List.mem_singleton.mpr rfl)
      have pk_65 : oP S_64 o 0 = some rw := by rw [eS_64]; exact hrw
      have pk_66 : oP S_64 o 2 = some cd := by rw [eS_64]; exact hcd
      have X_67 : oX [803, 804, 805, 2063] Z S_64 := oX.st oX.rf XS_64 (by decide +kernel)
      have g_68 : (oI S_64 o 1).toInt = (oI Z o 1).toInt := by rw [eS_64, setI_ne (by decide +kernel)]
      have g_69 : (oI S_64 o 3).toInt = (oI Z o 3).toInt := by rw [eS_64, setI_ne (by decide +kernel)]
      have g_70 : (oI S_64 o 4).toInt = x_63.toInt := by rw [eS_64, setI_same]
      have g_71 : (oI S_64 o 5).toInt = (oI Z o 5).toInt := by rw [eS_64, setI_ne (by decide +kernel)]
      refine lv_aload_n hx hb dX8_parseUnit_33 rfl (lv_at hl 1 rfl) ?_
      refine lv_iconst (v := (-1)) hx hb dX8_parseUnit_34 (by decide +kernel) ?_
      refine lv_iload_n hx hb dX8_parseUnit_35 rfl (lv_at hl 0 rfl) ?_
      refine lv_isub hx hb dX8_parseUnit_36 ?_
      refine lv_topi (fun x_72 ex_72 => ?_)
      have hx_72 : x_72.toInt = (-1) - r_6.toInt := (iv_to ex_72).trans (sb_i (by decide +kernel) rfl (by omega) (by omega))
      have t_73 : oty S_64 o 8 := (oX.ty XS_64 to)
      have hFc := o_free hD hS hA
      obtain ⟨q_74, hq_74⟩ := og (cq := cq) t_73.1 (oE_8 t_73.2)
      refine va_callv (va_runV (As := [.int x_72]) (rest := []) ⟨hx, hb, hml, hown, hts⟩ (c_X8_emit_f l dC dI H.size cq S_64 hIS_64 o t_73 x_72 cd pk_66) (cwV 1 hts gX8_parseUnit_X8_emit rfl rfl rfl (by decide +kernel) ⟨(Nat.le_of_ble_eq_true rfl), (Nat.le_of_ble_eq_true rfl)⟩) (pr_V (r := (RX8, TX8, 6)) hP hK hD q_74 8 rfl hq_74) rfl rfl hl.1 rfl (lv_room (Nat.le_of_ble_eq_true rfl)) dX8_parseUnit_37 ⟨(Nat.le_of_ble_eq_true rfl), (Nat.le_of_ble_eq_true rfl)⟩) hS (fun q _ h => hFc q h) hFc (fun u t H locs ht hvm w_75 hB hz1 hk1 hS => ?_)
      obtain ⟨S_77, rfl⟩ : ∃ z, z = u := ⟨_, rfl⟩
      obtain ⟨hP1, hK1, hD1⟩ := hB
      rw [ht] at hP1
      have hP : va_P (dC, dI) vwCl (oW cq S_77) H := hP1
      have hD : va_D A (oW cq S_77) := hD1.weaken (fun _ _ _ h => hFc _ h)
      clear hP1 hK1 hD1 hk1 hz1 hvm ht hFc
      obtain ⟨hIS_77, XS_77, hx_78⟩ := w_75
      have X_79 : oX [803, 804, 805, 2063] Z S_77 := oX.st X_67 XS_77 (by decide +kernel)
      have g_80 : (oI S_77 o 1).toInt = (oI S_64 o 1).toInt := by rw [oX.i XS_77 t_73 (by decide +kernel)]
      have g_81 : (oI S_77 o 4).toInt = (oI S_64 o 4).toInt := by rw [oX.i XS_77 t_73 (by decide +kernel)]
      have g_82 : (oI S_77 o 5).toInt = (oI S_64 o 5).toInt := by rw [oX.i XS_77 t_73 (by decide +kernel)]
      have pk_83 : oP S_77 o 0 = some rw := by rw [oX.p XS_77 t_73 (by decide +kernel)]; exact pk_65
      have pk_84 : oP S_77 o 2 = some cd := by rw [oX.p XS_77 t_73 (by decide +kernel)]; exact pk_66
      refine lv_goto (tgt := 85) hx hb dX8_parseUnit_40 (by decide +kernel) ?_
      exact W.vret hx hb hr (fun t ht hW => ⟨⟨S_77, rfl, ⟨hIS_77, X_79, (by have q1 := tA_i Z o; have q2 := tA_i S_64 o; have q3 := tR_one XS_64 to tcd (by omega) XS_77 hft (hx_78 (by omega)); rw [ex_72, ← lh_58.2] at q3; exact Eq.mpr (congrArg (tR Z S_77 o cd) ((congrFun pU_s _).trans (uX_l lh_58.1))) q3)⟩, ⟨by rw [ht]; exact hP, va_K.moved hW.alike hK, hD⟩⟩, hS.F ht⟩) hS.2.2 dX8_parseUnit_85
  · have dc_13 := c_ne (a := r_10.toInt) (b := 0) rfl (by decide +kernel) c_13
    have bz_85 := bz1 hx_12 c_13
    have iv_86 : 0 ≤ (oI Z o 4).toInt ∧ (oI Z o 4).toInt ≤ 60 := oInv.iv gI to.2 rfl rfl
    have iv_87 : 0 ≤ (oI Z o 1).toInt ∧ (oI Z o 1).toInt ≤ 60 := oInv.iv gI to.2 rfl rfl
    have lt_88 := sf_ge bz_85.1 (by omega)
    refine lv_aload_n hx hb dX8_parseUnit_12 rfl (lv_at hl 1 rfl) ?_
    have hFc := o_free hD hS hA
    refine va_callv (va_runV (As := []) (rest := []) ⟨hx, hb, hml, hown, hts⟩ (c_X8_parseNumber_f l dC dI H.size cq Z gI o to rw hrw cd hcd (by omega) (by omega) bz_85) (cwV 0 hts gX8_parseUnit_X8_parseNumber rfl rfl rfl (by decide +kernel) ⟨(Nat.le_of_ble_eq_true rfl), (Nat.le_of_ble_eq_true rfl)⟩) (pr_V (r := (RX8, TX8, 6)) hP hK hD q_4 8 rfl hq_4) rfl rfl hl.1 rfl (lv_room (Nat.le_of_ble_eq_true rfl)) dX8_parseUnit_13 ⟨(Nat.le_of_ble_eq_true rfl), (Nat.le_of_ble_eq_true rfl)⟩) hS (fun q _ h => hFc q h) hFc (fun u t H locs ht hvm w_89 hB hz1 hk1 hS => ?_)
    obtain ⟨S_91, rfl⟩ : ∃ z, z = u := ⟨_, rfl⟩
    obtain ⟨hP1, hK1, hD1⟩ := hB
    rw [ht] at hP1
    have hP : va_P (dC, dI) vwCl (oW cq S_91) H := hP1
    have hD : va_D A (oW cq S_91) := hD1.weaken (fun _ _ _ h => hFc _ h)
    clear hP1 hK1 hD1 hk1 hz1 hvm ht hFc
    obtain ⟨hIS_91, XS_91, hx_92⟩ := w_89
    have X_93 : oX [803, 804, 805, 2063] Z S_91 := oX.st oX.rf XS_91 (by decide +kernel)
    have g_94 : (oI S_91 o 1).toInt = (oI Z o 1).toInt := by rw [oX.i XS_91 to (by decide +kernel)]
    have g_95 : (oI S_91 o 5).toInt = (oI Z o 5).toInt := by rw [oX.i XS_91 to (by decide +kernel)]
    have pk_96 : oP S_91 o 0 = some rw := by rw [oX.p XS_91 to (by decide +kernel)]; exact hrw
    have pk_97 : oP S_91 o 2 = some cd := by rw [oX.p XS_91 to (by decide +kernel)]; exact hcd
    refine lv_goto (tgt := 85) hx hb dX8_parseUnit_16 (by decide +kernel) ?_
    exact W.vret hx hb hr (fun t ht hW => ⟨⟨S_91, rfl, ⟨hIS_91, X_93, (Eq.mpr (congrArg (tR Z S_91 o cd) ((congrFun pU_s _).trans (uX_d bz_85.1 bz_85.2))) hx_92)⟩, ⟨by rw [ht]; exact hP, va_K.moved hW.alike hK, hD⟩⟩, hS.F ht⟩) hS.2.2 dX8_parseUnit_85
set_option maxHeartbeats 4000000 in
set_option maxRecDepth 100000 in
theorem c_X8_parseTerm_2f (l : Launch) (dC : Nat → ClassId) (dI : Nat → Nat → Nat) (sz : Nat) (tL tS tG : Nat) (cq : Nat → ClassId) (Z : oS) (gI : oInv Z) (o : Nat) (to : oty Z o 8) (x1 : Int32) (hx1 : 2 ≤ x1.toInt ∧ x1.toInt ≤ 2) (rw : Nat) (hrw : oP Z o 0 = some rw) (cd : Nat) (hcd : oP Z o 2 = some cd) (hft : (oI Z o 5).toInt = -1) (hcz : (oI Z o 3).toInt ≤ (oI Z o 4).toInt) : Met l yX8_parseTerm wsX8_parseTerm ({ frames := 15, cells := 0, slots := 0, locals := 335 }) (va_Pc [.ref o, .int x1] (pcO (dC, dI) (oT cq) (oW cq Z) sz tL tS tG (oW cq Z))) (va_Qv (fun (u : oS) => oInv u ∧ oX [803, 804, 805, 2063] Z u ∧ (tR Z u o cd (cT (tC Z o rw) 3 (tA Z o)))) (fun u t => va_P (dC, dI) vwCl (oW cq u) t.heap ∧ va_K (dC, dI) vwCl (oT cq) t ∧ va_D (va_A (oW cq Z) sz) (oW cq u)) (va_A (oW cq Z) sz)) 0 0 (va_A (oW cq Z) sz) := by
  refine Met.ofW (cc := cX8_parseTerm) (maxL := 4) (ret := none) (by decide +kernel) rfl ?_
  intro p e s m args below meth c s₁ B hml hv
  obtain ⟨rfl, ⟨hsz, hP, hK, hD0⟩, hZ⟩ := hv
  have hx := B.exec
  have hb := B.bytes
  have hr := B.returns
  have hts := atoms_spec (ws := wsX8_parseTerm) B.pre
  have hown : s.vm.findClass RX8 = some m.cls := findClass_of_methodNamed B.named
  have hlocks := B.notSynchronized
  subst hsz
  have hD := hD0.self (sz := s.heap.size)
  generalize hAe : va_A (oW cq Z) s.heap.size = A at hD hZ ⊢
  have hA : ∀ q : Nat, s.heap.size ≤ q → A q := fun q h => by rw [← hAe]; exact Or.inr h
  have hS : va_S A s.heap s.heap [] := va_S.rf
  have hP : va_P (dC, dI) vwCl (oW cq Z) s.heap := hP
  have hl := lv_entry ([.ref o, .int x1]) (n := 4) (Nat.le_of_ble_eq_true rfl)
  rw [lg_entry_eq]
  generalize (lg_sl ([.ref o, .int x1]) ++ List.replicate (4 - (lg_sl ([.ref o, .int x1])).length) Slot.unset).toArray = ls at hl ⊢
  have hl : lv_has ls 4 [(0, .ref o), (1, .int x1)] := hl
  have trw : oty Z rw 160 := oInv.rd gI to.2 hrw rfl rfl
  have tcd : oty Z cd 63 := oInv.rd gI to.2 hcd rfl rfl
  have iv_1 : 0 ≤ (oI Z o 1).toInt ∧ (oI Z o 1).toInt ≤ 60 := oInv.iv gI to.2 rfl rfl
  have iv_2 : 0 ≤ (oI Z o 3).toInt ∧ (oI Z o 3).toInt ≤ 60 := oInv.iv gI to.2 rfl rfl
  have iv_3 : 0 ≤ (oI Z o 4).toInt ∧ (oI Z o 4).toInt ≤ 60 := oInv.iv gI to.2 rfl rfl
  refine lv_aload_n hx hb dX8_parseTerm_0 rfl (lv_at hl 0 rfl) ?_
  refine lv_iload_n hx hb dX8_parseTerm_1 rfl (lv_at hl 1 rfl) ?_
  have hFc := o_free hD hS hA
  obtain ⟨q_4, hq_4⟩ := og (cq := cq) to.1 (oE_8 to.2)
  refine va_callv (va_runV (As := [.int x1]) (rest := []) ⟨hx, hb, hml, hown, hts⟩ (c_X8_parseUnit_2f l dC dI s.heap.size tL tS tG cq Z gI o to x1 (by omega) rw hrw cd hcd (by omega) (by omega)) (cwV 1 hts gX8_parseTerm_X8_parseUnit rfl rfl rfl (by decide +kernel) ⟨(Nat.le_of_ble_eq_true rfl), (Nat.le_of_ble_eq_true rfl)⟩) (pr_VO (r := (RX8, TX8, 6)) hP hK hD q_4 8 rfl hq_4 (hZ.go hS hFc)) rfl rfl hl.1 rfl (lv_room (Nat.le_of_ble_eq_true rfl)) dX8_parseTerm_2 ⟨(Nat.le_of_ble_eq_true rfl), (Nat.le_of_ble_eq_true rfl)⟩) hS (fun q _ h => hFc q h) hFc (fun u t H locs ht hvm w_5 hB hz1 hk1 hS => ?_)
  obtain ⟨S_7, rfl⟩ : ∃ z, z = u := ⟨_, rfl⟩
  obtain ⟨hP1, hK1, hD1⟩ := hB
  rw [ht] at hP1
  have hP : va_P (dC, dI) vwCl (oW cq S_7) H := hP1
  have hD : va_D A (oW cq S_7) := hD1.weaken (fun _ _ _ h => hFc _ h)
  clear hP1 hK1 hD1 hk1 hz1 hvm ht hFc
  obtain ⟨hIS_7, XS_7, hx_8⟩ := w_5
  have X_9 : oX [803, 804, 805, 2063] Z S_7 := oX.st oX.rf XS_7 (by decide +kernel)
  have g_10 : (oI S_7 o 1).toInt = (oI Z o 1).toInt := by rw [oX.i XS_7 to (by decide +kernel)]
  have pk_11 : oP S_7 o 0 = some rw := by rw [oX.p XS_7 to (by decide +kernel)]; exact hrw
  have pk_12 : oP S_7 o 2 = some cd := by rw [oX.p XS_7 to (by decide +kernel)]; exact hcd
  refine lv_iconst (v := 0) hx hb dX8_parseTerm_5 (by decide +kernel) ?_
  refine lv_istore_n (lv' := [(2, .int 0), (0, .ref o), (1, .int x1)]) hx hb dX8_parseTerm_6 rfl hl (by decide +kernel) rfl (fun ls hl => ?_)
  have cut_13 : ∀ (n : Nat) (y_14 : Int32) (S_15 : oS) (H : Heap) (locs : List Loc) (ls : Array Slot), 60 - y_14.toInt ≤ (n : Int) → (0 ≤ y_14.toInt ∧ y_14.toInt ≤ 60) → tLp Z S_15 o cd (cU (tC Z o rw) 3) (tC Z o rw) 42 47 (60 - y_14.toInt).toNat (cT (tC Z o rw) 3 (tA Z o)) → oInv S_15 → oX [803, 804, 805, 2063] S_7 S_15 → va_P (dC, dI) vwCl (oW cq S_15) H → va_D A (oW cq S_15) → va_S A s.heap H locs → oP S_15 o 0 = some rw → oP S_15 o 2 = some cd → lv_has ls 4 [(2, .int y_14), (0, .ref o), (1, .int x1)] → W p l e (headSpec wsX8_parseTerm { frames := 15, cells := 0, slots := 0, locals := 335 }).room s m #[Value.ref o, Value.int x1] below meth c H locs 0 0 (MQ below (va_Qv (fun (u : oS) => oInv u ∧ oX [803, 804, 805, 2063] Z u ∧ (tR Z u o cd (cT (tC Z o rw) 3 (tA Z o)))) (fun u t => va_P (dC, dI) vwCl (oW cq u) t.heap ∧ va_K (dC, dI) vwCl (oT cq) t ∧ va_D A (oW cq u)) A) #[Value.ref o, Value.int x1] s 0 0 A) (F0 m 7 ls []) := by
    intro n
    induction n using Nat.strongRecOn with
    | ind n ih =>
      intro y_14 S_15 H locs ls hm hy_14 hq0_cut_13 hIS_15 XS_15 hP hD hS pk_16 pk_17 hl
      have YS_15 : oX [803, 804, 805, 2063] Z S_15 := oX.st X_9 XS_15 (fun _ q => q)
      refine lv_iload_n hx hb dX8_parseTerm_7 rfl (lv_at hl 0 rfl) ?_
      refine lv_bipush (v := 60) hx hb dX8_parseTerm_8 (by decide +kernel) ?_
      refine lv_icmp_ge (tgt := 74) hx hb dX8_parseTerm_10 (by decide +kernel) (fun c_18 => ?_) (fun c_18 => ?_)
      · have dc_18 := c_le (a := 60) (b := y_14.toInt) (by decide +kernel) rfl c_18
        exact W.vret hx hb hr (fun t ht hW => ⟨⟨S_15, rfl, ⟨hIS_15, YS_15, (tLp_0 hq0_cut_13 (by omega))⟩, ⟨by rw [ht]; exact hP, va_K.moved hW.alike hK, hD⟩⟩, hS.F ht⟩) hS.2.2 dX8_parseTerm_74
      · have dc_18 := c_nle (a := 60) (b := y_14.toInt) (by decide +kernel) rfl c_18
        refine lv_aload_n hx hb dX8_parseTerm_13 rfl (lv_at hl 1 rfl) ?_
        have t_19 : oty S_15 o 8 := (oX.ty XS_15 (oX.ty XS_7 to))
        obtain ⟨q_20, hq_20⟩ := og (cq := cq) t_19.1 (oE_8 t_19.2)
        refine va_get (D := (dC, dI)) (ci := 8) (v := .int (oI S_15 o 5)) (C := RX8) (T := TX8) (N := 6) hx hb hts in_wsX8_parseTerm_X8 hown hK hP q_20 hq_20 rfl 5 (by decide +kernel) (hts (.fieldLink RX8 28 "ShipOffice$Tape" "fault" "I") iw_X8_parseTerm_1) (fun _ h9 => h9) rfl dX8_parseTerm_14 ?_
        refine lv_topi (fun x_21 ex_21 => ?_)
        have gx_21 : x_21.toInt = (oI S_15 o 5).toInt := iv_to ex_21
        clear ex_21
        refine lv_if_ge (tgt := 74) hx hb dX8_parseTerm_17 (by decide +kernel) (fun c_22 => ?_) (fun c_22 => ?_)
        · have dc_22 := c_le (a := 0) (b := x_21.toInt) (by decide +kernel) rfl c_22
          exact W.vret hx hb hr (fun t ht hW => ⟨⟨S_15, rfl, ⟨hIS_15, YS_15, (tLp_f hq0_cut_13 (by omega))⟩, ⟨by rw [ht]; exact hP, va_K.moved hW.alike hK, hD⟩⟩, hS.F ht⟩) hS.2.2 dX8_parseTerm_74
        · have dc_22 := c_nle (a := 0) (b := x_21.toInt) (by decide +kernel) rfl c_22
          refine lv_aload_n hx hb dX8_parseTerm_20 rfl (lv_at hl 1 rfl) ?_
          refine lv_bipush (v := 42) hx hb dX8_parseTerm_21 (by decide +kernel) ?_
          have hFc : ∀ q, va_A [] H.size q → A q := pu_free hS hA
          refine va_calli (va_runV (As := [.int 42]) (rest := []) ⟨hx, hb, hml, hown, hts⟩ (c_X8_sees_f l dC dI H.size cq S_15 hIS_15 o t_19 42 rw pk_16 (by decide +kernel)) (cwV 1 hts gX8_parseTerm_X8_sees rfl rfl rfl (by decide +kernel) ⟨(Nat.le_of_ble_eq_true rfl), (Nat.le_of_ble_eq_true rfl)⟩) (pr_V (r := (RX8, TX8, 6)) hP hK hD q_20 8 rfl hq_20) rfl rfl hl.1 rfl (lv_room (Nat.le_of_ble_eq_true rfl)) dX8_parseTerm_23 ⟨(Nat.le_of_ble_eq_true rfl), (Nat.le_of_ble_eq_true rfl)⟩) hS (fun q _ h => hFc q h) hFc (fun r_24 u t H locs ht hvm w_23 hB hz1 hk1 hS => ?_)
          have hP := pu_keep hP hk1
          clear hk1 hz1 hvm hB ht hFc
          obtain ⟨hb_25, hx_26⟩ := w_23
          refine lv_if_ne (tgt := 38) hx hb dX8_parseTerm_26 (by decide +kernel) (fun c_27 => ?_) (fun c_27 => ?_)
          · have dc_27 := c_ne (a := r_24.toInt) (b := 0) rfl (by decide +kernel) c_27
            have bz_28 := bz1 hx_26 c_27
            have iv_29 : 0 ≤ (oI S_15 o 4).toInt ∧ (oI S_15 o 4).toInt ≤ 60 := oInv.iv hIS_15 t_19.2 rfl rfl
            have iv_30 : 0 ≤ (oI S_15 o 1).toInt ∧ (oI S_15 o 1).toInt ≤ 60 := oInv.iv hIS_15 t_19.2 rfl rfl
            have lt_31 := sf_lt (by decide +kernel) bz_28 (by omega)
            have iv_32 : 0 ≤ (oI S_15 o 3).toInt ∧ (oI S_15 o 3).toInt ≤ 60 := oInv.iv hIS_15 t_19.2 rfl rfl
            have iv_33 : 0 ≤ (oI S_15 o 4).toInt ∧ (oI S_15 o 4).toInt ≤ 60 := oInv.iv hIS_15 t_19.2 rfl rfl
            have z0 := tN_i Z o
            have z1 := tA_i Z o
            have z2 := tN_i S_15 o
            have z3 := tA_i S_15 o
            have z4 := tLp_m hq0_cut_13 (by omega) (by omega)
            refine lv_aload_n hx hb dX8_parseTerm_38 rfl (lv_at hl 1 rfl) ?_
            refine va_get (D := (dC, dI)) (ci := 8) (v := .ref rw) (C := RX8) (T := TX8) (N := 6) hx hb hts in_wsX8_parseTerm_X8 hown hK hP q_20 hq_20 rfl 0 (by decide +kernel) (hts (.fieldLink RX8 9 "ShipOffice$Tape" "bytes" "[I") iw_X8_parseTerm_2) (fun _ h9 => h9) (o_rd pk_16) dX8_parseTerm_39 ?_
            refine lv_aload_n hx hb dX8_parseTerm_42 rfl (lv_at hl 1 rfl) ?_
            refine va_get (D := (dC, dI)) (ci := 8) (v := .int (oI S_15 o 4)) (C := RX8) (T := TX8) (N := 6) hx hb hts in_wsX8_parseTerm_X8 hown hK hP q_20 hq_20 rfl 4 (by decide +kernel) (hts (.fieldLink RX8 22 "ShipOffice$Tape" "at" "I") iw_X8_parseTerm_3) (fun _ h9 => h9) rfl dX8_parseTerm_43 ?_
            refine lv_topi (fun x_34 ex_34 => ?_)
            have hx_34 : 0 ≤ x_34.toInt ∧ x_34.toInt ≤ 60 := iv_of ex_34 (oInv.iv hIS_15 t_19.2 rfl rfl)
            have gx_34 : x_34.toInt = (oI S_15 o 4).toInt := iv_to ex_34
            clear ex_34
            have t_35 : oty S_15 rw 160 := (oX.ty XS_15 (oX.ty XS_7 trw))
            obtain ⟨q_36, hq_36⟩ := og (cq := cq) t_35.1 (oE_a1 (n := 60) t_35.2 (by decide +kernel))
            refine va_iald hx hb hK hP q_36 0 hq_36 rfl (vp_in_iff.mpr (by omega)) dX8_parseTerm_46 ?_
            refine lv_topi (fun x_37 ex_37 => ?_)
            refine lv_istore_n (lv' := [(3, .int x_37), (2, .int y_14), (0, .ref o), (1, .int x1)]) hx hb dX8_parseTerm_47 rfl hl (by decide +kernel) rfl (fun ls hl => ?_)
            refine lv_aload_n hx hb dX8_parseTerm_48 rfl (lv_at hl 2 rfl) ?_
            refine lv_dup hx hb dX8_parseTerm_49 rfl ?_
            refine va_get (D := (dC, dI)) (ci := 8) (v := .int (oI S_15 o 4)) (C := RX8) (T := TX8) (N := 6) hx hb hts in_wsX8_parseTerm_X8 hown hK hP q_20 hq_20 rfl 4 (by decide +kernel) (hts (.fieldLink RX8 22 "ShipOffice$Tape" "at" "I") iw_X8_parseTerm_3) (fun _ h9 => h9) rfl dX8_parseTerm_50 ?_
            refine lv_topi (fun x_38 ex_38 => ?_)
            have hx_38 : 0 ≤ x_38.toInt ∧ x_38.toInt ≤ 60 := iv_of ex_38 (oInv.iv hIS_15 t_19.2 rfl rfl)
            have gx_38 : x_38.toInt = (oI S_15 o 4).toInt := iv_to ex_38
            clear ex_38
            refine lv_iconst (v := 1) hx hb dX8_parseTerm_53 (by decide +kernel) ?_
            refine lv_iadd hx hb dX8_parseTerm_54 ?_
            refine lv_topi (fun x_39 ex_39 => ?_)
            have hx_39 : x_39.toInt = x_38.toInt + 1 := (iv_to ex_39).trans (ad_i rfl (by decide +kernel) (by omega) (by omega))
            refine va_put (D := (dC, dI)) (ci := 8) (v := .int x_39) (ty := .int) (C := RX8) (T := TX8) (N := 6) hx hb hts in_wsX8_parseTerm_X8 tyX8 tyX8_ok nmX8 hown hK hP hD hS q_20 hq_20 rfl 4 (by decide +kernel) (hts (.fieldLink RX8 22 "ShipOffice$Tape" "at" "I") iw_X8_parseTerm_3) (fun _ h9 => h9) rfl (by decide +kernel) rfl rfl (Nat.le_of_ble_eq_true rfl) dX8_parseTerm_55 (fun H locs hP1 hD1 hS => ?_)
            obtain ⟨S_40, eS_40⟩ : ∃ zq, zq = setI S_15 o 4 x_39 := ⟨_, rfl⟩
            have hP : va_P (dC, dI) vwCl (oW cq S_40) H := by rw [eS_40]; exact cP (oset t_19.1 hq_20 hD rfl (he_8_4 t_19.2) neI) hP1
            have hD : va_D A (oW cq S_40) := by rw [eS_40]; exact cD (oset t_19.1 hq_20 hD rfl (he_8_4 t_19.2) neI) hD1
            clear hP1 hD1
            have hIS_40 : oInv S_40 := by rw [eS_40]; exact oInv.I0 (k := 8) (lo := 0) (hi := 60) hIS_15 t_19.2 (by decide +kernel) rfl rfl rfl (by omega)
            have XS_40 : oX [804] S_15 S_40 := by rw [eS_40]; exact oX.I (k := 8) (key := 804) t_19.2 rfl (List.mem_singleton.mpr rfl)
            have pk_41 : oP S_40 o 0 = some rw := by rw [eS_40]; exact pk_16
            have pk_42 : oP S_40 o 2 = some cd := by rw [eS_40]; exact pk_17
            have X_43 : oX [803, 804, 805, 2063] Z S_40 := oX.st YS_15 XS_40 (by decide +kernel)
            have g_44 : (oI S_40 o 1).toInt = (oI S_15 o 1).toInt := by rw [eS_40, setI_ne (by decide +kernel)]
            have g_45 : (oI S_40 o 3).toInt = (oI S_15 o 3).toInt := by rw [eS_40, setI_ne (by decide +kernel)]
            have g_46 : (oI S_40 o 4).toInt = x_39.toInt := by rw [eS_40, setI_same]
            have g_47 : (oI S_40 o 5).toInt = (oI S_15 o 5).toInt := by rw [eS_40, setI_ne (by decide +kernel)]
            have hkx_37 : x_37.toInt = 42 := by rw [(sf_e (y := x_34) (by omega) (by omega) (by omega) ex_37).symm.trans bz_28]; decide
            refine lv_aload_n hx hb dX8_parseTerm_58 rfl (lv_at hl 2 rfl) ?_
            refine lv_iload_n hx hb dX8_parseTerm_59 rfl (lv_at hl 3 rfl) ?_
            have t_48 : oty S_40 o 8 := (oX.ty XS_40 t_19)
            have hFc := o_free hD hS hA
            obtain ⟨q_49, hq_49⟩ := og (cq := cq) t_48.1 (oE_8 t_48.2)
            refine va_callv (va_runV (As := [.int x1]) (rest := []) ⟨hx, hb, hml, hown, hts⟩ (c_X8_parseUnit_2f l dC dI H.size tL tS tG cq S_40 hIS_40 o t_48 x1 (by omega) rw pk_41 cd pk_42 (by omega) (by omega)) (cwV 1 hts gX8_parseTerm_X8_parseUnit rfl rfl rfl (by decide +kernel) ⟨(Nat.le_of_ble_eq_true rfl), (Nat.le_of_ble_eq_true rfl)⟩) (pr_VO (r := (RX8, TX8, 6)) hP hK hD q_49 8 rfl hq_49 (hZ.go hS hFc)) rfl rfl hl.1 rfl (lv_room (Nat.le_of_ble_eq_true rfl)) dX8_parseTerm_60 ⟨(Nat.le_of_ble_eq_true rfl), (Nat.le_of_ble_eq_true rfl)⟩) hS (fun q _ h => hFc q h) hFc (fun u t H locs ht hvm w_50 hB hz1 hk1 hS => ?_)
            obtain ⟨S_52, rfl⟩ : ∃ z, z = u := ⟨_, rfl⟩
            obtain ⟨hP1, hK1, hD1⟩ := hB
            rw [ht] at hP1
            have hP : va_P (dC, dI) vwCl (oW cq S_52) H := hP1
            have hD : va_D A (oW cq S_52) := hD1.weaken (fun _ _ _ h => hFc _ h)
            clear hP1 hK1 hD1 hk1 hz1 hvm ht hFc
            obtain ⟨hIS_52, XS_52, hx_53⟩ := w_50
            have X_54 : oX [803, 804, 805, 2063] Z S_52 := oX.st X_43 XS_52 (by decide +kernel)
            have g_55 : (oI S_52 o 1).toInt = (oI S_40 o 1).toInt := by rw [oX.i XS_52 t_48 (by decide +kernel)]
            have pk_56 : oP S_52 o 0 = some rw := by rw [oX.p XS_52 t_48 (by decide +kernel)]; exact pk_41
            have pk_57 : oP S_52 o 2 = some cd := by rw [oX.p XS_52 t_48 (by decide +kernel)]; exact pk_42
            have t_59 : oty S_52 o 8 := (oX.ty XS_52 t_48)
            have iv_58 : 0 ≤ (oI S_52 o 4).toInt ∧ (oI S_52 o 4).toInt ≤ 60 := oInv.iv hIS_52 t_59.2 rfl rfl
            refine lv_aload_n hx hb dX8_parseTerm_63 rfl (lv_at hl 2 rfl) ?_
            refine lv_iload_n hx hb dX8_parseTerm_64 rfl (lv_at hl 0 rfl) ?_
            have hFc := o_free hD hS hA
            obtain ⟨q_60, hq_60⟩ := og (cq := cq) t_59.1 (oE_8 t_59.2)
            refine va_callv (va_runV (As := [.int x_37]) (rest := []) ⟨hx, hb, hml, hown, hts⟩ (c_X8_emitSign_f l dC dI H.size tL tS tG cq S_52 hIS_52 o t_59 x_37 cd pk_57 (by omega)) (cwV 1 hts gX8_parseTerm_X8_emitSign rfl rfl rfl (by decide +kernel) ⟨(Nat.le_of_ble_eq_true rfl), (Nat.le_of_ble_eq_true rfl)⟩) (pr_VO (r := (RX8, TX8, 6)) hP hK hD q_60 8 rfl hq_60 (hZ.go hS hFc)) rfl rfl hl.1 rfl (lv_room (Nat.le_of_ble_eq_true rfl)) dX8_parseTerm_65 ⟨(Nat.le_of_ble_eq_true rfl), (Nat.le_of_ble_eq_true rfl)⟩) hS (fun q _ h => hFc q h) hFc (fun u t H locs ht hvm w_61 hB hz1 hk1 hS => ?_)
            obtain ⟨S_63, rfl⟩ : ∃ z, z = u := ⟨_, rfl⟩
            obtain ⟨hP1, hK1, hD1⟩ := hB
            rw [ht] at hP1
            have hP : va_P (dC, dI) vwCl (oW cq S_63) H := hP1
            have hD : va_D A (oW cq S_63) := hD1.weaken (fun _ _ _ h => hFc _ h)
            clear hP1 hK1 hD1 hk1 hz1 hvm ht hFc
            obtain ⟨hIS_63, XS_63, hx_64⟩ := w_61
            have X_65 : oX [803, 804, 805, 2063] Z S_63 := oX.st X_54 XS_63 (by decide +kernel)
            have g_66 : (oI S_63 o 1).toInt = (oI S_52 o 1).toInt := by rw [oX.i XS_63 t_59 (by decide +kernel)]
            have pk_67 : oP S_63 o 0 = some rw := by rw [oX.p XS_63 t_59 (by decide +kernel)]; exact pk_56
            have pk_68 : oP S_63 o 2 = some cd := by rw [oX.p XS_63 t_59 (by decide +kernel)]; exact pk_57
            obtain ⟨x_69, ex_69⟩ : ∃ zq : Int32, y_14 + 1 = zq := ⟨_, rfl⟩
            have hx_69 : x_69.toInt = y_14.toInt + 1 := (iv_to ex_69).symm.trans (ad_i rfl (by decide +kernel) (by omega) (by omega))
            refine lv_iinc (v := x_69) (lv' := [(2, .int x_69), (3, .int x_37), (0, .ref o), (1, .int x1)]) hx hb dX8_parseTerm_68 hl (k := 1) rfl ex_69 (by decide +kernel) rfl (fun ls hl => ?_)
            clear ex_69
            refine lv_goto (tgt := 7) hx hb dX8_parseTerm_71 (by decide +kernel) ?_
            exact ih (n - 1) (by omega) x_69 S_63 _ _ ls (by omega) (by omega) (by have hC := tX_C YS_15 to trw (by decide +kernel) (by decide +kernel); have a0 := tA_i Z o; have a1 := tA_i S_15 o; have a2 := tA_i S_40 o; have a3 := tA_i S_52 o; have n0 := tN_i Z o; exact tLp_go hq0_cut_13 (by omega) (by omega) (by rw [← hC]; exact sf_e (y := x_34) (by omega) (by omega) (by omega) ex_37) (Or.inl ((sf_e (y := x_34) (by omega) (by omega) (by omega) ex_37).symm.trans bz_28)) (oX.ty XS_15 (oX.ty XS_7 to)) (oX.ty XS_15 (oX.ty XS_7 tcd)) XS_40 (by omega) (by have g := hx_53; rw [tX_C XS_40 (oX.ty XS_15 (oX.ty XS_7 to)) (oX.ty XS_15 (oX.ty XS_7 trw)) (by decide +kernel) (by decide +kernel), hC] at g; exact g) XS_63 (oX.ty XS_52 (oX.ty XS_40 (oX.ty XS_15 (oX.ty XS_7 to)))) (by omega) (by omega) hx_64) hIS_63 (oX.st (oX.st (oX.st (oX.st oX.rf XS_15 (by decide +kernel)) XS_40 (by decide +kernel)) XS_52 (by decide +kernel)) XS_63 (by decide +kernel)) hP hD hS pk_67 pk_68 (lv_sub hl [0, 2, 3] rfl)
          · have dc_27 := c_eq (a := r_24.toInt) (b := 0) rfl (by decide +kernel) c_27
            have bz_70 := bz0 hx_26 c_27
            refine lv_aload_n hx hb dX8_parseTerm_29 rfl (lv_at hl 1 rfl) ?_
            refine lv_bipush (v := 47) hx hb dX8_parseTerm_30 (by decide +kernel) ?_
            have hFc : ∀ q, va_A [] H.size q → A q := pu_free hS hA
            refine va_calli (va_runV (As := [.int 47]) (rest := []) ⟨hx, hb, hml, hown, hts⟩ (c_X8_sees_f l dC dI H.size cq S_15 hIS_15 o t_19 47 rw pk_16 (by decide +kernel)) (cwV 1 hts gX8_parseTerm_X8_sees rfl rfl rfl (by decide +kernel) ⟨(Nat.le_of_ble_eq_true rfl), (Nat.le_of_ble_eq_true rfl)⟩) (pr_V (r := (RX8, TX8, 6)) hP hK hD q_20 8 rfl hq_20) rfl rfl hl.1 rfl (lv_room (Nat.le_of_ble_eq_true rfl)) dX8_parseTerm_32 ⟨(Nat.le_of_ble_eq_true rfl), (Nat.le_of_ble_eq_true rfl)⟩) hS (fun q _ h => hFc q h) hFc (fun r_72 u t H locs ht hvm w_71 hB hz1 hk1 hS => ?_)
            have hP := pu_keep hP hk1
            clear hk1 hz1 hvm hB ht hFc
            obtain ⟨hb_73, hx_74⟩ := w_71
            refine lv_if_eq (tgt := 74) hx hb dX8_parseTerm_35 (by decide +kernel) (fun c_75 => ?_) (fun c_75 => ?_)
            · have dc_75 := c_eq (a := r_72.toInt) (b := 0) rfl (by decide +kernel) c_75
              have bz_76 := bz0 hx_74 c_75
              exact W.vret hx hb hr (fun t ht hW => ⟨⟨S_15, rfl, ⟨hIS_15, YS_15, (by have hC := tX_C YS_15 to trw (by decide +kernel) (by decide +kernel); exact tLp_n hq0_cut_13 (by rw [← hC]; exact bz_70) (by rw [← hC]; exact bz_76))⟩, ⟨by rw [ht]; exact hP, va_K.moved hW.alike hK, hD⟩⟩, hS.F ht⟩) hS.2.2 dX8_parseTerm_74
            · have dc_75 := c_ne (a := r_72.toInt) (b := 0) rfl (by decide +kernel) c_75
              have bz_77 := bz1 hx_74 c_75
              have iv_78 : 0 ≤ (oI S_15 o 4).toInt ∧ (oI S_15 o 4).toInt ≤ 60 := oInv.iv hIS_15 t_19.2 rfl rfl
              have iv_79 : 0 ≤ (oI S_15 o 1).toInt ∧ (oI S_15 o 1).toInt ≤ 60 := oInv.iv hIS_15 t_19.2 rfl rfl
              have lt_80 := sf_lt (by decide +kernel) bz_77 (by omega)
              have iv_81 : 0 ≤ (oI S_15 o 3).toInt ∧ (oI S_15 o 3).toInt ≤ 60 := oInv.iv hIS_15 t_19.2 rfl rfl
              have iv_82 : 0 ≤ (oI S_15 o 4).toInt ∧ (oI S_15 o 4).toInt ≤ 60 := oInv.iv hIS_15 t_19.2 rfl rfl
              have z0 := tN_i Z o
              have z1 := tA_i Z o
              have z2 := tN_i S_15 o
              have z3 := tA_i S_15 o
              have z4 := tLp_m hq0_cut_13 (by omega) (by omega)
              refine lv_aload_n hx hb dX8_parseTerm_38 rfl (lv_at hl 1 rfl) ?_
              refine va_get (D := (dC, dI)) (ci := 8) (v := .ref rw) (C := RX8) (T := TX8) (N := 6) hx hb hts in_wsX8_parseTerm_X8 hown hK hP q_20 hq_20 rfl 0 (by decide +kernel) (hts (.fieldLink RX8 9 "ShipOffice$Tape" "bytes" "[I") iw_X8_parseTerm_2) (fun _ h9 => h9) (o_rd pk_16) dX8_parseTerm_39 ?_
              refine lv_aload_n hx hb dX8_parseTerm_42 rfl (lv_at hl 1 rfl) ?_
              refine va_get (D := (dC, dI)) (ci := 8) (v := .int (oI S_15 o 4)) (C := RX8) (T := TX8) (N := 6) hx hb hts in_wsX8_parseTerm_X8 hown hK hP q_20 hq_20 rfl 4 (by decide +kernel) (hts (.fieldLink RX8 22 "ShipOffice$Tape" "at" "I") iw_X8_parseTerm_3) (fun _ h9 => h9) rfl dX8_parseTerm_43 ?_
              refine lv_topi (fun x_83 ex_83 => ?_)
              have hx_83 : 0 ≤ x_83.toInt ∧ x_83.toInt ≤ 60 := iv_of ex_83 (oInv.iv hIS_15 t_19.2 rfl rfl)
              have gx_83 : x_83.toInt = (oI S_15 o 4).toInt := iv_to ex_83
              clear ex_83
              have t_84 : oty S_15 rw 160 := (oX.ty XS_15 (oX.ty XS_7 trw))
              obtain ⟨q_85, hq_85⟩ := og (cq := cq) t_84.1 (oE_a1 (n := 60) t_84.2 (by decide +kernel))
              refine va_iald hx hb hK hP q_85 0 hq_85 rfl (vp_in_iff.mpr (by omega)) dX8_parseTerm_46 ?_
              refine lv_topi (fun x_86 ex_86 => ?_)
              refine lv_istore_n (lv' := [(3, .int x_86), (2, .int y_14), (0, .ref o), (1, .int x1)]) hx hb dX8_parseTerm_47 rfl hl (by decide +kernel) rfl (fun ls hl => ?_)
              refine lv_aload_n hx hb dX8_parseTerm_48 rfl (lv_at hl 2 rfl) ?_
              refine lv_dup hx hb dX8_parseTerm_49 rfl ?_
              refine va_get (D := (dC, dI)) (ci := 8) (v := .int (oI S_15 o 4)) (C := RX8) (T := TX8) (N := 6) hx hb hts in_wsX8_parseTerm_X8 hown hK hP q_20 hq_20 rfl 4 (by decide +kernel) (hts (.fieldLink RX8 22 "ShipOffice$Tape" "at" "I") iw_X8_parseTerm_3) (fun _ h9 => h9) rfl dX8_parseTerm_50 ?_
              refine lv_topi (fun x_87 ex_87 => ?_)
              have hx_87 : 0 ≤ x_87.toInt ∧ x_87.toInt ≤ 60 := iv_of ex_87 (oInv.iv hIS_15 t_19.2 rfl rfl)
              have gx_87 : x_87.toInt = (oI S_15 o 4).toInt := iv_to ex_87
              clear ex_87
              refine lv_iconst (v := 1) hx hb dX8_parseTerm_53 (by decide +kernel) ?_
              refine lv_iadd hx hb dX8_parseTerm_54 ?_
              refine lv_topi (fun x_88 ex_88 => ?_)
              have hx_88 : x_88.toInt = x_87.toInt + 1 := (iv_to ex_88).trans (ad_i rfl (by decide +kernel) (by omega) (by omega))
              refine va_put (D := (dC, dI)) (ci := 8) (v := .int x_88) (ty := .int) (C := RX8) (T := TX8) (N := 6) hx hb hts in_wsX8_parseTerm_X8 tyX8 tyX8_ok nmX8 hown hK hP hD hS q_20 hq_20 rfl 4 (by decide +kernel) (hts (.fieldLink RX8 22 "ShipOffice$Tape" "at" "I") iw_X8_parseTerm_3) (fun _ h9 => h9) rfl (by decide +kernel) rfl rfl (Nat.le_of_ble_eq_true rfl) dX8_parseTerm_55 (fun H locs hP1 hD1 hS => ?_)
              obtain ⟨S_89, eS_89⟩ : ∃ zq, zq = setI S_15 o 4 x_88 := ⟨_, rfl⟩
              have hP : va_P (dC, dI) vwCl (oW cq S_89) H := by rw [eS_89]; exact cP (oset t_19.1 hq_20 hD rfl (he_8_4 t_19.2) neI) hP1
              have hD : va_D A (oW cq S_89) := by rw [eS_89]; exact cD (oset t_19.1 hq_20 hD rfl (he_8_4 t_19.2) neI) hD1
              clear hP1 hD1
              have hIS_89 : oInv S_89 := by rw [eS_89]; exact oInv.I0 (k := 8) (lo := 0) (hi := 60) hIS_15 t_19.2 (by decide +kernel) rfl rfl rfl (by omega)
              have XS_89 : oX [804] S_15 S_89 := by rw [eS_89]; exact oX.I (k := 8) (key := 804) t_19.2 rfl (List.mem_singleton.mpr rfl)
              have pk_90 : oP S_89 o 0 = some rw := by rw [eS_89]; exact pk_16
              have pk_91 : oP S_89 o 2 = some cd := by rw [eS_89]; exact pk_17
              have X_92 : oX [803, 804, 805, 2063] Z S_89 := oX.st YS_15 XS_89 (by decide +kernel)
              have g_93 : (oI S_89 o 1).toInt = (oI S_15 o 1).toInt := by rw [eS_89, setI_ne (by decide +kernel)]
              have g_94 : (oI S_89 o 3).toInt = (oI S_15 o 3).toInt := by rw [eS_89, setI_ne (by decide +kernel)]
              have g_95 : (oI S_89 o 4).toInt = x_88.toInt := by rw [eS_89, setI_same]
              have g_96 : (oI S_89 o 5).toInt = (oI S_15 o 5).toInt := by rw [eS_89, setI_ne (by decide +kernel)]
              have hkx_86 : x_86.toInt = 47 := by rw [(sf_e (y := x_83) (by omega) (by omega) (by omega) ex_86).symm.trans bz_77]; decide
              refine lv_aload_n hx hb dX8_parseTerm_58 rfl (lv_at hl 2 rfl) ?_
              refine lv_iload_n hx hb dX8_parseTerm_59 rfl (lv_at hl 3 rfl) ?_
              have t_97 : oty S_89 o 8 := (oX.ty XS_89 t_19)
              have hFc := o_free hD hS hA
              obtain ⟨q_98, hq_98⟩ := og (cq := cq) t_97.1 (oE_8 t_97.2)
              refine va_callv (va_runV (As := [.int x1]) (rest := []) ⟨hx, hb, hml, hown, hts⟩ (c_X8_parseUnit_2f l dC dI H.size tL tS tG cq S_89 hIS_89 o t_97 x1 (by omega) rw pk_90 cd pk_91 (by omega) (by omega)) (cwV 1 hts gX8_parseTerm_X8_parseUnit rfl rfl rfl (by decide +kernel) ⟨(Nat.le_of_ble_eq_true rfl), (Nat.le_of_ble_eq_true rfl)⟩) (pr_VO (r := (RX8, TX8, 6)) hP hK hD q_98 8 rfl hq_98 (hZ.go hS hFc)) rfl rfl hl.1 rfl (lv_room (Nat.le_of_ble_eq_true rfl)) dX8_parseTerm_60 ⟨(Nat.le_of_ble_eq_true rfl), (Nat.le_of_ble_eq_true rfl)⟩) hS (fun q _ h => hFc q h) hFc (fun u t H locs ht hvm w_99 hB hz1 hk1 hS => ?_)
              obtain ⟨S_101, rfl⟩ : ∃ z, z = u := ⟨_, rfl⟩
              obtain ⟨hP1, hK1, hD1⟩ := hB
              rw [ht] at hP1
              have hP : va_P (dC, dI) vwCl (oW cq S_101) H := hP1
              have hD : va_D A (oW cq S_101) := hD1.weaken (fun _ _ _ h => hFc _ h)
              clear hP1 hK1 hD1 hk1 hz1 hvm ht hFc
              obtain ⟨hIS_101, XS_101, hx_102⟩ := w_99
              have X_103 : oX [803, 804, 805, 2063] Z S_101 := oX.st X_92 XS_101 (by decide +kernel)
              have g_104 : (oI S_101 o 1).toInt = (oI S_89 o 1).toInt := by rw [oX.i XS_101 t_97 (by decide +kernel)]
              have pk_105 : oP S_101 o 0 = some rw := by rw [oX.p XS_101 t_97 (by decide +kernel)]; exact pk_90
              have pk_106 : oP S_101 o 2 = some cd := by rw [oX.p XS_101 t_97 (by decide +kernel)]; exact pk_91
              have t_108 : oty S_101 o 8 := (oX.ty XS_101 t_97)
              have iv_107 : 0 ≤ (oI S_101 o 4).toInt ∧ (oI S_101 o 4).toInt ≤ 60 := oInv.iv hIS_101 t_108.2 rfl rfl
              refine lv_aload_n hx hb dX8_parseTerm_63 rfl (lv_at hl 2 rfl) ?_
              refine lv_iload_n hx hb dX8_parseTerm_64 rfl (lv_at hl 0 rfl) ?_
              have hFc := o_free hD hS hA
              obtain ⟨q_109, hq_109⟩ := og (cq := cq) t_108.1 (oE_8 t_108.2)
              refine va_callv (va_runV (As := [.int x_86]) (rest := []) ⟨hx, hb, hml, hown, hts⟩ (c_X8_emitSign_f l dC dI H.size tL tS tG cq S_101 hIS_101 o t_108 x_86 cd pk_106 (by omega)) (cwV 1 hts gX8_parseTerm_X8_emitSign rfl rfl rfl (by decide +kernel) ⟨(Nat.le_of_ble_eq_true rfl), (Nat.le_of_ble_eq_true rfl)⟩) (pr_VO (r := (RX8, TX8, 6)) hP hK hD q_109 8 rfl hq_109 (hZ.go hS hFc)) rfl rfl hl.1 rfl (lv_room (Nat.le_of_ble_eq_true rfl)) dX8_parseTerm_65 ⟨(Nat.le_of_ble_eq_true rfl), (Nat.le_of_ble_eq_true rfl)⟩) hS (fun q _ h => hFc q h) hFc (fun u t H locs ht hvm w_110 hB hz1 hk1 hS => ?_)
              obtain ⟨S_112, rfl⟩ : ∃ z, z = u := ⟨_, rfl⟩
              obtain ⟨hP1, hK1, hD1⟩ := hB
              rw [ht] at hP1
              have hP : va_P (dC, dI) vwCl (oW cq S_112) H := hP1
              have hD : va_D A (oW cq S_112) := hD1.weaken (fun _ _ _ h => hFc _ h)
              clear hP1 hK1 hD1 hk1 hz1 hvm ht hFc
              obtain ⟨hIS_112, XS_112, hx_113⟩ := w_110
              have X_114 : oX [803, 804, 805, 2063] Z S_112 := oX.st X_103 XS_112 (by decide +kernel)
              have g_115 : (oI S_112 o 1).toInt = (oI S_101 o 1).toInt := by rw [oX.i XS_112 t_108 (by decide +kernel)]
              have pk_116 : oP S_112 o 0 = some rw := by rw [oX.p XS_112 t_108 (by decide +kernel)]; exact pk_105
              have pk_117 : oP S_112 o 2 = some cd := by rw [oX.p XS_112 t_108 (by decide +kernel)]; exact pk_106
              obtain ⟨x_118, ex_118⟩ : ∃ zq : Int32, y_14 + 1 = zq := ⟨_, rfl⟩
              have hx_118 : x_118.toInt = y_14.toInt + 1 := (iv_to ex_118).symm.trans (ad_i rfl (by decide +kernel) (by omega) (by omega))
              refine lv_iinc (v := x_118) (lv' := [(2, .int x_118), (3, .int x_86), (0, .ref o), (1, .int x1)]) hx hb dX8_parseTerm_68 hl (k := 1) rfl ex_118 (by decide +kernel) rfl (fun ls hl => ?_)
              clear ex_118
              refine lv_goto (tgt := 7) hx hb dX8_parseTerm_71 (by decide +kernel) ?_
              exact ih (n - 1) (by omega) x_118 S_112 _ _ ls (by omega) (by omega) (by have hC := tX_C YS_15 to trw (by decide +kernel) (by decide +kernel); have a0 := tA_i Z o; have a1 := tA_i S_15 o; have a2 := tA_i S_89 o; have a3 := tA_i S_101 o; have n0 := tN_i Z o; exact tLp_go hq0_cut_13 (by omega) (by omega) (by rw [← hC]; exact sf_e (y := x_83) (by omega) (by omega) (by omega) ex_86) (Or.inr ((sf_e (y := x_83) (by omega) (by omega) (by omega) ex_86).symm.trans bz_77)) (oX.ty XS_15 (oX.ty XS_7 to)) (oX.ty XS_15 (oX.ty XS_7 tcd)) XS_89 (by omega) (by have g := hx_102; rw [tX_C XS_89 (oX.ty XS_15 (oX.ty XS_7 to)) (oX.ty XS_15 (oX.ty XS_7 trw)) (by decide +kernel) (by decide +kernel), hC] at g; exact g) XS_112 (oX.ty XS_101 (oX.ty XS_89 (oX.ty XS_15 (oX.ty XS_7 to)))) (by omega) (by omega) hx_113) hIS_112 (oX.st (oX.st (oX.st (oX.st oX.rf XS_15 (by decide +kernel)) XS_89 (by decide +kernel)) XS_101 (by decide +kernel)) XS_112 (by decide +kernel)) hP hD hS pk_116 pk_117 (lv_sub hl [0, 2, 3] rfl)
  have kc_119 : (0 : Int32).toInt = 0 := by decide
  exact cut_13 61 0 S_7 _ _ ls (by omega) (by decide +kernel) ⟨_, by rw [show (60 - (0 : Int32).toInt).toNat = 60 by decide]; rfl, hx_8⟩ hIS_7 oX.rf hP hD hS pk_11 pk_12 (lv_sub hl [0, 1, 2] rfl)
set_option maxHeartbeats 4000000 in
set_option maxRecDepth 100000 in
theorem c_X8_parseSum_2f (l : Launch) (dC : Nat → ClassId) (dI : Nat → Nat → Nat) (sz : Nat) (tL tS tG : Nat) (cq : Nat → ClassId) (Z : oS) (gI : oInv Z) (o : Nat) (to : oty Z o 8) (x1 : Int32) (hx1 : 2 ≤ x1.toInt ∧ x1.toInt ≤ 2) (rw : Nat) (hrw : oP Z o 0 = some rw) (cd : Nat) (hcd : oP Z o 2 = some cd) (hft : (oI Z o 5).toInt = -1) (hcz : (oI Z o 3).toInt ≤ (oI Z o 4).toInt) : Met l yX8_parseSum wsX8_parseSum ({ frames := 16, cells := 0, slots := 0, locals := 358 }) (va_Pc [.ref o, .int x1] (pcO (dC, dI) (oT cq) (oW cq Z) sz tL tS tG (oW cq Z))) (va_Qv (fun (u : oS) => oInv u ∧ oX [803, 804, 805, 2063] Z u ∧ (tR Z u o cd (cS (tC Z o rw) 3 (tA Z o)))) (fun u t => va_P (dC, dI) vwCl (oW cq u) t.heap ∧ va_K (dC, dI) vwCl (oT cq) t ∧ va_D (va_A (oW cq Z) sz) (oW cq u)) (va_A (oW cq Z) sz)) 0 0 (va_A (oW cq Z) sz) := by
  refine Met.ofW (cc := cX8_parseSum) (maxL := 4) (ret := none) (by decide +kernel) rfl ?_
  intro p e s m args below meth c s₁ B hml hv
  obtain ⟨rfl, ⟨hsz, hP, hK, hD0⟩, hZ⟩ := hv
  have hx := B.exec
  have hb := B.bytes
  have hr := B.returns
  have hts := atoms_spec (ws := wsX8_parseSum) B.pre
  have hown : s.vm.findClass RX8 = some m.cls := findClass_of_methodNamed B.named
  have hlocks := B.notSynchronized
  subst hsz
  have hD := hD0.self (sz := s.heap.size)
  generalize hAe : va_A (oW cq Z) s.heap.size = A at hD hZ ⊢
  have hA : ∀ q : Nat, s.heap.size ≤ q → A q := fun q h => by rw [← hAe]; exact Or.inr h
  have hS : va_S A s.heap s.heap [] := va_S.rf
  have hP : va_P (dC, dI) vwCl (oW cq Z) s.heap := hP
  have hl := lv_entry ([.ref o, .int x1]) (n := 4) (Nat.le_of_ble_eq_true rfl)
  rw [lg_entry_eq]
  generalize (lg_sl ([.ref o, .int x1]) ++ List.replicate (4 - (lg_sl ([.ref o, .int x1])).length) Slot.unset).toArray = ls at hl ⊢
  have hl : lv_has ls 4 [(0, .ref o), (1, .int x1)] := hl
  have trw : oty Z rw 160 := oInv.rd gI to.2 hrw rfl rfl
  have tcd : oty Z cd 63 := oInv.rd gI to.2 hcd rfl rfl
  have iv_1 : 0 ≤ (oI Z o 1).toInt ∧ (oI Z o 1).toInt ≤ 60 := oInv.iv gI to.2 rfl rfl
  have iv_2 : 0 ≤ (oI Z o 3).toInt ∧ (oI Z o 3).toInt ≤ 60 := oInv.iv gI to.2 rfl rfl
  have iv_3 : 0 ≤ (oI Z o 4).toInt ∧ (oI Z o 4).toInt ≤ 60 := oInv.iv gI to.2 rfl rfl
  refine lv_aload_n hx hb dX8_parseSum_0 rfl (lv_at hl 0 rfl) ?_
  refine lv_iload_n hx hb dX8_parseSum_1 rfl (lv_at hl 1 rfl) ?_
  have hFc := o_free hD hS hA
  obtain ⟨q_4, hq_4⟩ := og (cq := cq) to.1 (oE_8 to.2)
  refine va_callv (va_runV (As := [.int x1]) (rest := []) ⟨hx, hb, hml, hown, hts⟩ (c_X8_parseTerm_2f l dC dI s.heap.size tL tS tG cq Z gI o to x1 (by omega) rw hrw cd hcd (by omega) (by omega)) (cwV 1 hts gX8_parseSum_X8_parseTerm rfl rfl rfl (by decide +kernel) ⟨(Nat.le_of_ble_eq_true rfl), (Nat.le_of_ble_eq_true rfl)⟩) (pr_VO (r := (RX8, TX8, 6)) hP hK hD q_4 8 rfl hq_4 (hZ.go hS hFc)) rfl rfl hl.1 rfl (lv_room (Nat.le_of_ble_eq_true rfl)) dX8_parseSum_2 ⟨(Nat.le_of_ble_eq_true rfl), (Nat.le_of_ble_eq_true rfl)⟩) hS (fun q _ h => hFc q h) hFc (fun u t H locs ht hvm w_5 hB hz1 hk1 hS => ?_)
  obtain ⟨S_7, rfl⟩ : ∃ z, z = u := ⟨_, rfl⟩
  obtain ⟨hP1, hK1, hD1⟩ := hB
  rw [ht] at hP1
  have hP : va_P (dC, dI) vwCl (oW cq S_7) H := hP1
  have hD : va_D A (oW cq S_7) := hD1.weaken (fun _ _ _ h => hFc _ h)
  clear hP1 hK1 hD1 hk1 hz1 hvm ht hFc
  obtain ⟨hIS_7, XS_7, hx_8⟩ := w_5
  have X_9 : oX [803, 804, 805, 2063] Z S_7 := oX.st oX.rf XS_7 (by decide +kernel)
  have g_10 : (oI S_7 o 1).toInt = (oI Z o 1).toInt := by rw [oX.i XS_7 to (by decide +kernel)]
  have pk_11 : oP S_7 o 0 = some rw := by rw [oX.p XS_7 to (by decide +kernel)]; exact hrw
  have pk_12 : oP S_7 o 2 = some cd := by rw [oX.p XS_7 to (by decide +kernel)]; exact hcd
  refine lv_iconst (v := 0) hx hb dX8_parseSum_5 (by decide +kernel) ?_
  refine lv_istore_n (lv' := [(2, .int 0), (0, .ref o), (1, .int x1)]) hx hb dX8_parseSum_6 rfl hl (by decide +kernel) rfl (fun ls hl => ?_)
  have cut_13 : ∀ (n : Nat) (y_14 : Int32) (S_15 : oS) (H : Heap) (locs : List Loc) (ls : Array Slot), 60 - y_14.toInt ≤ (n : Int) → (0 ≤ y_14.toInt ∧ y_14.toInt ≤ 60) → tLp Z S_15 o cd (cT (tC Z o rw) 3) (tC Z o rw) 43 45 (60 - y_14.toInt).toNat (cS (tC Z o rw) 3 (tA Z o)) → oInv S_15 → oX [803, 804, 805, 2063] S_7 S_15 → va_P (dC, dI) vwCl (oW cq S_15) H → va_D A (oW cq S_15) → va_S A s.heap H locs → oP S_15 o 0 = some rw → oP S_15 o 2 = some cd → lv_has ls 4 [(2, .int y_14), (0, .ref o), (1, .int x1)] → W p l e (headSpec wsX8_parseSum { frames := 16, cells := 0, slots := 0, locals := 358 }).room s m #[Value.ref o, Value.int x1] below meth c H locs 0 0 (MQ below (va_Qv (fun (u : oS) => oInv u ∧ oX [803, 804, 805, 2063] Z u ∧ (tR Z u o cd (cS (tC Z o rw) 3 (tA Z o)))) (fun u t => va_P (dC, dI) vwCl (oW cq u) t.heap ∧ va_K (dC, dI) vwCl (oT cq) t ∧ va_D A (oW cq u)) A) #[Value.ref o, Value.int x1] s 0 0 A) (F0 m 7 ls []) := by
    intro n
    induction n using Nat.strongRecOn with
    | ind n ih =>
      intro y_14 S_15 H locs ls hm hy_14 hq0_cut_13 hIS_15 XS_15 hP hD hS pk_16 pk_17 hl
      have YS_15 : oX [803, 804, 805, 2063] Z S_15 := oX.st X_9 XS_15 (fun _ q => q)
      refine lv_iload_n hx hb dX8_parseSum_7 rfl (lv_at hl 0 rfl) ?_
      refine lv_bipush (v := 60) hx hb dX8_parseSum_8 (by decide +kernel) ?_
      refine lv_icmp_ge (tgt := 74) hx hb dX8_parseSum_10 (by decide +kernel) (fun c_18 => ?_) (fun c_18 => ?_)
      · have dc_18 := c_le (a := 60) (b := y_14.toInt) (by decide +kernel) rfl c_18
        exact W.vret hx hb hr (fun t ht hW => ⟨⟨S_15, rfl, ⟨hIS_15, YS_15, (tLp_0 hq0_cut_13 (by omega))⟩, ⟨by rw [ht]; exact hP, va_K.moved hW.alike hK, hD⟩⟩, hS.F ht⟩) hS.2.2 dX8_parseSum_74
      · have dc_18 := c_nle (a := 60) (b := y_14.toInt) (by decide +kernel) rfl c_18
        refine lv_aload_n hx hb dX8_parseSum_13 rfl (lv_at hl 1 rfl) ?_
        have t_19 : oty S_15 o 8 := (oX.ty XS_15 (oX.ty XS_7 to))
        obtain ⟨q_20, hq_20⟩ := og (cq := cq) t_19.1 (oE_8 t_19.2)
        refine va_get (D := (dC, dI)) (ci := 8) (v := .int (oI S_15 o 5)) (C := RX8) (T := TX8) (N := 6) hx hb hts in_wsX8_parseSum_X8 hown hK hP q_20 hq_20 rfl 5 (by decide +kernel) (hts (.fieldLink RX8 28 "ShipOffice$Tape" "fault" "I") iw_X8_parseSum_1) (fun _ h9 => h9) rfl dX8_parseSum_14 ?_
        refine lv_topi (fun x_21 ex_21 => ?_)
        have gx_21 : x_21.toInt = (oI S_15 o 5).toInt := iv_to ex_21
        clear ex_21
        refine lv_if_ge (tgt := 74) hx hb dX8_parseSum_17 (by decide +kernel) (fun c_22 => ?_) (fun c_22 => ?_)
        · have dc_22 := c_le (a := 0) (b := x_21.toInt) (by decide +kernel) rfl c_22
          exact W.vret hx hb hr (fun t ht hW => ⟨⟨S_15, rfl, ⟨hIS_15, YS_15, (tLp_f hq0_cut_13 (by omega))⟩, ⟨by rw [ht]; exact hP, va_K.moved hW.alike hK, hD⟩⟩, hS.F ht⟩) hS.2.2 dX8_parseSum_74
        · have dc_22 := c_nle (a := 0) (b := x_21.toInt) (by decide +kernel) rfl c_22
          refine lv_aload_n hx hb dX8_parseSum_20 rfl (lv_at hl 1 rfl) ?_
          refine lv_bipush (v := 43) hx hb dX8_parseSum_21 (by decide +kernel) ?_
          have hFc : ∀ q, va_A [] H.size q → A q := pu_free hS hA
          refine va_calli (va_runV (As := [.int 43]) (rest := []) ⟨hx, hb, hml, hown, hts⟩ (c_X8_sees_f l dC dI H.size cq S_15 hIS_15 o t_19 43 rw pk_16 (by decide +kernel)) (cwV 1 hts gX8_parseSum_X8_sees rfl rfl rfl (by decide +kernel) ⟨(Nat.le_of_ble_eq_true rfl), (Nat.le_of_ble_eq_true rfl)⟩) (pr_V (r := (RX8, TX8, 6)) hP hK hD q_20 8 rfl hq_20) rfl rfl hl.1 rfl (lv_room (Nat.le_of_ble_eq_true rfl)) dX8_parseSum_23 ⟨(Nat.le_of_ble_eq_true rfl), (Nat.le_of_ble_eq_true rfl)⟩) hS (fun q _ h => hFc q h) hFc (fun r_24 u t H locs ht hvm w_23 hB hz1 hk1 hS => ?_)
          have hP := pu_keep hP hk1
          clear hk1 hz1 hvm hB ht hFc
          obtain ⟨hb_25, hx_26⟩ := w_23
          refine lv_if_ne (tgt := 38) hx hb dX8_parseSum_26 (by decide +kernel) (fun c_27 => ?_) (fun c_27 => ?_)
          · have dc_27 := c_ne (a := r_24.toInt) (b := 0) rfl (by decide +kernel) c_27
            have bz_28 := bz1 hx_26 c_27
            have iv_29 : 0 ≤ (oI S_15 o 4).toInt ∧ (oI S_15 o 4).toInt ≤ 60 := oInv.iv hIS_15 t_19.2 rfl rfl
            have iv_30 : 0 ≤ (oI S_15 o 1).toInt ∧ (oI S_15 o 1).toInt ≤ 60 := oInv.iv hIS_15 t_19.2 rfl rfl
            have lt_31 := sf_lt (by decide +kernel) bz_28 (by omega)
            have iv_32 : 0 ≤ (oI S_15 o 3).toInt ∧ (oI S_15 o 3).toInt ≤ 60 := oInv.iv hIS_15 t_19.2 rfl rfl
            have iv_33 : 0 ≤ (oI S_15 o 4).toInt ∧ (oI S_15 o 4).toInt ≤ 60 := oInv.iv hIS_15 t_19.2 rfl rfl
            have z0 := tN_i Z o
            have z1 := tA_i Z o
            have z2 := tN_i S_15 o
            have z3 := tA_i S_15 o
            have z4 := tLp_m hq0_cut_13 (by omega) (by omega)
            refine lv_aload_n hx hb dX8_parseSum_38 rfl (lv_at hl 1 rfl) ?_
            refine va_get (D := (dC, dI)) (ci := 8) (v := .ref rw) (C := RX8) (T := TX8) (N := 6) hx hb hts in_wsX8_parseSum_X8 hown hK hP q_20 hq_20 rfl 0 (by decide +kernel) (hts (.fieldLink RX8 9 "ShipOffice$Tape" "bytes" "[I") iw_X8_parseSum_2) (fun _ h9 => h9) (o_rd pk_16) dX8_parseSum_39 ?_
            refine lv_aload_n hx hb dX8_parseSum_42 rfl (lv_at hl 1 rfl) ?_
            refine va_get (D := (dC, dI)) (ci := 8) (v := .int (oI S_15 o 4)) (C := RX8) (T := TX8) (N := 6) hx hb hts in_wsX8_parseSum_X8 hown hK hP q_20 hq_20 rfl 4 (by decide +kernel) (hts (.fieldLink RX8 22 "ShipOffice$Tape" "at" "I") iw_X8_parseSum_3) (fun _ h9 => h9) rfl dX8_parseSum_43 ?_
            refine lv_topi (fun x_34 ex_34 => ?_)
            have hx_34 : 0 ≤ x_34.toInt ∧ x_34.toInt ≤ 60 := iv_of ex_34 (oInv.iv hIS_15 t_19.2 rfl rfl)
            have gx_34 : x_34.toInt = (oI S_15 o 4).toInt := iv_to ex_34
            clear ex_34
            have t_35 : oty S_15 rw 160 := (oX.ty XS_15 (oX.ty XS_7 trw))
            obtain ⟨q_36, hq_36⟩ := og (cq := cq) t_35.1 (oE_a1 (n := 60) t_35.2 (by decide +kernel))
            refine va_iald hx hb hK hP q_36 0 hq_36 rfl (vp_in_iff.mpr (by omega)) dX8_parseSum_46 ?_
            refine lv_topi (fun x_37 ex_37 => ?_)
            refine lv_istore_n (lv' := [(3, .int x_37), (2, .int y_14), (0, .ref o), (1, .int x1)]) hx hb dX8_parseSum_47 rfl hl (by decide +kernel) rfl (fun ls hl => ?_)
            refine lv_aload_n hx hb dX8_parseSum_48 rfl (lv_at hl 2 rfl) ?_
            refine lv_dup hx hb dX8_parseSum_49 rfl ?_
            refine va_get (D := (dC, dI)) (ci := 8) (v := .int (oI S_15 o 4)) (C := RX8) (T := TX8) (N := 6) hx hb hts in_wsX8_parseSum_X8 hown hK hP q_20 hq_20 rfl 4 (by decide +kernel) (hts (.fieldLink RX8 22 "ShipOffice$Tape" "at" "I") iw_X8_parseSum_3) (fun _ h9 => h9) rfl dX8_parseSum_50 ?_
            refine lv_topi (fun x_38 ex_38 => ?_)
            have hx_38 : 0 ≤ x_38.toInt ∧ x_38.toInt ≤ 60 := iv_of ex_38 (oInv.iv hIS_15 t_19.2 rfl rfl)
            have gx_38 : x_38.toInt = (oI S_15 o 4).toInt := iv_to ex_38
            clear ex_38
            refine lv_iconst (v := 1) hx hb dX8_parseSum_53 (by decide +kernel) ?_
            refine lv_iadd hx hb dX8_parseSum_54 ?_
            refine lv_topi (fun x_39 ex_39 => ?_)
            have hx_39 : x_39.toInt = x_38.toInt + 1 := (iv_to ex_39).trans (ad_i rfl (by decide +kernel) (by omega) (by omega))
            refine va_put (D := (dC, dI)) (ci := 8) (v := .int x_39) (ty := .int) (C := RX8) (T := TX8) (N := 6) hx hb hts in_wsX8_parseSum_X8 tyX8 tyX8_ok nmX8 hown hK hP hD hS q_20 hq_20 rfl 4 (by decide +kernel) (hts (.fieldLink RX8 22 "ShipOffice$Tape" "at" "I") iw_X8_parseSum_3) (fun _ h9 => h9) rfl (by decide +kernel) rfl rfl (Nat.le_of_ble_eq_true rfl) dX8_parseSum_55 (fun H locs hP1 hD1 hS => ?_)
            obtain ⟨S_40, eS_40⟩ : ∃ zq, zq = setI S_15 o 4 x_39 := ⟨_, rfl⟩
            have hP : va_P (dC, dI) vwCl (oW cq S_40) H := by rw [eS_40]; exact cP (oset t_19.1 hq_20 hD rfl (he_8_4 t_19.2) neI) hP1
            have hD : va_D A (oW cq S_40) := by rw [eS_40]; exact cD (oset t_19.1 hq_20 hD rfl (he_8_4 t_19.2) neI) hD1
            clear hP1 hD1
            have hIS_40 : oInv S_40 := by rw [eS_40]; exact oInv.I0 (k := 8) (lo := 0) (hi := 60) hIS_15 t_19.2 (by decide +kernel) rfl rfl rfl (by omega)
            have XS_40 : oX [804] S_15 S_40 := by rw [eS_40]; exact oX.I (k := 8) (key := 804) t_19.2 rfl (List.mem_singleton.mpr rfl)
            have pk_41 : oP S_40 o 0 = some rw := by rw [eS_40]; exact pk_16
            have pk_42 : oP S_40 o 2 = some cd := by rw [eS_40]; exact pk_17
            have X_43 : oX [803, 804, 805, 2063] Z S_40 := oX.st YS_15 XS_40 (by decide +kernel)
            have g_44 : (oI S_40 o 1).toInt = (oI S_15 o 1).toInt := by rw [eS_40, setI_ne (by decide +kernel)]
            have g_45 : (oI S_40 o 3).toInt = (oI S_15 o 3).toInt := by rw [eS_40, setI_ne (by decide +kernel)]
            have g_46 : (oI S_40 o 4).toInt = x_39.toInt := by rw [eS_40, setI_same]
            have g_47 : (oI S_40 o 5).toInt = (oI S_15 o 5).toInt := by rw [eS_40, setI_ne (by decide +kernel)]
            have hkx_37 : x_37.toInt = 43 := by rw [(sf_e (y := x_34) (by omega) (by omega) (by omega) ex_37).symm.trans bz_28]; decide
            refine lv_aload_n hx hb dX8_parseSum_58 rfl (lv_at hl 2 rfl) ?_
            refine lv_iload_n hx hb dX8_parseSum_59 rfl (lv_at hl 3 rfl) ?_
            have t_48 : oty S_40 o 8 := (oX.ty XS_40 t_19)
            have hFc := o_free hD hS hA
            obtain ⟨q_49, hq_49⟩ := og (cq := cq) t_48.1 (oE_8 t_48.2)
            refine va_callv (va_runV (As := [.int x1]) (rest := []) ⟨hx, hb, hml, hown, hts⟩ (c_X8_parseTerm_2f l dC dI H.size tL tS tG cq S_40 hIS_40 o t_48 x1 (by omega) rw pk_41 cd pk_42 (by omega) (by omega)) (cwV 1 hts gX8_parseSum_X8_parseTerm rfl rfl rfl (by decide +kernel) ⟨(Nat.le_of_ble_eq_true rfl), (Nat.le_of_ble_eq_true rfl)⟩) (pr_VO (r := (RX8, TX8, 6)) hP hK hD q_49 8 rfl hq_49 (hZ.go hS hFc)) rfl rfl hl.1 rfl (lv_room (Nat.le_of_ble_eq_true rfl)) dX8_parseSum_60 ⟨(Nat.le_of_ble_eq_true rfl), (Nat.le_of_ble_eq_true rfl)⟩) hS (fun q _ h => hFc q h) hFc (fun u t H locs ht hvm w_50 hB hz1 hk1 hS => ?_)
            obtain ⟨S_52, rfl⟩ : ∃ z, z = u := ⟨_, rfl⟩
            obtain ⟨hP1, hK1, hD1⟩ := hB
            rw [ht] at hP1
            have hP : va_P (dC, dI) vwCl (oW cq S_52) H := hP1
            have hD : va_D A (oW cq S_52) := hD1.weaken (fun _ _ _ h => hFc _ h)
            clear hP1 hK1 hD1 hk1 hz1 hvm ht hFc
            obtain ⟨hIS_52, XS_52, hx_53⟩ := w_50
            have X_54 : oX [803, 804, 805, 2063] Z S_52 := oX.st X_43 XS_52 (by decide +kernel)
            have g_55 : (oI S_52 o 1).toInt = (oI S_40 o 1).toInt := by rw [oX.i XS_52 t_48 (by decide +kernel)]
            have pk_56 : oP S_52 o 0 = some rw := by rw [oX.p XS_52 t_48 (by decide +kernel)]; exact pk_41
            have pk_57 : oP S_52 o 2 = some cd := by rw [oX.p XS_52 t_48 (by decide +kernel)]; exact pk_42
            have t_59 : oty S_52 o 8 := (oX.ty XS_52 t_48)
            have iv_58 : 0 ≤ (oI S_52 o 4).toInt ∧ (oI S_52 o 4).toInt ≤ 60 := oInv.iv hIS_52 t_59.2 rfl rfl
            refine lv_aload_n hx hb dX8_parseSum_63 rfl (lv_at hl 2 rfl) ?_
            refine lv_iload_n hx hb dX8_parseSum_64 rfl (lv_at hl 0 rfl) ?_
            have hFc := o_free hD hS hA
            obtain ⟨q_60, hq_60⟩ := og (cq := cq) t_59.1 (oE_8 t_59.2)
            refine va_callv (va_runV (As := [.int x_37]) (rest := []) ⟨hx, hb, hml, hown, hts⟩ (c_X8_emitSign_f l dC dI H.size tL tS tG cq S_52 hIS_52 o t_59 x_37 cd pk_57 (by omega)) (cwV 1 hts gX8_parseSum_X8_emitSign rfl rfl rfl (by decide +kernel) ⟨(Nat.le_of_ble_eq_true rfl), (Nat.le_of_ble_eq_true rfl)⟩) (pr_VO (r := (RX8, TX8, 6)) hP hK hD q_60 8 rfl hq_60 (hZ.go hS hFc)) rfl rfl hl.1 rfl (lv_room (Nat.le_of_ble_eq_true rfl)) dX8_parseSum_65 ⟨(Nat.le_of_ble_eq_true rfl), (Nat.le_of_ble_eq_true rfl)⟩) hS (fun q _ h => hFc q h) hFc (fun u t H locs ht hvm w_61 hB hz1 hk1 hS => ?_)
            obtain ⟨S_63, rfl⟩ : ∃ z, z = u := ⟨_, rfl⟩
            obtain ⟨hP1, hK1, hD1⟩ := hB
            rw [ht] at hP1
            have hP : va_P (dC, dI) vwCl (oW cq S_63) H := hP1
            have hD : va_D A (oW cq S_63) := hD1.weaken (fun _ _ _ h => hFc _ h)
            clear hP1 hK1 hD1 hk1 hz1 hvm ht hFc
            obtain ⟨hIS_63, XS_63, hx_64⟩ := w_61
            have X_65 : oX [803, 804, 805, 2063] Z S_63 := oX.st X_54 XS_63 (by decide +kernel)
            have g_66 : (oI S_63 o 1).toInt = (oI S_52 o 1).toInt := by rw [oX.i XS_63 t_59 (by decide +kernel)]
            have pk_67 : oP S_63 o 0 = some rw := by rw [oX.p XS_63 t_59 (by decide +kernel)]; exact pk_56
            have pk_68 : oP S_63 o 2 = some cd := by rw [oX.p XS_63 t_59 (by decide +kernel)]; exact pk_57
            obtain ⟨x_69, ex_69⟩ : ∃ zq : Int32, y_14 + 1 = zq := ⟨_, rfl⟩
            have hx_69 : x_69.toInt = y_14.toInt + 1 := (iv_to ex_69).symm.trans (ad_i rfl (by decide +kernel) (by omega) (by omega))
            refine lv_iinc (v := x_69) (lv' := [(2, .int x_69), (3, .int x_37), (0, .ref o), (1, .int x1)]) hx hb dX8_parseSum_68 hl (k := 1) rfl ex_69 (by decide +kernel) rfl (fun ls hl => ?_)
            clear ex_69
            refine lv_goto (tgt := 7) hx hb dX8_parseSum_71 (by decide +kernel) ?_
            exact ih (n - 1) (by omega) x_69 S_63 _ _ ls (by omega) (by omega) (by have hC := tX_C YS_15 to trw (by decide +kernel) (by decide +kernel); have a0 := tA_i Z o; have a1 := tA_i S_15 o; have a2 := tA_i S_40 o; have a3 := tA_i S_52 o; have n0 := tN_i Z o; exact tLp_go hq0_cut_13 (by omega) (by omega) (by rw [← hC]; exact sf_e (y := x_34) (by omega) (by omega) (by omega) ex_37) (Or.inl ((sf_e (y := x_34) (by omega) (by omega) (by omega) ex_37).symm.trans bz_28)) (oX.ty XS_15 (oX.ty XS_7 to)) (oX.ty XS_15 (oX.ty XS_7 tcd)) XS_40 (by omega) (by have g := hx_53; rw [tX_C XS_40 (oX.ty XS_15 (oX.ty XS_7 to)) (oX.ty XS_15 (oX.ty XS_7 trw)) (by decide +kernel) (by decide +kernel), hC] at g; exact g) XS_63 (oX.ty XS_52 (oX.ty XS_40 (oX.ty XS_15 (oX.ty XS_7 to)))) (by omega) (by omega) hx_64) hIS_63 (oX.st (oX.st (oX.st (oX.st oX.rf XS_15 (by decide +kernel)) XS_40 (by decide +kernel)) XS_52 (by decide +kernel)) XS_63 (by decide +kernel)) hP hD hS pk_67 pk_68 (lv_sub hl [0, 2, 3] rfl)
          · have dc_27 := c_eq (a := r_24.toInt) (b := 0) rfl (by decide +kernel) c_27
            have bz_70 := bz0 hx_26 c_27
            refine lv_aload_n hx hb dX8_parseSum_29 rfl (lv_at hl 1 rfl) ?_
            refine lv_bipush (v := 45) hx hb dX8_parseSum_30 (by decide +kernel) ?_
            have hFc : ∀ q, va_A [] H.size q → A q := pu_free hS hA
            refine va_calli (va_runV (As := [.int 45]) (rest := []) ⟨hx, hb, hml, hown, hts⟩ (c_X8_sees_f l dC dI H.size cq S_15 hIS_15 o t_19 45 rw pk_16 (by decide +kernel)) (cwV 1 hts gX8_parseSum_X8_sees rfl rfl rfl (by decide +kernel) ⟨(Nat.le_of_ble_eq_true rfl), (Nat.le_of_ble_eq_true rfl)⟩) (pr_V (r := (RX8, TX8, 6)) hP hK hD q_20 8 rfl hq_20) rfl rfl hl.1 rfl (lv_room (Nat.le_of_ble_eq_true rfl)) dX8_parseSum_32 ⟨(Nat.le_of_ble_eq_true rfl), (Nat.le_of_ble_eq_true rfl)⟩) hS (fun q _ h => hFc q h) hFc (fun r_72 u t H locs ht hvm w_71 hB hz1 hk1 hS => ?_)
            have hP := pu_keep hP hk1
            clear hk1 hz1 hvm hB ht hFc
            obtain ⟨hb_73, hx_74⟩ := w_71
            refine lv_if_eq (tgt := 74) hx hb dX8_parseSum_35 (by decide +kernel) (fun c_75 => ?_) (fun c_75 => ?_)
            · have dc_75 := c_eq (a := r_72.toInt) (b := 0) rfl (by decide +kernel) c_75
              have bz_76 := bz0 hx_74 c_75
              exact W.vret hx hb hr (fun t ht hW => ⟨⟨S_15, rfl, ⟨hIS_15, YS_15, (by have hC := tX_C YS_15 to trw (by decide +kernel) (by decide +kernel); exact tLp_n hq0_cut_13 (by rw [← hC]; exact bz_70) (by rw [← hC]; exact bz_76))⟩, ⟨by rw [ht]; exact hP, va_K.moved hW.alike hK, hD⟩⟩, hS.F ht⟩) hS.2.2 dX8_parseSum_74
            · have dc_75 := c_ne (a := r_72.toInt) (b := 0) rfl (by decide +kernel) c_75
              have bz_77 := bz1 hx_74 c_75
              have iv_78 : 0 ≤ (oI S_15 o 4).toInt ∧ (oI S_15 o 4).toInt ≤ 60 := oInv.iv hIS_15 t_19.2 rfl rfl
              have iv_79 : 0 ≤ (oI S_15 o 1).toInt ∧ (oI S_15 o 1).toInt ≤ 60 := oInv.iv hIS_15 t_19.2 rfl rfl
              have lt_80 := sf_lt (by decide +kernel) bz_77 (by omega)
              have iv_81 : 0 ≤ (oI S_15 o 3).toInt ∧ (oI S_15 o 3).toInt ≤ 60 := oInv.iv hIS_15 t_19.2 rfl rfl
              have iv_82 : 0 ≤ (oI S_15 o 4).toInt ∧ (oI S_15 o 4).toInt ≤ 60 := oInv.iv hIS_15 t_19.2 rfl rfl
              have z0 := tN_i Z o
              have z1 := tA_i Z o
              have z2 := tN_i S_15 o
              have z3 := tA_i S_15 o
              have z4 := tLp_m hq0_cut_13 (by omega) (by omega)
              refine lv_aload_n hx hb dX8_parseSum_38 rfl (lv_at hl 1 rfl) ?_
              refine va_get (D := (dC, dI)) (ci := 8) (v := .ref rw) (C := RX8) (T := TX8) (N := 6) hx hb hts in_wsX8_parseSum_X8 hown hK hP q_20 hq_20 rfl 0 (by decide +kernel) (hts (.fieldLink RX8 9 "ShipOffice$Tape" "bytes" "[I") iw_X8_parseSum_2) (fun _ h9 => h9) (o_rd pk_16) dX8_parseSum_39 ?_
              refine lv_aload_n hx hb dX8_parseSum_42 rfl (lv_at hl 1 rfl) ?_
              refine va_get (D := (dC, dI)) (ci := 8) (v := .int (oI S_15 o 4)) (C := RX8) (T := TX8) (N := 6) hx hb hts in_wsX8_parseSum_X8 hown hK hP q_20 hq_20 rfl 4 (by decide +kernel) (hts (.fieldLink RX8 22 "ShipOffice$Tape" "at" "I") iw_X8_parseSum_3) (fun _ h9 => h9) rfl dX8_parseSum_43 ?_
              refine lv_topi (fun x_83 ex_83 => ?_)
              have hx_83 : 0 ≤ x_83.toInt ∧ x_83.toInt ≤ 60 := iv_of ex_83 (oInv.iv hIS_15 t_19.2 rfl rfl)
              have gx_83 : x_83.toInt = (oI S_15 o 4).toInt := iv_to ex_83
              clear ex_83
              have t_84 : oty S_15 rw 160 := (oX.ty XS_15 (oX.ty XS_7 trw))
              obtain ⟨q_85, hq_85⟩ := og (cq := cq) t_84.1 (oE_a1 (n := 60) t_84.2 (by decide +kernel))
              refine va_iald hx hb hK hP q_85 0 hq_85 rfl (vp_in_iff.mpr (by omega)) dX8_parseSum_46 ?_
              refine lv_topi (fun x_86 ex_86 => ?_)
              refine lv_istore_n (lv' := [(3, .int x_86), (2, .int y_14), (0, .ref o), (1, .int x1)]) hx hb dX8_parseSum_47 rfl hl (by decide +kernel) rfl (fun ls hl => ?_)
              refine lv_aload_n hx hb dX8_parseSum_48 rfl (lv_at hl 2 rfl) ?_
              refine lv_dup hx hb dX8_parseSum_49 rfl ?_
              refine va_get (D := (dC, dI)) (ci := 8) (v := .int (oI S_15 o 4)) (C := RX8) (T := TX8) (N := 6) hx hb hts in_wsX8_parseSum_X8 hown hK hP q_20 hq_20 rfl 4 (by decide +kernel) (hts (.fieldLink RX8 22 "ShipOffice$Tape" "at" "I") iw_X8_parseSum_3) (fun _ h9 => h9) rfl dX8_parseSum_50 ?_
              refine lv_topi (fun x_87 ex_87 => ?_)
              have hx_87 : 0 ≤ x_87.toInt ∧ x_87.toInt ≤ 60 := iv_of ex_87 (oInv.iv hIS_15 t_19.2 rfl rfl)
              have gx_87 : x_87.toInt = (oI S_15 o 4).toInt := iv_to ex_87
              clear ex_87
              refine lv_iconst (v := 1) hx hb dX8_parseSum_53 (by decide +kernel) ?_
              refine lv_iadd hx hb dX8_parseSum_54 ?_
              refine lv_topi (fun x_88 ex_88 => ?_)
              have hx_88 : x_88.toInt = x_87.toInt + 1 := (iv_to ex_88).trans (ad_i rfl (by decide +kernel) (by omega) (by omega))
              refine va_put (D := (dC, dI)) (ci := 8) (v := .int x_88) (ty := .int) (C := RX8) (T := TX8) (N := 6) hx hb hts in_wsX8_parseSum_X8 tyX8 tyX8_ok nmX8 hown hK hP hD hS q_20 hq_20 rfl 4 (by decide +kernel) (hts (.fieldLink RX8 22 "ShipOffice$Tape" "at" "I") iw_X8_parseSum_3) (fun _ h9 => h9) rfl (by decide +kernel) rfl rfl (Nat.le_of_ble_eq_true rfl) dX8_parseSum_55 (fun H locs hP1 hD1 hS => ?_)
              obtain ⟨S_89, eS_89⟩ : ∃ zq, zq = setI S_15 o 4 x_88 := ⟨_, rfl⟩
              have hP : va_P (dC, dI) vwCl (oW cq S_89) H := by rw [eS_89]; exact cP (oset t_19.1 hq_20 hD rfl (he_8_4 t_19.2) neI) hP1
              have hD : va_D A (oW cq S_89) := by rw [eS_89]; exact cD (oset t_19.1 hq_20 hD rfl (he_8_4 t_19.2) neI) hD1
              clear hP1 hD1
              have hIS_89 : oInv S_89 := by rw [eS_89]; exact oInv.I0 (k := 8) (lo := 0) (hi := 60) hIS_15 t_19.2 (by decide +kernel) rfl rfl rfl (by omega)
              have XS_89 : oX [804] S_15 S_89 := by rw [eS_89]; exact oX.I (k := 8) (key := 804) t_19.2 rfl (List.mem_singleton.mpr rfl)
              have pk_90 : oP S_89 o 0 = some rw := by rw [eS_89]; exact pk_16
              have pk_91 : oP S_89 o 2 = some cd := by rw [eS_89]; exact pk_17
              have X_92 : oX [803, 804, 805, 2063] Z S_89 := oX.st YS_15 XS_89 (by decide +kernel)
              have g_93 : (oI S_89 o 1).toInt = (oI S_15 o 1).toInt := by rw [eS_89, setI_ne (by decide +kernel)]
              have g_94 : (oI S_89 o 3).toInt = (oI S_15 o 3).toInt := by rw [eS_89, setI_ne (by decide +kernel)]
              have g_95 : (oI S_89 o 4).toInt = x_88.toInt := by rw [eS_89, setI_same]
              have g_96 : (oI S_89 o 5).toInt = (oI S_15 o 5).toInt := by rw [eS_89, setI_ne (by decide +kernel)]
              have hkx_86 : x_86.toInt = 45 := by rw [(sf_e (y := x_83) (by omega) (by omega) (by omega) ex_86).symm.trans bz_77]; decide
              refine lv_aload_n hx hb dX8_parseSum_58 rfl (lv_at hl 2 rfl) ?_
              refine lv_iload_n hx hb dX8_parseSum_59 rfl (lv_at hl 3 rfl) ?_
              have t_97 : oty S_89 o 8 := (oX.ty XS_89 t_19)
              have hFc := o_free hD hS hA
              obtain ⟨q_98, hq_98⟩ := og (cq := cq) t_97.1 (oE_8 t_97.2)
              refine va_callv (va_runV (As := [.int x1]) (rest := []) ⟨hx, hb, hml, hown, hts⟩ (c_X8_parseTerm_2f l dC dI H.size tL tS tG cq S_89 hIS_89 o t_97 x1 (by omega) rw pk_90 cd pk_91 (by omega) (by omega)) (cwV 1 hts gX8_parseSum_X8_parseTerm rfl rfl rfl (by decide +kernel) ⟨(Nat.le_of_ble_eq_true rfl), (Nat.le_of_ble_eq_true rfl)⟩) (pr_VO (r := (RX8, TX8, 6)) hP hK hD q_98 8 rfl hq_98 (hZ.go hS hFc)) rfl rfl hl.1 rfl (lv_room (Nat.le_of_ble_eq_true rfl)) dX8_parseSum_60 ⟨(Nat.le_of_ble_eq_true rfl), (Nat.le_of_ble_eq_true rfl)⟩) hS (fun q _ h => hFc q h) hFc (fun u t H locs ht hvm w_99 hB hz1 hk1 hS => ?_)
              obtain ⟨S_101, rfl⟩ : ∃ z, z = u := ⟨_, rfl⟩
              obtain ⟨hP1, hK1, hD1⟩ := hB
              rw [ht] at hP1
              have hP : va_P (dC, dI) vwCl (oW cq S_101) H := hP1
              have hD : va_D A (oW cq S_101) := hD1.weaken (fun _ _ _ h => hFc _ h)
              clear hP1 hK1 hD1 hk1 hz1 hvm ht hFc
              obtain ⟨hIS_101, XS_101, hx_102⟩ := w_99
              have X_103 : oX [803, 804, 805, 2063] Z S_101 := oX.st X_92 XS_101 (by decide +kernel)
              have g_104 : (oI S_101 o 1).toInt = (oI S_89 o 1).toInt := by rw [oX.i XS_101 t_97 (by decide +kernel)]
              have pk_105 : oP S_101 o 0 = some rw := by rw [oX.p XS_101 t_97 (by decide +kernel)]; exact pk_90
              have pk_106 : oP S_101 o 2 = some cd := by rw [oX.p XS_101 t_97 (by decide +kernel)]; exact pk_91
              have t_108 : oty S_101 o 8 := (oX.ty XS_101 t_97)
              have iv_107 : 0 ≤ (oI S_101 o 4).toInt ∧ (oI S_101 o 4).toInt ≤ 60 := oInv.iv hIS_101 t_108.2 rfl rfl
              refine lv_aload_n hx hb dX8_parseSum_63 rfl (lv_at hl 2 rfl) ?_
              refine lv_iload_n hx hb dX8_parseSum_64 rfl (lv_at hl 0 rfl) ?_
              have hFc := o_free hD hS hA
              obtain ⟨q_109, hq_109⟩ := og (cq := cq) t_108.1 (oE_8 t_108.2)
              refine va_callv (va_runV (As := [.int x_86]) (rest := []) ⟨hx, hb, hml, hown, hts⟩ (c_X8_emitSign_f l dC dI H.size tL tS tG cq S_101 hIS_101 o t_108 x_86 cd pk_106 (by omega)) (cwV 1 hts gX8_parseSum_X8_emitSign rfl rfl rfl (by decide +kernel) ⟨(Nat.le_of_ble_eq_true rfl), (Nat.le_of_ble_eq_true rfl)⟩) (pr_VO (r := (RX8, TX8, 6)) hP hK hD q_109 8 rfl hq_109 (hZ.go hS hFc)) rfl rfl hl.1 rfl (lv_room (Nat.le_of_ble_eq_true rfl)) dX8_parseSum_65 ⟨(Nat.le_of_ble_eq_true rfl), (Nat.le_of_ble_eq_true rfl)⟩) hS (fun q _ h => hFc q h) hFc (fun u t H locs ht hvm w_110 hB hz1 hk1 hS => ?_)
              obtain ⟨S_112, rfl⟩ : ∃ z, z = u := ⟨_, rfl⟩
              obtain ⟨hP1, hK1, hD1⟩ := hB
              rw [ht] at hP1
              have hP : va_P (dC, dI) vwCl (oW cq S_112) H := hP1
              have hD : va_D A (oW cq S_112) := hD1.weaken (fun _ _ _ h => hFc _ h)
              clear hP1 hK1 hD1 hk1 hz1 hvm ht hFc
              obtain ⟨hIS_112, XS_112, hx_113⟩ := w_110
              have X_114 : oX [803, 804, 805, 2063] Z S_112 := oX.st X_103 XS_112 (by decide +kernel)
              have g_115 : (oI S_112 o 1).toInt = (oI S_101 o 1).toInt := by rw [oX.i XS_112 t_108 (by decide +kernel)]
              have pk_116 : oP S_112 o 0 = some rw := by rw [oX.p XS_112 t_108 (by decide +kernel)]; exact pk_105
              have pk_117 : oP S_112 o 2 = some cd := by rw [oX.p XS_112 t_108 (by decide +kernel)]; exact pk_106
              obtain ⟨x_118, ex_118⟩ : ∃ zq : Int32, y_14 + 1 = zq := ⟨_, rfl⟩
              have hx_118 : x_118.toInt = y_14.toInt + 1 := (iv_to ex_118).symm.trans (ad_i rfl (by decide +kernel) (by omega) (by omega))
              refine lv_iinc (v := x_118) (lv' := [(2, .int x_118), (3, .int x_86), (0, .ref o), (1, .int x1)]) hx hb dX8_parseSum_68 hl (k := 1) rfl ex_118 (by decide +kernel) rfl (fun ls hl => ?_)
              clear ex_118
              refine lv_goto (tgt := 7) hx hb dX8_parseSum_71 (by decide +kernel) ?_
              exact ih (n - 1) (by omega) x_118 S_112 _ _ ls (by omega) (by omega) (by have hC := tX_C YS_15 to trw (by decide +kernel) (by decide +kernel); have a0 := tA_i Z o; have a1 := tA_i S_15 o; have a2 := tA_i S_89 o; have a3 := tA_i S_101 o; have n0 := tN_i Z o; exact tLp_go hq0_cut_13 (by omega) (by omega) (by rw [← hC]; exact sf_e (y := x_83) (by omega) (by omega) (by omega) ex_86) (Or.inr ((sf_e (y := x_83) (by omega) (by omega) (by omega) ex_86).symm.trans bz_77)) (oX.ty XS_15 (oX.ty XS_7 to)) (oX.ty XS_15 (oX.ty XS_7 tcd)) XS_89 (by omega) (by have g := hx_102; rw [tX_C XS_89 (oX.ty XS_15 (oX.ty XS_7 to)) (oX.ty XS_15 (oX.ty XS_7 trw)) (by decide +kernel) (by decide +kernel), hC] at g; exact g) XS_112 (oX.ty XS_101 (oX.ty XS_89 (oX.ty XS_15 (oX.ty XS_7 to)))) (by omega) (by omega) hx_113) hIS_112 (oX.st (oX.st (oX.st (oX.st oX.rf XS_15 (by decide +kernel)) XS_89 (by decide +kernel)) XS_101 (by decide +kernel)) XS_112 (by decide +kernel)) hP hD hS pk_116 pk_117 (lv_sub hl [0, 2, 3] rfl)
  have kc_119 : (0 : Int32).toInt = 0 := by decide
  exact cut_13 61 0 S_7 _ _ ls (by omega) (by decide +kernel) ⟨_, by rw [show (60 - (0 : Int32).toInt).toNat = 60 by decide]; rfl, hx_8⟩ hIS_7 oX.rf hP hD hS pk_11 pk_12 (lv_sub hl [0, 1, 2] rfl)
set_option maxHeartbeats 4000000 in
set_option maxRecDepth 100000 in
theorem c_X8_parseBracket_2f (l : Launch) (dC : Nat → ClassId) (dI : Nat → Nat → Nat) (sz : Nat) (tL tS tG : Nat) (cq : Nat → ClassId) (Z : oS) (gI : oInv Z) (o : Nat) (to : oty Z o 8) (x1 : Int32) (hx1 : 2 ≤ x1.toInt ∧ x1.toInt ≤ 2) (rw : Nat) (hrw : oP Z o 0 = some rw) (cd : Nat) (hcd : oP Z o 2 = some cd) (hft : (oI Z o 5).toInt = -1) (hcz : (oI Z o 3).toInt ≤ (oI Z o 4).toInt) : Met l yX8_parseBracket wsX8_parseBracket ({ frames := 17, cells := 0, slots := 0, locals := 381 }) (va_Pc [.ref o, .int x1] (pcO (dC, dI) (oT cq) (oW cq Z) sz tL tS tG (oW cq Z))) (va_Qv (fun (u : oS) => oInv u ∧ oX [803, 804, 805, 2063] Z u ∧ (tR Z u o cd (pB (cS (tC Z o rw) 3) (tC Z o rw) cop [] (tA Z o)))) (fun u t => va_P (dC, dI) vwCl (oW cq u) t.heap ∧ va_K (dC, dI) vwCl (oT cq) t ∧ va_D (va_A (oW cq Z) sz) (oW cq u)) (va_A (oW cq Z) sz)) 0 0 (va_A (oW cq Z) sz) := by
  refine Met.ofW (cc := cX8_parseBracket) (maxL := 3) (ret := none) (by decide +kernel) rfl ?_
  intro p e s m args below meth c s₁ B hml hv
  obtain ⟨rfl, ⟨hsz, hP, hK, hD0⟩, hZ⟩ := hv
  have hx := B.exec
  have hb := B.bytes
  have hr := B.returns
  have hts := atoms_spec (ws := wsX8_parseBracket) B.pre
  have hown : s.vm.findClass RX8 = some m.cls := findClass_of_methodNamed B.named
  have hlocks := B.notSynchronized
  subst hsz
  have hD := hD0.self (sz := s.heap.size)
  generalize hAe : va_A (oW cq Z) s.heap.size = A at hD hZ ⊢
  have hA : ∀ q : Nat, s.heap.size ≤ q → A q := fun q h => by rw [← hAe]; exact Or.inr h
  have hS : va_S A s.heap s.heap [] := va_S.rf
  have hP : va_P (dC, dI) vwCl (oW cq Z) s.heap := hP
  have hl := lv_entry ([.ref o, .int x1]) (n := 3) (Nat.le_of_ble_eq_true rfl)
  rw [lg_entry_eq]
  generalize (lg_sl ([.ref o, .int x1]) ++ List.replicate (3 - (lg_sl ([.ref o, .int x1])).length) Slot.unset).toArray = ls at hl ⊢
  have hl : lv_has ls 3 [(0, .ref o), (1, .int x1)] := hl
  have trw : oty Z rw 160 := oInv.rd gI to.2 hrw rfl rfl
  have tcd : oty Z cd 63 := oInv.rd gI to.2 hcd rfl rfl
  have iv_1 : 0 ≤ (oI Z o 1).toInt ∧ (oI Z o 1).toInt ≤ 60 := oInv.iv gI to.2 rfl rfl
  have iv_2 : 0 ≤ (oI Z o 3).toInt ∧ (oI Z o 3).toInt ≤ 60 := oInv.iv gI to.2 rfl rfl
  have iv_3 : 0 ≤ (oI Z o 4).toInt ∧ (oI Z o 4).toInt ≤ 60 := oInv.iv gI to.2 rfl rfl
  refine lv_aload_n hx hb dX8_parseBracket_0 rfl (lv_at hl 0 rfl) ?_
  refine lv_iload_n hx hb dX8_parseBracket_1 rfl (lv_at hl 1 rfl) ?_
  have hFc := o_free hD hS hA
  obtain ⟨q_4, hq_4⟩ := og (cq := cq) to.1 (oE_8 to.2)
  refine va_callv (va_runV (As := [.int x1]) (rest := []) ⟨hx, hb, hml, hown, hts⟩ (c_X8_parseSum_2f l dC dI s.heap.size tL tS tG cq Z gI o to x1 (by omega) rw hrw cd hcd (by omega) (by omega)) (cwV 1 hts gX8_parseBracket_X8_parseSum rfl rfl rfl (by decide +kernel) ⟨(Nat.le_of_ble_eq_true rfl), (Nat.le_of_ble_eq_true rfl)⟩) (pr_VO (r := (RX8, TX8, 6)) hP hK hD q_4 8 rfl hq_4 (hZ.go hS hFc)) rfl rfl hl.1 rfl (lv_room (Nat.le_of_ble_eq_true rfl)) dX8_parseBracket_2 ⟨(Nat.le_of_ble_eq_true rfl), (Nat.le_of_ble_eq_true rfl)⟩) hS (fun q _ h => hFc q h) hFc (fun u t H locs ht hvm w_5 hB hz1 hk1 hS => ?_)
  obtain ⟨S_7, rfl⟩ : ∃ z, z = u := ⟨_, rfl⟩
  obtain ⟨hP1, hK1, hD1⟩ := hB
  rw [ht] at hP1
  have hP : va_P (dC, dI) vwCl (oW cq S_7) H := hP1
  have hD : va_D A (oW cq S_7) := hD1.weaken (fun _ _ _ h => hFc _ h)
  clear hP1 hK1 hD1 hk1 hz1 hvm ht hFc
  obtain ⟨hIS_7, XS_7, hx_8⟩ := w_5
  have X_9 : oX [803, 804, 805, 2063] Z S_7 := oX.st oX.rf XS_7 (by decide +kernel)
  have g_10 : (oI S_7 o 1).toInt = (oI Z o 1).toInt := by rw [oX.i XS_7 to (by decide +kernel)]
  have pk_11 : oP S_7 o 0 = some rw := by rw [oX.p XS_7 to (by decide +kernel)]; exact hrw
  have pk_12 : oP S_7 o 2 = some cd := by rw [oX.p XS_7 to (by decide +kernel)]; exact hcd
  refine lv_aload_n hx hb dX8_parseBracket_5 rfl (lv_at hl 0 rfl) ?_
  have t_13 : oty S_7 o 8 := (oX.ty XS_7 to)
  obtain ⟨q_14, hq_14⟩ := og (cq := cq) t_13.1 (oE_8 t_13.2)
  refine va_get (D := (dC, dI)) (ci := 8) (v := .int (oI S_7 o 5)) (C := RX8) (T := TX8) (N := 6) hx hb hts in_wsX8_parseBracket_X8 hown hK hP q_14 hq_14 rfl 5 (by decide +kernel) (hts (.fieldLink RX8 28 "ShipOffice$Tape" "fault" "I") iw_X8_parseBracket_1) (fun _ h9 => h9) rfl dX8_parseBracket_6 ?_
  refine lv_topi (fun x_15 ex_15 => ?_)
  have gx_15 : x_15.toInt = (oI S_7 o 5).toInt := iv_to ex_15
  clear ex_15
  refine lv_if_ge (tgt := 69) hx hb dX8_parseBracket_9 (by decide +kernel) (fun c_16 => ?_) (fun c_16 => ?_)
  · have dc_16 := c_le (a := 0) (b := x_15.toInt) (by decide +kernel) rfl c_16
    have iv_17 : 0 ≤ (oI S_7 o 4).toInt ∧ (oI S_7 o 4).toInt ≤ 60 := oInv.iv hIS_7 t_13.2 rfl rfl
    refine lv_aload_n hx hb dX8_parseBracket_69 rfl (lv_at hl 0 rfl) ?_
    refine va_get (D := (dC, dI)) (ci := 8) (v := .int (oI S_7 o 5)) (C := RX8) (T := TX8) (N := 6) hx hb hts in_wsX8_parseBracket_X8 hown hK hP q_14 hq_14 rfl 5 (by decide +kernel) (hts (.fieldLink RX8 28 "ShipOffice$Tape" "fault" "I") iw_X8_parseBracket_1) (fun _ h9 => h9) rfl dX8_parseBracket_70 ?_
    refine lv_topi (fun x_18 ex_18 => ?_)
    have gx_18 : x_18.toInt = (oI S_7 o 5).toInt := iv_to ex_18
    clear ex_18
    refine lv_if_ge (tgt := 98) hx hb dX8_parseBracket_73 (by decide +kernel) (fun c_19 => ?_) (fun c_19 => ?_)
    · have dc_19 := c_le (a := 0) (b := x_18.toInt) (by decide +kernel) rfl c_19
      refine lv_aload_n hx hb dX8_parseBracket_98 rfl (lv_at hl 0 rfl) ?_
      refine va_get (D := (dC, dI)) (ci := 8) (v := .int (oI S_7 o 5)) (C := RX8) (T := TX8) (N := 6) hx hb hts in_wsX8_parseBracket_X8 hown hK hP q_14 hq_14 rfl 5 (by decide +kernel) (hts (.fieldLink RX8 28 "ShipOffice$Tape" "fault" "I") iw_X8_parseBracket_1) (fun _ h9 => h9) rfl dX8_parseBracket_99 ?_
      refine lv_topi (fun x_20 ex_20 => ?_)
      have gx_20 : x_20.toInt = (oI S_7 o 5).toInt := iv_to ex_20
      clear ex_20
      refine lv_if_ge (tgt := 113) hx hb dX8_parseBracket_102 (by decide +kernel) (fun c_21 => ?_) (fun c_21 => ?_)
      · have dc_21 := c_le (a := 0) (b := x_20.toInt) (by decide +kernel) rfl c_21
        exact W.vret hx hb hr (fun t ht hW => ⟨⟨S_7, rfl, ⟨hIS_7, X_9, (tB_0 hx_8 (by omega))⟩, ⟨by rw [ht]; exact hP, va_K.moved hW.alike hK, hD⟩⟩, hS.F ht⟩) hS.2.2 dX8_parseBracket_113
      · have dc_21 := c_nle (a := 0) (b := x_20.toInt) (by decide +kernel) rfl c_21
        exfalso; omega
    · have dc_19 := c_nle (a := 0) (b := x_18.toInt) (by decide +kernel) rfl c_19
      exfalso; omega
  · have dc_16 := c_nle (a := 0) (b := x_15.toInt) (by decide +kernel) rfl c_16
    refine lv_aload_n hx hb dX8_parseBracket_12 rfl (lv_at hl 0 rfl) ?_
    refine lv_bipush (v := 60) hx hb dX8_parseBracket_13 (by decide +kernel) ?_
    have hFc : ∀ q, va_A [] H.size q → A q := pu_free hS hA
    refine va_calli (va_runV (As := [.int 60]) (rest := []) ⟨hx, hb, hml, hown, hts⟩ (c_X8_sees_f l dC dI H.size cq S_7 hIS_7 o t_13 60 rw pk_11 (by decide +kernel)) (cwV 1 hts gX8_parseBracket_X8_sees rfl rfl rfl (by decide +kernel) ⟨(Nat.le_of_ble_eq_true rfl), (Nat.le_of_ble_eq_true rfl)⟩) (pr_V (r := (RX8, TX8, 6)) hP hK hD q_14 8 rfl hq_14) rfl rfl hl.1 rfl (lv_room (Nat.le_of_ble_eq_true rfl)) dX8_parseBracket_15 ⟨(Nat.le_of_ble_eq_true rfl), (Nat.le_of_ble_eq_true rfl)⟩) hS (fun q _ h => hFc q h) hFc (fun r_23 u t H locs ht hvm w_22 hB hz1 hk1 hS => ?_)
    have hP := pu_keep hP hk1
    clear hk1 hz1 hvm hB ht hFc
    obtain ⟨hb_24, hx_25⟩ := w_22
    refine lv_if_ne (tgt := 39) hx hb dX8_parseBracket_18 (by decide +kernel) (fun c_26 => ?_) (fun c_26 => ?_)
    · have dc_26 := c_ne (a := r_23.toInt) (b := 0) rfl (by decide +kernel) c_26
      have bz_27 := bz1 hx_25 c_26
      have iv_28 : 0 ≤ (oI S_7 o 4).toInt ∧ (oI S_7 o 4).toInt ≤ 60 := oInv.iv hIS_7 t_13.2 rfl rfl
      have iv_29 : 0 ≤ (oI S_7 o 1).toInt ∧ (oI S_7 o 1).toInt ≤ 60 := oInv.iv hIS_7 t_13.2 rfl rfl
      have lt_30 := sf_lt (by decide +kernel) bz_27 (by omega)
      have iv_31 : 0 ≤ (oI S_7 o 3).toInt ∧ (oI S_7 o 3).toInt ≤ 60 := oInv.iv hIS_7 t_13.2 rfl rfl
      have iv_32 : 0 ≤ (oI S_7 o 4).toInt ∧ (oI S_7 o 4).toInt ≤ 60 := oInv.iv hIS_7 t_13.2 rfl rfl
      have z0 := tN_i Z o
      have z1 := tA_i Z o
      have z2 := tN_i S_7 o
      have z3 := tA_i S_7 o
      have z4 := tR_m hx_8 (by omega) (by omega)
      refine lv_aload_n hx hb dX8_parseBracket_39 rfl (lv_at hl 0 rfl) ?_
      refine va_get (D := (dC, dI)) (ci := 8) (v := .ref rw) (C := RX8) (T := TX8) (N := 6) hx hb hts in_wsX8_parseBracket_X8 hown hK hP q_14 hq_14 rfl 0 (by decide +kernel) (hts (.fieldLink RX8 9 "ShipOffice$Tape" "bytes" "[I") iw_X8_parseBracket_3) (fun _ h9 => h9) (o_rd pk_11) dX8_parseBracket_40 ?_
      refine lv_aload_n hx hb dX8_parseBracket_43 rfl (lv_at hl 0 rfl) ?_
      refine va_get (D := (dC, dI)) (ci := 8) (v := .int (oI S_7 o 4)) (C := RX8) (T := TX8) (N := 6) hx hb hts in_wsX8_parseBracket_X8 hown hK hP q_14 hq_14 rfl 4 (by decide +kernel) (hts (.fieldLink RX8 22 "ShipOffice$Tape" "at" "I") iw_X8_parseBracket_2) (fun _ h9 => h9) rfl dX8_parseBracket_44 ?_
      refine lv_topi (fun x_33 ex_33 => ?_)
      have hx_33 : 0 ≤ x_33.toInt ∧ x_33.toInt ≤ 60 := iv_of ex_33 (oInv.iv hIS_7 t_13.2 rfl rfl)
      have gx_33 : x_33.toInt = (oI S_7 o 4).toInt := iv_to ex_33
      clear ex_33
      have t_34 : oty S_7 rw 160 := (oX.ty XS_7 trw)
      obtain ⟨q_35, hq_35⟩ := og (cq := cq) t_34.1 (oE_a1 (n := 60) t_34.2 (by decide +kernel))
      refine va_iald hx hb hK hP q_35 0 hq_35 rfl (vp_in_iff.mpr (by omega)) dX8_parseBracket_47 ?_
      refine lv_topi (fun x_36 ex_36 => ?_)
      refine lv_istore_n (lv' := [(2, .int x_36), (0, .ref o), (1, .int x1)]) hx hb dX8_parseBracket_48 rfl hl (by decide +kernel) rfl (fun ls hl => ?_)
      refine lv_aload_n hx hb dX8_parseBracket_49 rfl (lv_at hl 1 rfl) ?_
      refine lv_dup hx hb dX8_parseBracket_50 rfl ?_
      refine va_get (D := (dC, dI)) (ci := 8) (v := .int (oI S_7 o 4)) (C := RX8) (T := TX8) (N := 6) hx hb hts in_wsX8_parseBracket_X8 hown hK hP q_14 hq_14 rfl 4 (by decide +kernel) (hts (.fieldLink RX8 22 "ShipOffice$Tape" "at" "I") iw_X8_parseBracket_2) (fun _ h9 => h9) rfl dX8_parseBracket_51 ?_
      refine lv_topi (fun x_37 ex_37 => ?_)
      have hx_37 : 0 ≤ x_37.toInt ∧ x_37.toInt ≤ 60 := iv_of ex_37 (oInv.iv hIS_7 t_13.2 rfl rfl)
      have gx_37 : x_37.toInt = (oI S_7 o 4).toInt := iv_to ex_37
      clear ex_37
      refine lv_iconst (v := 1) hx hb dX8_parseBracket_54 (by decide +kernel) ?_
      refine lv_iadd hx hb dX8_parseBracket_55 ?_
      refine lv_topi (fun x_38 ex_38 => ?_)
      have hx_38 : x_38.toInt = x_37.toInt + 1 := (iv_to ex_38).trans (ad_i rfl (by decide +kernel) (by omega) (by omega))
      refine va_put (D := (dC, dI)) (ci := 8) (v := .int x_38) (ty := .int) (C := RX8) (T := TX8) (N := 6) hx hb hts in_wsX8_parseBracket_X8 tyX8 tyX8_ok nmX8 hown hK hP hD hS q_14 hq_14 rfl 4 (by decide +kernel) (hts (.fieldLink RX8 22 "ShipOffice$Tape" "at" "I") iw_X8_parseBracket_2) (fun _ h9 => h9) rfl (by decide +kernel) rfl rfl (Nat.le_of_ble_eq_true rfl) dX8_parseBracket_56 (fun H locs hP1 hD1 hS => ?_)
      obtain ⟨S_39, eS_39⟩ : ∃ zq, zq = setI S_7 o 4 x_38 := ⟨_, rfl⟩
      have hP : va_P (dC, dI) vwCl (oW cq S_39) H := by rw [eS_39]; exact cP (oset t_13.1 hq_14 hD rfl (he_8_4 t_13.2) neI) hP1
      have hD : va_D A (oW cq S_39) := by rw [eS_39]; exact cD (oset t_13.1 hq_14 hD rfl (he_8_4 t_13.2) neI) hD1
      clear hP1 hD1
      have hIS_39 : oInv S_39 := by rw [eS_39]; exact oInv.I0 (k := 8) (lo := 0) (hi := 60) hIS_7 t_13.2 (by decide +kernel) rfl rfl rfl (by omega)
      have XS_39 : oX [804] S_7 S_39 := by rw [eS_39]; exact oX.I (k := 8) (key := 804) t_13.2 rfl (List.mem_singleton.mpr rfl)
      have pk_40 : oP S_39 o 0 = some rw := by rw [eS_39]; exact pk_11
      have pk_41 : oP S_39 o 2 = some cd := by rw [eS_39]; exact pk_12
      have X_42 : oX [803, 804, 805, 2063] Z S_39 := oX.st X_9 XS_39 (by decide +kernel)
      have g_43 : (oI S_39 o 1).toInt = (oI S_7 o 1).toInt := by rw [eS_39, setI_ne (by decide +kernel)]
      have g_44 : (oI S_39 o 3).toInt = (oI S_7 o 3).toInt := by rw [eS_39, setI_ne (by decide +kernel)]
      have g_45 : (oI S_39 o 4).toInt = x_38.toInt := by rw [eS_39, setI_same]
      have g_46 : (oI S_39 o 5).toInt = (oI S_7 o 5).toInt := by rw [eS_39, setI_ne (by decide +kernel)]
      have hkx_36 : x_36.toInt = 60 := by rw [(sf_e (y := x_33) (by omega) (by omega) (by omega) ex_36).symm.trans bz_27]; decide
      refine lv_aload_n hx hb dX8_parseBracket_59 rfl (lv_at hl 1 rfl) ?_
      refine lv_iload_n hx hb dX8_parseBracket_60 rfl (lv_at hl 2 rfl) ?_
      have t_47 : oty S_39 o 8 := (oX.ty XS_39 t_13)
      have hFc := o_free hD hS hA
      obtain ⟨q_48, hq_48⟩ := og (cq := cq) t_47.1 (oE_8 t_47.2)
      refine va_callv (va_runV (As := [.int x1]) (rest := []) ⟨hx, hb, hml, hown, hts⟩ (c_X8_parseSum_2f l dC dI H.size tL tS tG cq S_39 hIS_39 o t_47 x1 (by omega) rw pk_40 cd pk_41 (by omega) (by omega)) (cwV 1 hts gX8_parseBracket_X8_parseSum rfl rfl rfl (by decide +kernel) ⟨(Nat.le_of_ble_eq_true rfl), (Nat.le_of_ble_eq_true rfl)⟩) (pr_VO (r := (RX8, TX8, 6)) hP hK hD q_48 8 rfl hq_48 (hZ.go hS hFc)) rfl rfl hl.1 rfl (lv_room (Nat.le_of_ble_eq_true rfl)) dX8_parseBracket_61 ⟨(Nat.le_of_ble_eq_true rfl), (Nat.le_of_ble_eq_true rfl)⟩) hS (fun q _ h => hFc q h) hFc (fun u t H locs ht hvm w_49 hB hz1 hk1 hS => ?_)
      obtain ⟨S_51, rfl⟩ : ∃ z, z = u := ⟨_, rfl⟩
      obtain ⟨hP1, hK1, hD1⟩ := hB
      rw [ht] at hP1
      have hP : va_P (dC, dI) vwCl (oW cq S_51) H := hP1
      have hD : va_D A (oW cq S_51) := hD1.weaken (fun _ _ _ h => hFc _ h)
      clear hP1 hK1 hD1 hk1 hz1 hvm ht hFc
      obtain ⟨hIS_51, XS_51, hx_52⟩ := w_49
      have X_53 : oX [803, 804, 805, 2063] Z S_51 := oX.st X_42 XS_51 (by decide +kernel)
      have g_54 : (oI S_51 o 1).toInt = (oI S_39 o 1).toInt := by rw [oX.i XS_51 t_47 (by decide +kernel)]
      have pk_55 : oP S_51 o 0 = some rw := by rw [oX.p XS_51 t_47 (by decide +kernel)]; exact pk_40
      have pk_56 : oP S_51 o 2 = some cd := by rw [oX.p XS_51 t_47 (by decide +kernel)]; exact pk_41
      have t_58 : oty S_51 o 8 := (oX.ty XS_51 t_47)
      have iv_57 : 0 ≤ (oI S_51 o 4).toInt ∧ (oI S_51 o 4).toInt ≤ 60 := oInv.iv hIS_51 t_58.2 rfl rfl
      refine lv_aload_n hx hb dX8_parseBracket_64 rfl (lv_at hl 1 rfl) ?_
      refine lv_iload_n hx hb dX8_parseBracket_65 rfl (lv_at hl 0 rfl) ?_
      have hFc := o_free hD hS hA
      obtain ⟨q_59, hq_59⟩ := og (cq := cq) t_58.1 (oE_8 t_58.2)
      refine va_callv (va_runV (As := [.int x_36]) (rest := []) ⟨hx, hb, hml, hown, hts⟩ (c_X8_emitSign_f l dC dI H.size tL tS tG cq S_51 hIS_51 o t_58 x_36 cd pk_56 (by omega)) (cwV 1 hts gX8_parseBracket_X8_emitSign rfl rfl rfl (by decide +kernel) ⟨(Nat.le_of_ble_eq_true rfl), (Nat.le_of_ble_eq_true rfl)⟩) (pr_VO (r := (RX8, TX8, 6)) hP hK hD q_59 8 rfl hq_59 (hZ.go hS hFc)) rfl rfl hl.1 rfl (lv_room (Nat.le_of_ble_eq_true rfl)) dX8_parseBracket_66 ⟨(Nat.le_of_ble_eq_true rfl), (Nat.le_of_ble_eq_true rfl)⟩) hS (fun q _ h => hFc q h) hFc (fun u t H locs ht hvm w_60 hB hz1 hk1 hS => ?_)
      obtain ⟨S_62, rfl⟩ : ∃ z, z = u := ⟨_, rfl⟩
      obtain ⟨hP1, hK1, hD1⟩ := hB
      rw [ht] at hP1
      have hP : va_P (dC, dI) vwCl (oW cq S_62) H := hP1
      have hD : va_D A (oW cq S_62) := hD1.weaken (fun _ _ _ h => hFc _ h)
      clear hP1 hK1 hD1 hk1 hz1 hvm ht hFc
      obtain ⟨hIS_62, XS_62, hx_63⟩ := w_60
      have X_64 : oX [803, 804, 805, 2063] Z S_62 := oX.st X_53 XS_62 (by decide +kernel)
      have g_65 : (oI S_62 o 1).toInt = (oI S_51 o 1).toInt := by rw [oX.i XS_62 t_58 (by decide +kernel)]
      have pk_66 : oP S_62 o 0 = some rw := by rw [oX.p XS_62 t_58 (by decide +kernel)]; exact pk_55
      have pk_67 : oP S_62 o 2 = some cd := by rw [oX.p XS_62 t_58 (by decide +kernel)]; exact pk_56
      have t_69 : oty S_62 o 8 := (oX.ty XS_62 t_58)
      have iv_68 : 0 ≤ (oI S_62 o 4).toInt ∧ (oI S_62 o 4).toInt ≤ 60 := oInv.iv hIS_62 t_69.2 rfl rfl
      refine lv_aload_n hx hb dX8_parseBracket_69 rfl (lv_at hl 1 rfl) ?_
      obtain ⟨q_70, hq_70⟩ := og (cq := cq) t_69.1 (oE_8 t_69.2)
      refine va_get (D := (dC, dI)) (ci := 8) (v := .int (oI S_62 o 5)) (C := RX8) (T := TX8) (N := 6) hx hb hts in_wsX8_parseBracket_X8 hown hK hP q_70 hq_70 rfl 5 (by decide +kernel) (hts (.fieldLink RX8 28 "ShipOffice$Tape" "fault" "I") iw_X8_parseBracket_1) (fun _ h9 => h9) rfl dX8_parseBracket_70 ?_
      refine lv_topi (fun x_71 ex_71 => ?_)
      have gx_71 : x_71.toInt = (oI S_62 o 5).toInt := iv_to ex_71
      clear ex_71
      refine lv_if_ge (tgt := 98) hx hb dX8_parseBracket_73 (by decide +kernel) (fun c_72 => ?_) (fun c_72 => ?_)
      · have dc_72 := c_le (a := 0) (b := x_71.toInt) (by decide +kernel) rfl c_72
        refine lv_aload_n hx hb dX8_parseBracket_98 rfl (lv_at hl 1 rfl) ?_
        refine va_get (D := (dC, dI)) (ci := 8) (v := .int (oI S_62 o 5)) (C := RX8) (T := TX8) (N := 6) hx hb hts in_wsX8_parseBracket_X8 hown hK hP q_70 hq_70 rfl 5 (by decide +kernel) (hts (.fieldLink RX8 28 "ShipOffice$Tape" "fault" "I") iw_X8_parseBracket_1) (fun _ h9 => h9) rfl dX8_parseBracket_99 ?_
        refine lv_topi (fun x_73 ex_73 => ?_)
        have gx_73 : x_73.toInt = (oI S_62 o 5).toInt := iv_to ex_73
        clear ex_73
        refine lv_if_ge (tgt := 113) hx hb dX8_parseBracket_102 (by decide +kernel) (fun c_74 => ?_) (fun c_74 => ?_)
        · have dc_74 := c_le (a := 0) (b := x_73.toInt) (by decide +kernel) rfl c_74
          exact W.vret hx hb hr (fun t ht hW => ⟨⟨S_62, rfl, ⟨hIS_62, X_64, (by have hC := tX_C XS_7 to trw (by decide +kernel) (by decide +kernel); have a0 := tA_i Z o; have a1 := tA_i S_7 o; have a2 := tA_i S_39 o; have a3 := tA_i S_51 o; have n0 := tN_i Z o; have tb := tB_c (C := tC Z o rw) hx_8 (by omega) (by rw [← hC]; exact sf_e (y := x_33) (by omega) (by omega) (by omega) ex_36) (Or.inl ((sf_e (y := x_33) (by omega) (by omega) (by omega) ex_36).symm.trans bz_27)) (oX.ty XS_7 to) (oX.ty XS_7 tcd) XS_39 (by omega) (by have g := hx_52; rw [tX_C XS_39 (oX.ty XS_7 to) (oX.ty XS_7 trw) (by decide +kernel) (by decide +kernel), hC] at g; exact g) XS_62 (oX.ty XS_51 (oX.ty XS_39 (oX.ty XS_7 to))) (by omega) (by omega) hx_63; exact tB_c0 tb (by omega))⟩, ⟨by rw [ht]; exact hP, va_K.moved hW.alike hK, hD⟩⟩, hS.F ht⟩) hS.2.2 dX8_parseBracket_113
        · have dc_74 := c_nle (a := 0) (b := x_73.toInt) (by decide +kernel) rfl c_74
          exfalso; omega
      · have dc_72 := c_nle (a := 0) (b := x_71.toInt) (by decide +kernel) rfl c_72
        refine lv_aload_n hx hb dX8_parseBracket_76 rfl (lv_at hl 1 rfl) ?_
        refine lv_bipush (v := 41) hx hb dX8_parseBracket_77 (by decide +kernel) ?_
        have hFc : ∀ q, va_A [] H.size q → A q := pu_free hS hA
        refine va_calli (va_runV (As := [.int 41]) (rest := []) ⟨hx, hb, hml, hown, hts⟩ (c_X8_sees_f l dC dI H.size cq S_62 hIS_62 o t_69 41 rw pk_66 (by decide +kernel)) (cwV 1 hts gX8_parseBracket_X8_sees rfl rfl rfl (by decide +kernel) ⟨(Nat.le_of_ble_eq_true rfl), (Nat.le_of_ble_eq_true rfl)⟩) (pr_V (r := (RX8, TX8, 6)) hP hK hD q_70 8 rfl hq_70) rfl rfl hl.1 rfl (lv_room (Nat.le_of_ble_eq_true rfl)) dX8_parseBracket_79 ⟨(Nat.le_of_ble_eq_true rfl), (Nat.le_of_ble_eq_true rfl)⟩) hS (fun q _ h => hFc q h) hFc (fun r_76 u t H locs ht hvm w_75 hB hz1 hk1 hS => ?_)
        have hP := pu_keep hP hk1
        clear hk1 hz1 hvm hB ht hFc
        obtain ⟨hb_77, hx_78⟩ := w_75
        refine lv_if_eq (tgt := 98) hx hb dX8_parseBracket_82 (by decide +kernel) (fun c_79 => ?_) (fun c_79 => ?_)
        · have dc_79 := c_eq (a := r_76.toInt) (b := 0) rfl (by decide +kernel) c_79
          have bz_80 := bz0 hx_78 c_79
          refine lv_aload_n hx hb dX8_parseBracket_98 rfl (lv_at hl 1 rfl) ?_
          refine va_get (D := (dC, dI)) (ci := 8) (v := .int (oI S_62 o 5)) (C := RX8) (T := TX8) (N := 6) hx hb hts in_wsX8_parseBracket_X8 hown hK hP q_70 hq_70 rfl 5 (by decide +kernel) (hts (.fieldLink RX8 28 "ShipOffice$Tape" "fault" "I") iw_X8_parseBracket_1) (fun _ h9 => h9) rfl dX8_parseBracket_99 ?_
          refine lv_topi (fun x_81 ex_81 => ?_)
          have gx_81 : x_81.toInt = (oI S_62 o 5).toInt := iv_to ex_81
          clear ex_81
          refine lv_if_ge (tgt := 113) hx hb dX8_parseBracket_102 (by decide +kernel) (fun c_82 => ?_) (fun c_82 => ?_)
          · have dc_82 := c_le (a := 0) (b := x_81.toInt) (by decide +kernel) rfl c_82
            exfalso; omega
          · have dc_82 := c_nle (a := 0) (b := x_81.toInt) (by decide +kernel) rfl c_82
            refine lv_aload_n hx hb dX8_parseBracket_105 rfl (lv_at hl 1 rfl) ?_
            refine lv_aload_n hx hb dX8_parseBracket_106 rfl (lv_at hl 1 rfl) ?_
            refine va_get (D := (dC, dI)) (ci := 8) (v := .int (oI S_62 o 4)) (C := RX8) (T := TX8) (N := 6) hx hb hts in_wsX8_parseBracket_X8 hown hK hP q_70 hq_70 rfl 4 (by decide +kernel) (hts (.fieldLink RX8 22 "ShipOffice$Tape" "at" "I") iw_X8_parseBracket_2) (fun _ h9 => h9) rfl dX8_parseBracket_107 ?_
            refine lv_topi (fun x_83 ex_83 => ?_)
            have hx_83 : 0 ≤ x_83.toInt ∧ x_83.toInt ≤ 60 := iv_of ex_83 (oInv.iv hIS_62 t_69.2 rfl rfl)
            have gx_83 : x_83.toInt = (oI S_62 o 4).toInt := iv_to ex_83
            clear ex_83
            refine va_put (D := (dC, dI)) (ci := 8) (v := .int x_83) (ty := .int) (C := RX8) (T := TX8) (N := 6) hx hb hts in_wsX8_parseBracket_X8 tyX8 tyX8_ok nmX8 hown hK hP hD hS q_70 hq_70 rfl 5 (by decide +kernel) (hts (.fieldLink RX8 28 "ShipOffice$Tape" "fault" "I") iw_X8_parseBracket_1) (fun _ h9 => h9) rfl (by decide +kernel) rfl rfl (Nat.le_of_ble_eq_true rfl) dX8_parseBracket_110 (fun H locs hP1 hD1 hS => ?_)
            obtain ⟨S_84, eS_84⟩ : ∃ zq, zq = setI S_62 o 5 x_83 := ⟨_, rfl⟩
            have hP : va_P (dC, dI) vwCl (oW cq S_84) H := by rw [eS_84]; exact cP (oset t_69.1 hq_70 hD rfl (he_8_5 t_69.2) neI) hP1
            have hD : va_D A (oW cq S_84) := by rw [eS_84]; exact cD (oset t_69.1 hq_70 hD rfl (he_8_5 t_69.2) neI) hD1
            clear hP1 hD1
            have hIS_84 : oInv S_84 := by rw [eS_84]; exact oInv.I0 (k := 8) (lo := -2147483648) (hi := 2147483647) hIS_62 t_69.2 (by decide +kernel) rfl rfl rfl (iv_all _)
            have XS_84 : oX [805] S_62 S_84 := by rw [eS_84]; exact oX.I (k := 8) (key := 805) t_69.2 rfl (List.mem_singleton.mpr rfl)
            have pk_85 : oP S_84 o 0 = some rw := by rw [eS_84]; exact pk_66
            have pk_86 : oP S_84 o 2 = some cd := by rw [eS_84]; exact pk_67
            have X_87 : oX [803, 804, 805, 2063] Z S_84 := oX.st X_64 XS_84 (by decide +kernel)
            have g_88 : (oI S_84 o 1).toInt = (oI S_62 o 1).toInt := by rw [eS_84, setI_ne (by decide +kernel)]
            have g_89 : (oI S_84 o 4).toInt = (oI S_62 o 4).toInt := by rw [eS_84, setI_ne (by decide +kernel)]
            have g_90 : (oI S_84 o 5).toInt = x_83.toInt := by rw [eS_84, setI_same]
            exact W.vret hx hb hr (fun t ht hW => ⟨⟨S_84, rfl, ⟨hIS_84, X_87, (by have hC := tX_C XS_7 to trw (by decide +kernel) (by decide +kernel); have a0 := tA_i Z o; have a1 := tA_i S_7 o; have a2 := tA_i S_39 o; have a3 := tA_i S_51 o; have n0 := tN_i Z o; have tb := tB_c (C := tC Z o rw) hx_8 (by omega) (by rw [← hC]; exact sf_e (y := x_33) (by omega) (by omega) (by omega) ex_36) (Or.inl ((sf_e (y := x_33) (by omega) (by omega) (by omega) ex_36).symm.trans bz_27)) (oX.ty XS_7 to) (oX.ty XS_7 tcd) XS_39 (by omega) (by have g := hx_52; rw [tX_C XS_39 (oX.ty XS_7 to) (oX.ty XS_7 trw) (by decide +kernel) (by decide +kernel), hC] at g; exact g) XS_62 (oX.ty XS_51 (oX.ty XS_39 (oX.ty XS_7 to))) (by omega) (by omega) hx_63; have hC3 := tX_C X_64 to trw (by decide +kernel) (by decide +kernel); exact tB_c2 tb (by omega) (by rw [← hC3]; exact bz_80) (oX.ty XS_62 (oX.ty XS_51 (oX.ty XS_39 (oX.ty XS_7 to)))) XS_84 (by omega) (by omega))⟩, ⟨by rw [ht]; exact hP, va_K.moved hW.alike hK, hD⟩⟩, hS.F ht⟩) hS.2.2 dX8_parseBracket_113
        · have dc_79 := c_ne (a := r_76.toInt) (b := 0) rfl (by decide +kernel) c_79
          have bz_91 := bz1 hx_78 c_79
          have iv_92 : 0 ≤ (oI S_62 o 4).toInt ∧ (oI S_62 o 4).toInt ≤ 60 := oInv.iv hIS_62 t_69.2 rfl rfl
          have iv_93 : 0 ≤ (oI S_62 o 1).toInt ∧ (oI S_62 o 1).toInt ≤ 60 := oInv.iv hIS_62 t_69.2 rfl rfl
          have lt_94 := sf_lt (by decide +kernel) bz_91 (by omega)
          refine lv_aload_n hx hb dX8_parseBracket_85 rfl (lv_at hl 1 rfl) ?_
          refine lv_dup hx hb dX8_parseBracket_86 rfl ?_
          refine va_get (D := (dC, dI)) (ci := 8) (v := .int (oI S_62 o 4)) (C := RX8) (T := TX8) (N := 6) hx hb hts in_wsX8_parseBracket_X8 hown hK hP q_70 hq_70 rfl 4 (by decide +kernel) (hts (.fieldLink RX8 22 "ShipOffice$Tape" "at" "I") iw_X8_parseBracket_2) (fun _ h9 => h9) rfl dX8_parseBracket_87 ?_
          refine lv_topi (fun x_95 ex_95 => ?_)
          have hx_95 : 0 ≤ x_95.toInt ∧ x_95.toInt ≤ 60 := iv_of ex_95 (oInv.iv hIS_62 t_69.2 rfl rfl)
          have gx_95 : x_95.toInt = (oI S_62 o 4).toInt := iv_to ex_95
          clear ex_95
          refine lv_iconst (v := 1) hx hb dX8_parseBracket_90 (by decide +kernel) ?_
          refine lv_iadd hx hb dX8_parseBracket_91 ?_
          refine lv_topi (fun x_96 ex_96 => ?_)
          have hx_96 : x_96.toInt = x_95.toInt + 1 := (iv_to ex_96).trans (ad_i rfl (by decide +kernel) (by omega) (by omega))
          refine va_put (D := (dC, dI)) (ci := 8) (v := .int x_96) (ty := .int) (C := RX8) (T := TX8) (N := 6) hx hb hts in_wsX8_parseBracket_X8 tyX8 tyX8_ok nmX8 hown hK hP hD hS q_70 hq_70 rfl 4 (by decide +kernel) (hts (.fieldLink RX8 22 "ShipOffice$Tape" "at" "I") iw_X8_parseBracket_2) (fun _ h9 => h9) rfl (by decide +kernel) rfl rfl (Nat.le_of_ble_eq_true rfl) dX8_parseBracket_92 (fun H locs hP1 hD1 hS => ?_)
          obtain ⟨S_97, eS_97⟩ : ∃ zq, zq = setI S_62 o 4 x_96 := ⟨_, rfl⟩
          have hP : va_P (dC, dI) vwCl (oW cq S_97) H := by rw [eS_97]; exact cP (oset t_69.1 hq_70 hD rfl (he_8_4 t_69.2) neI) hP1
          have hD : va_D A (oW cq S_97) := by rw [eS_97]; exact cD (oset t_69.1 hq_70 hD rfl (he_8_4 t_69.2) neI) hD1
          clear hP1 hD1
          have hIS_97 : oInv S_97 := by rw [eS_97]; exact oInv.I0 (k := 8) (lo := 0) (hi := 60) hIS_62 t_69.2 (by decide +kernel) rfl rfl rfl (by omega)
          have XS_97 : oX [804] S_62 S_97 := by rw [eS_97]; exact oX.I (k := 8) (key := 804) t_69.2 rfl (List.mem_singleton.mpr rfl)
          have pk_98 : oP S_97 o 0 = some rw := by rw [eS_97]; exact pk_66
          have pk_99 : oP S_97 o 2 = some cd := by rw [eS_97]; exact pk_67
          have X_100 : oX [803, 804, 805, 2063] Z S_97 := oX.st X_64 XS_97 (by decide +kernel)
          have g_101 : (oI S_97 o 1).toInt = (oI S_62 o 1).toInt := by rw [eS_97, setI_ne (by decide +kernel)]
          have g_102 : (oI S_97 o 4).toInt = x_96.toInt := by rw [eS_97, setI_same]
          have g_103 : (oI S_97 o 5).toInt = (oI S_62 o 5).toInt := by rw [eS_97, setI_ne (by decide +kernel)]
          refine lv_goto (tgt := 113) hx hb dX8_parseBracket_95 (by decide +kernel) ?_
          exact W.vret hx hb hr (fun t ht hW => ⟨⟨S_97, rfl, ⟨hIS_97, X_100, (by have hC := tX_C XS_7 to trw (by decide +kernel) (by decide +kernel); have a0 := tA_i Z o; have a1 := tA_i S_7 o; have a2 := tA_i S_39 o; have a3 := tA_i S_51 o; have n0 := tN_i Z o; have tb := tB_c (C := tC Z o rw) hx_8 (by omega) (by rw [← hC]; exact sf_e (y := x_33) (by omega) (by omega) (by omega) ex_36) (Or.inl ((sf_e (y := x_33) (by omega) (by omega) (by omega) ex_36).symm.trans bz_27)) (oX.ty XS_7 to) (oX.ty XS_7 tcd) XS_39 (by omega) (by have g := hx_52; rw [tX_C XS_39 (oX.ty XS_7 to) (oX.ty XS_7 trw) (by decide +kernel) (by decide +kernel), hC] at g; exact g) XS_62 (oX.ty XS_51 (oX.ty XS_39 (oX.ty XS_7 to))) (by omega) (by omega) hx_63; have hC3 := tX_C X_64 to trw (by decide +kernel) (by decide +kernel); have a4 := tA_i S_62 o; have a5 := tA_i S_97 o; exact tB_c1 tb (by omega) (by rw [← hC3]; exact bz_91) (oX.ty XS_62 (oX.ty XS_51 (oX.ty XS_39 (oX.ty XS_7 to)))) (oX.ty XS_62 (oX.ty XS_51 (oX.ty XS_39 (oX.ty XS_7 tcd)))) XS_97 (by omega))⟩, ⟨by rw [ht]; exact hP, va_K.moved hW.alike hK, hD⟩⟩, hS.F ht⟩) hS.2.2 dX8_parseBracket_113
    · have dc_26 := c_eq (a := r_23.toInt) (b := 0) rfl (by decide +kernel) c_26
      have bz_104 := bz0 hx_25 c_26
      refine lv_aload_n hx hb dX8_parseBracket_21 rfl (lv_at hl 0 rfl) ?_
      refine lv_bipush (v := 61) hx hb dX8_parseBracket_22 (by decide +kernel) ?_
      have hFc : ∀ q, va_A [] H.size q → A q := pu_free hS hA
      refine va_calli (va_runV (As := [.int 61]) (rest := []) ⟨hx, hb, hml, hown, hts⟩ (c_X8_sees_f l dC dI H.size cq S_7 hIS_7 o t_13 61 rw pk_11 (by decide +kernel)) (cwV 1 hts gX8_parseBracket_X8_sees rfl rfl rfl (by decide +kernel) ⟨(Nat.le_of_ble_eq_true rfl), (Nat.le_of_ble_eq_true rfl)⟩) (pr_V (r := (RX8, TX8, 6)) hP hK hD q_14 8 rfl hq_14) rfl rfl hl.1 rfl (lv_room (Nat.le_of_ble_eq_true rfl)) dX8_parseBracket_24 ⟨(Nat.le_of_ble_eq_true rfl), (Nat.le_of_ble_eq_true rfl)⟩) hS (fun q _ h => hFc q h) hFc (fun r_106 u t H locs ht hvm w_105 hB hz1 hk1 hS => ?_)
      have hP := pu_keep hP hk1
      clear hk1 hz1 hvm hB ht hFc
      obtain ⟨hb_107, hx_108⟩ := w_105
      refine lv_if_ne (tgt := 39) hx hb dX8_parseBracket_27 (by decide +kernel) (fun c_109 => ?_) (fun c_109 => ?_)
      · have dc_109 := c_ne (a := r_106.toInt) (b := 0) rfl (by decide +kernel) c_109
        have bz_110 := bz1 hx_108 c_109
        have iv_111 : 0 ≤ (oI S_7 o 4).toInt ∧ (oI S_7 o 4).toInt ≤ 60 := oInv.iv hIS_7 t_13.2 rfl rfl
        have iv_112 : 0 ≤ (oI S_7 o 1).toInt ∧ (oI S_7 o 1).toInt ≤ 60 := oInv.iv hIS_7 t_13.2 rfl rfl
        have lt_113 := sf_lt (by decide +kernel) bz_110 (by omega)
        have iv_114 : 0 ≤ (oI S_7 o 3).toInt ∧ (oI S_7 o 3).toInt ≤ 60 := oInv.iv hIS_7 t_13.2 rfl rfl
        have iv_115 : 0 ≤ (oI S_7 o 4).toInt ∧ (oI S_7 o 4).toInt ≤ 60 := oInv.iv hIS_7 t_13.2 rfl rfl
        have z0 := tN_i Z o
        have z1 := tA_i Z o
        have z2 := tN_i S_7 o
        have z3 := tA_i S_7 o
        have z4 := tR_m hx_8 (by omega) (by omega)
        refine lv_aload_n hx hb dX8_parseBracket_39 rfl (lv_at hl 0 rfl) ?_
        refine va_get (D := (dC, dI)) (ci := 8) (v := .ref rw) (C := RX8) (T := TX8) (N := 6) hx hb hts in_wsX8_parseBracket_X8 hown hK hP q_14 hq_14 rfl 0 (by decide +kernel) (hts (.fieldLink RX8 9 "ShipOffice$Tape" "bytes" "[I") iw_X8_parseBracket_3) (fun _ h9 => h9) (o_rd pk_11) dX8_parseBracket_40 ?_
        refine lv_aload_n hx hb dX8_parseBracket_43 rfl (lv_at hl 0 rfl) ?_
        refine va_get (D := (dC, dI)) (ci := 8) (v := .int (oI S_7 o 4)) (C := RX8) (T := TX8) (N := 6) hx hb hts in_wsX8_parseBracket_X8 hown hK hP q_14 hq_14 rfl 4 (by decide +kernel) (hts (.fieldLink RX8 22 "ShipOffice$Tape" "at" "I") iw_X8_parseBracket_2) (fun _ h9 => h9) rfl dX8_parseBracket_44 ?_
        refine lv_topi (fun x_116 ex_116 => ?_)
        have hx_116 : 0 ≤ x_116.toInt ∧ x_116.toInt ≤ 60 := iv_of ex_116 (oInv.iv hIS_7 t_13.2 rfl rfl)
        have gx_116 : x_116.toInt = (oI S_7 o 4).toInt := iv_to ex_116
        clear ex_116
        have t_117 : oty S_7 rw 160 := (oX.ty XS_7 trw)
        obtain ⟨q_118, hq_118⟩ := og (cq := cq) t_117.1 (oE_a1 (n := 60) t_117.2 (by decide +kernel))
        refine va_iald hx hb hK hP q_118 0 hq_118 rfl (vp_in_iff.mpr (by omega)) dX8_parseBracket_47 ?_
        refine lv_topi (fun x_119 ex_119 => ?_)
        refine lv_istore_n (lv' := [(2, .int x_119), (0, .ref o), (1, .int x1)]) hx hb dX8_parseBracket_48 rfl hl (by decide +kernel) rfl (fun ls hl => ?_)
        refine lv_aload_n hx hb dX8_parseBracket_49 rfl (lv_at hl 1 rfl) ?_
        refine lv_dup hx hb dX8_parseBracket_50 rfl ?_
        refine va_get (D := (dC, dI)) (ci := 8) (v := .int (oI S_7 o 4)) (C := RX8) (T := TX8) (N := 6) hx hb hts in_wsX8_parseBracket_X8 hown hK hP q_14 hq_14 rfl 4 (by decide +kernel) (hts (.fieldLink RX8 22 "ShipOffice$Tape" "at" "I") iw_X8_parseBracket_2) (fun _ h9 => h9) rfl dX8_parseBracket_51 ?_
        refine lv_topi (fun x_120 ex_120 => ?_)
        have hx_120 : 0 ≤ x_120.toInt ∧ x_120.toInt ≤ 60 := iv_of ex_120 (oInv.iv hIS_7 t_13.2 rfl rfl)
        have gx_120 : x_120.toInt = (oI S_7 o 4).toInt := iv_to ex_120
        clear ex_120
        refine lv_iconst (v := 1) hx hb dX8_parseBracket_54 (by decide +kernel) ?_
        refine lv_iadd hx hb dX8_parseBracket_55 ?_
        refine lv_topi (fun x_121 ex_121 => ?_)
        have hx_121 : x_121.toInt = x_120.toInt + 1 := (iv_to ex_121).trans (ad_i rfl (by decide +kernel) (by omega) (by omega))
        refine va_put (D := (dC, dI)) (ci := 8) (v := .int x_121) (ty := .int) (C := RX8) (T := TX8) (N := 6) hx hb hts in_wsX8_parseBracket_X8 tyX8 tyX8_ok nmX8 hown hK hP hD hS q_14 hq_14 rfl 4 (by decide +kernel) (hts (.fieldLink RX8 22 "ShipOffice$Tape" "at" "I") iw_X8_parseBracket_2) (fun _ h9 => h9) rfl (by decide +kernel) rfl rfl (Nat.le_of_ble_eq_true rfl) dX8_parseBracket_56 (fun H locs hP1 hD1 hS => ?_)
        obtain ⟨S_122, eS_122⟩ : ∃ zq, zq = setI S_7 o 4 x_121 := ⟨_, rfl⟩
        have hP : va_P (dC, dI) vwCl (oW cq S_122) H := by rw [eS_122]; exact cP (oset t_13.1 hq_14 hD rfl (he_8_4 t_13.2) neI) hP1
        have hD : va_D A (oW cq S_122) := by rw [eS_122]; exact cD (oset t_13.1 hq_14 hD rfl (he_8_4 t_13.2) neI) hD1
        clear hP1 hD1
        have hIS_122 : oInv S_122 := by rw [eS_122]; exact oInv.I0 (k := 8) (lo := 0) (hi := 60) hIS_7 t_13.2 (by decide +kernel) rfl rfl rfl (by omega)
        have XS_122 : oX [804] S_7 S_122 := by rw [eS_122]; exact oX.I (k := 8) (key := 804) t_13.2 rfl (List.mem_singleton.mpr rfl)
        have pk_123 : oP S_122 o 0 = some rw := by rw [eS_122]; exact pk_11
        have pk_124 : oP S_122 o 2 = some cd := by rw [eS_122]; exact pk_12
        have X_125 : oX [803, 804, 805, 2063] Z S_122 := oX.st X_9 XS_122 (by decide +kernel)
        have g_126 : (oI S_122 o 1).toInt = (oI S_7 o 1).toInt := by rw [eS_122, setI_ne (by decide +kernel)]
        have g_127 : (oI S_122 o 3).toInt = (oI S_7 o 3).toInt := by rw [eS_122, setI_ne (by decide +kernel)]
        have g_128 : (oI S_122 o 4).toInt = x_121.toInt := by rw [eS_122, setI_same]
        have g_129 : (oI S_122 o 5).toInt = (oI S_7 o 5).toInt := by rw [eS_122, setI_ne (by decide +kernel)]
        have hkx_119 : x_119.toInt = 61 := by rw [(sf_e (y := x_116) (by omega) (by omega) (by omega) ex_119).symm.trans bz_110]; decide
        refine lv_aload_n hx hb dX8_parseBracket_59 rfl (lv_at hl 1 rfl) ?_
        refine lv_iload_n hx hb dX8_parseBracket_60 rfl (lv_at hl 2 rfl) ?_
        have t_130 : oty S_122 o 8 := (oX.ty XS_122 t_13)
        have hFc := o_free hD hS hA
        obtain ⟨q_131, hq_131⟩ := og (cq := cq) t_130.1 (oE_8 t_130.2)
        refine va_callv (va_runV (As := [.int x1]) (rest := []) ⟨hx, hb, hml, hown, hts⟩ (c_X8_parseSum_2f l dC dI H.size tL tS tG cq S_122 hIS_122 o t_130 x1 (by omega) rw pk_123 cd pk_124 (by omega) (by omega)) (cwV 1 hts gX8_parseBracket_X8_parseSum rfl rfl rfl (by decide +kernel) ⟨(Nat.le_of_ble_eq_true rfl), (Nat.le_of_ble_eq_true rfl)⟩) (pr_VO (r := (RX8, TX8, 6)) hP hK hD q_131 8 rfl hq_131 (hZ.go hS hFc)) rfl rfl hl.1 rfl (lv_room (Nat.le_of_ble_eq_true rfl)) dX8_parseBracket_61 ⟨(Nat.le_of_ble_eq_true rfl), (Nat.le_of_ble_eq_true rfl)⟩) hS (fun q _ h => hFc q h) hFc (fun u t H locs ht hvm w_132 hB hz1 hk1 hS => ?_)
        obtain ⟨S_134, rfl⟩ : ∃ z, z = u := ⟨_, rfl⟩
        obtain ⟨hP1, hK1, hD1⟩ := hB
        rw [ht] at hP1
        have hP : va_P (dC, dI) vwCl (oW cq S_134) H := hP1
        have hD : va_D A (oW cq S_134) := hD1.weaken (fun _ _ _ h => hFc _ h)
        clear hP1 hK1 hD1 hk1 hz1 hvm ht hFc
        obtain ⟨hIS_134, XS_134, hx_135⟩ := w_132
        have X_136 : oX [803, 804, 805, 2063] Z S_134 := oX.st X_125 XS_134 (by decide +kernel)
        have g_137 : (oI S_134 o 1).toInt = (oI S_122 o 1).toInt := by rw [oX.i XS_134 t_130 (by decide +kernel)]
        have pk_138 : oP S_134 o 0 = some rw := by rw [oX.p XS_134 t_130 (by decide +kernel)]; exact pk_123
        have pk_139 : oP S_134 o 2 = some cd := by rw [oX.p XS_134 t_130 (by decide +kernel)]; exact pk_124
        have t_141 : oty S_134 o 8 := (oX.ty XS_134 t_130)
        have iv_140 : 0 ≤ (oI S_134 o 4).toInt ∧ (oI S_134 o 4).toInt ≤ 60 := oInv.iv hIS_134 t_141.2 rfl rfl
        refine lv_aload_n hx hb dX8_parseBracket_64 rfl (lv_at hl 1 rfl) ?_
        refine lv_iload_n hx hb dX8_parseBracket_65 rfl (lv_at hl 0 rfl) ?_
        have hFc := o_free hD hS hA
        obtain ⟨q_142, hq_142⟩ := og (cq := cq) t_141.1 (oE_8 t_141.2)
        refine va_callv (va_runV (As := [.int x_119]) (rest := []) ⟨hx, hb, hml, hown, hts⟩ (c_X8_emitSign_f l dC dI H.size tL tS tG cq S_134 hIS_134 o t_141 x_119 cd pk_139 (by omega)) (cwV 1 hts gX8_parseBracket_X8_emitSign rfl rfl rfl (by decide +kernel) ⟨(Nat.le_of_ble_eq_true rfl), (Nat.le_of_ble_eq_true rfl)⟩) (pr_VO (r := (RX8, TX8, 6)) hP hK hD q_142 8 rfl hq_142 (hZ.go hS hFc)) rfl rfl hl.1 rfl (lv_room (Nat.le_of_ble_eq_true rfl)) dX8_parseBracket_66 ⟨(Nat.le_of_ble_eq_true rfl), (Nat.le_of_ble_eq_true rfl)⟩) hS (fun q _ h => hFc q h) hFc (fun u t H locs ht hvm w_143 hB hz1 hk1 hS => ?_)
        obtain ⟨S_145, rfl⟩ : ∃ z, z = u := ⟨_, rfl⟩
        obtain ⟨hP1, hK1, hD1⟩ := hB
        rw [ht] at hP1
        have hP : va_P (dC, dI) vwCl (oW cq S_145) H := hP1
        have hD : va_D A (oW cq S_145) := hD1.weaken (fun _ _ _ h => hFc _ h)
        clear hP1 hK1 hD1 hk1 hz1 hvm ht hFc
        obtain ⟨hIS_145, XS_145, hx_146⟩ := w_143
        have X_147 : oX [803, 804, 805, 2063] Z S_145 := oX.st X_136 XS_145 (by decide +kernel)
        have g_148 : (oI S_145 o 1).toInt = (oI S_134 o 1).toInt := by rw [oX.i XS_145 t_141 (by decide +kernel)]
        have pk_149 : oP S_145 o 0 = some rw := by rw [oX.p XS_145 t_141 (by decide +kernel)]; exact pk_138
        have pk_150 : oP S_145 o 2 = some cd := by rw [oX.p XS_145 t_141 (by decide +kernel)]; exact pk_139
        have t_152 : oty S_145 o 8 := (oX.ty XS_145 t_141)
        have iv_151 : 0 ≤ (oI S_145 o 4).toInt ∧ (oI S_145 o 4).toInt ≤ 60 := oInv.iv hIS_145 t_152.2 rfl rfl
        refine lv_aload_n hx hb dX8_parseBracket_69 rfl (lv_at hl 1 rfl) ?_
        obtain ⟨q_153, hq_153⟩ := og (cq := cq) t_152.1 (oE_8 t_152.2)
        refine va_get (D := (dC, dI)) (ci := 8) (v := .int (oI S_145 o 5)) (C := RX8) (T := TX8) (N := 6) hx hb hts in_wsX8_parseBracket_X8 hown hK hP q_153 hq_153 rfl 5 (by decide +kernel) (hts (.fieldLink RX8 28 "ShipOffice$Tape" "fault" "I") iw_X8_parseBracket_1) (fun _ h9 => h9) rfl dX8_parseBracket_70 ?_
        refine lv_topi (fun x_154 ex_154 => ?_)
        have gx_154 : x_154.toInt = (oI S_145 o 5).toInt := iv_to ex_154
        clear ex_154
        refine lv_if_ge (tgt := 98) hx hb dX8_parseBracket_73 (by decide +kernel) (fun c_155 => ?_) (fun c_155 => ?_)
        · have dc_155 := c_le (a := 0) (b := x_154.toInt) (by decide +kernel) rfl c_155
          refine lv_aload_n hx hb dX8_parseBracket_98 rfl (lv_at hl 1 rfl) ?_
          refine va_get (D := (dC, dI)) (ci := 8) (v := .int (oI S_145 o 5)) (C := RX8) (T := TX8) (N := 6) hx hb hts in_wsX8_parseBracket_X8 hown hK hP q_153 hq_153 rfl 5 (by decide +kernel) (hts (.fieldLink RX8 28 "ShipOffice$Tape" "fault" "I") iw_X8_parseBracket_1) (fun _ h9 => h9) rfl dX8_parseBracket_99 ?_
          refine lv_topi (fun x_156 ex_156 => ?_)
          have gx_156 : x_156.toInt = (oI S_145 o 5).toInt := iv_to ex_156
          clear ex_156
          refine lv_if_ge (tgt := 113) hx hb dX8_parseBracket_102 (by decide +kernel) (fun c_157 => ?_) (fun c_157 => ?_)
          · have dc_157 := c_le (a := 0) (b := x_156.toInt) (by decide +kernel) rfl c_157
            exact W.vret hx hb hr (fun t ht hW => ⟨⟨S_145, rfl, ⟨hIS_145, X_147, (by have hC := tX_C XS_7 to trw (by decide +kernel) (by decide +kernel); have a0 := tA_i Z o; have a1 := tA_i S_7 o; have a2 := tA_i S_122 o; have a3 := tA_i S_134 o; have n0 := tN_i Z o; have tb := tB_c (C := tC Z o rw) hx_8 (by omega) (by rw [← hC]; exact sf_e (y := x_116) (by omega) (by omega) (by omega) ex_119) (Or.inr (Or.inl ((sf_e (y := x_116) (by omega) (by omega) (by omega) ex_119).symm.trans bz_110))) (oX.ty XS_7 to) (oX.ty XS_7 tcd) XS_122 (by omega) (by have g := hx_135; rw [tX_C XS_122 (oX.ty XS_7 to) (oX.ty XS_7 trw) (by decide +kernel) (by decide +kernel), hC] at g; exact g) XS_145 (oX.ty XS_134 (oX.ty XS_122 (oX.ty XS_7 to))) (by omega) (by omega) hx_146; exact tB_c0 tb (by omega))⟩, ⟨by rw [ht]; exact hP, va_K.moved hW.alike hK, hD⟩⟩, hS.F ht⟩) hS.2.2 dX8_parseBracket_113
          · have dc_157 := c_nle (a := 0) (b := x_156.toInt) (by decide +kernel) rfl c_157
            exfalso; omega
        · have dc_155 := c_nle (a := 0) (b := x_154.toInt) (by decide +kernel) rfl c_155
          refine lv_aload_n hx hb dX8_parseBracket_76 rfl (lv_at hl 1 rfl) ?_
          refine lv_bipush (v := 41) hx hb dX8_parseBracket_77 (by decide +kernel) ?_
          have hFc : ∀ q, va_A [] H.size q → A q := pu_free hS hA
          refine va_calli (va_runV (As := [.int 41]) (rest := []) ⟨hx, hb, hml, hown, hts⟩ (c_X8_sees_f l dC dI H.size cq S_145 hIS_145 o t_152 41 rw pk_149 (by decide +kernel)) (cwV 1 hts gX8_parseBracket_X8_sees rfl rfl rfl (by decide +kernel) ⟨(Nat.le_of_ble_eq_true rfl), (Nat.le_of_ble_eq_true rfl)⟩) (pr_V (r := (RX8, TX8, 6)) hP hK hD q_153 8 rfl hq_153) rfl rfl hl.1 rfl (lv_room (Nat.le_of_ble_eq_true rfl)) dX8_parseBracket_79 ⟨(Nat.le_of_ble_eq_true rfl), (Nat.le_of_ble_eq_true rfl)⟩) hS (fun q _ h => hFc q h) hFc (fun r_159 u t H locs ht hvm w_158 hB hz1 hk1 hS => ?_)
          have hP := pu_keep hP hk1
          clear hk1 hz1 hvm hB ht hFc
          obtain ⟨hb_160, hx_161⟩ := w_158
          refine lv_if_eq (tgt := 98) hx hb dX8_parseBracket_82 (by decide +kernel) (fun c_162 => ?_) (fun c_162 => ?_)
          · have dc_162 := c_eq (a := r_159.toInt) (b := 0) rfl (by decide +kernel) c_162
            have bz_163 := bz0 hx_161 c_162
            refine lv_aload_n hx hb dX8_parseBracket_98 rfl (lv_at hl 1 rfl) ?_
            refine va_get (D := (dC, dI)) (ci := 8) (v := .int (oI S_145 o 5)) (C := RX8) (T := TX8) (N := 6) hx hb hts in_wsX8_parseBracket_X8 hown hK hP q_153 hq_153 rfl 5 (by decide +kernel) (hts (.fieldLink RX8 28 "ShipOffice$Tape" "fault" "I") iw_X8_parseBracket_1) (fun _ h9 => h9) rfl dX8_parseBracket_99 ?_
            refine lv_topi (fun x_164 ex_164 => ?_)
            have gx_164 : x_164.toInt = (oI S_145 o 5).toInt := iv_to ex_164
            clear ex_164
            refine lv_if_ge (tgt := 113) hx hb dX8_parseBracket_102 (by decide +kernel) (fun c_165 => ?_) (fun c_165 => ?_)
            · have dc_165 := c_le (a := 0) (b := x_164.toInt) (by decide +kernel) rfl c_165
              exfalso; omega
            · have dc_165 := c_nle (a := 0) (b := x_164.toInt) (by decide +kernel) rfl c_165
              refine lv_aload_n hx hb dX8_parseBracket_105 rfl (lv_at hl 1 rfl) ?_
              refine lv_aload_n hx hb dX8_parseBracket_106 rfl (lv_at hl 1 rfl) ?_
              refine va_get (D := (dC, dI)) (ci := 8) (v := .int (oI S_145 o 4)) (C := RX8) (T := TX8) (N := 6) hx hb hts in_wsX8_parseBracket_X8 hown hK hP q_153 hq_153 rfl 4 (by decide +kernel) (hts (.fieldLink RX8 22 "ShipOffice$Tape" "at" "I") iw_X8_parseBracket_2) (fun _ h9 => h9) rfl dX8_parseBracket_107 ?_
              refine lv_topi (fun x_166 ex_166 => ?_)
              have hx_166 : 0 ≤ x_166.toInt ∧ x_166.toInt ≤ 60 := iv_of ex_166 (oInv.iv hIS_145 t_152.2 rfl rfl)
              have gx_166 : x_166.toInt = (oI S_145 o 4).toInt := iv_to ex_166
              clear ex_166
              refine va_put (D := (dC, dI)) (ci := 8) (v := .int x_166) (ty := .int) (C := RX8) (T := TX8) (N := 6) hx hb hts in_wsX8_parseBracket_X8 tyX8 tyX8_ok nmX8 hown hK hP hD hS q_153 hq_153 rfl 5 (by decide +kernel) (hts (.fieldLink RX8 28 "ShipOffice$Tape" "fault" "I") iw_X8_parseBracket_1) (fun _ h9 => h9) rfl (by decide +kernel) rfl rfl (Nat.le_of_ble_eq_true rfl) dX8_parseBracket_110 (fun H locs hP1 hD1 hS => ?_)
              obtain ⟨S_167, eS_167⟩ : ∃ zq, zq = setI S_145 o 5 x_166 := ⟨_, rfl⟩
              have hP : va_P (dC, dI) vwCl (oW cq S_167) H := by rw [eS_167]; exact cP (oset t_152.1 hq_153 hD rfl (he_8_5 t_152.2) neI) hP1
              have hD : va_D A (oW cq S_167) := by rw [eS_167]; exact cD (oset t_152.1 hq_153 hD rfl (he_8_5 t_152.2) neI) hD1
              clear hP1 hD1
              have hIS_167 : oInv S_167 := by rw [eS_167]; exact oInv.I0 (k := 8) (lo := -2147483648) (hi := 2147483647) hIS_145 t_152.2 (by decide +kernel) rfl rfl rfl (iv_all _)
              have XS_167 : oX [805] S_145 S_167 := by rw [eS_167]; exact oX.I (k := 8) (key := 805) t_152.2 rfl (List.mem_singleton.mpr rfl)
              have pk_168 : oP S_167 o 0 = some rw := by rw [eS_167]; exact pk_149
              have pk_169 : oP S_167 o 2 = some cd := by rw [eS_167]; exact pk_150
              have X_170 : oX [803, 804, 805, 2063] Z S_167 := oX.st X_147 XS_167 (by decide +kernel)
              have g_171 : (oI S_167 o 1).toInt = (oI S_145 o 1).toInt := by rw [eS_167, setI_ne (by decide +kernel)]
              have g_172 : (oI S_167 o 4).toInt = (oI S_145 o 4).toInt := by rw [eS_167, setI_ne (by decide +kernel)]
              have g_173 : (oI S_167 o 5).toInt = x_166.toInt := by rw [eS_167, setI_same]
              exact W.vret hx hb hr (fun t ht hW => ⟨⟨S_167, rfl, ⟨hIS_167, X_170, (by have hC := tX_C XS_7 to trw (by decide +kernel) (by decide +kernel); have a0 := tA_i Z o; have a1 := tA_i S_7 o; have a2 := tA_i S_122 o; have a3 := tA_i S_134 o; have n0 := tN_i Z o; have tb := tB_c (C := tC Z o rw) hx_8 (by omega) (by rw [← hC]; exact sf_e (y := x_116) (by omega) (by omega) (by omega) ex_119) (Or.inr (Or.inl ((sf_e (y := x_116) (by omega) (by omega) (by omega) ex_119).symm.trans bz_110))) (oX.ty XS_7 to) (oX.ty XS_7 tcd) XS_122 (by omega) (by have g := hx_135; rw [tX_C XS_122 (oX.ty XS_7 to) (oX.ty XS_7 trw) (by decide +kernel) (by decide +kernel), hC] at g; exact g) XS_145 (oX.ty XS_134 (oX.ty XS_122 (oX.ty XS_7 to))) (by omega) (by omega) hx_146; have hC3 := tX_C X_147 to trw (by decide +kernel) (by decide +kernel); exact tB_c2 tb (by omega) (by rw [← hC3]; exact bz_163) (oX.ty XS_145 (oX.ty XS_134 (oX.ty XS_122 (oX.ty XS_7 to)))) XS_167 (by omega) (by omega))⟩, ⟨by rw [ht]; exact hP, va_K.moved hW.alike hK, hD⟩⟩, hS.F ht⟩) hS.2.2 dX8_parseBracket_113
          · have dc_162 := c_ne (a := r_159.toInt) (b := 0) rfl (by decide +kernel) c_162
            have bz_174 := bz1 hx_161 c_162
            have iv_175 : 0 ≤ (oI S_145 o 4).toInt ∧ (oI S_145 o 4).toInt ≤ 60 := oInv.iv hIS_145 t_152.2 rfl rfl
            have iv_176 : 0 ≤ (oI S_145 o 1).toInt ∧ (oI S_145 o 1).toInt ≤ 60 := oInv.iv hIS_145 t_152.2 rfl rfl
            have lt_177 := sf_lt (by decide +kernel) bz_174 (by omega)
            refine lv_aload_n hx hb dX8_parseBracket_85 rfl (lv_at hl 1 rfl) ?_
            refine lv_dup hx hb dX8_parseBracket_86 rfl ?_
            refine va_get (D := (dC, dI)) (ci := 8) (v := .int (oI S_145 o 4)) (C := RX8) (T := TX8) (N := 6) hx hb hts in_wsX8_parseBracket_X8 hown hK hP q_153 hq_153 rfl 4 (by decide +kernel) (hts (.fieldLink RX8 22 "ShipOffice$Tape" "at" "I") iw_X8_parseBracket_2) (fun _ h9 => h9) rfl dX8_parseBracket_87 ?_
            refine lv_topi (fun x_178 ex_178 => ?_)
            have hx_178 : 0 ≤ x_178.toInt ∧ x_178.toInt ≤ 60 := iv_of ex_178 (oInv.iv hIS_145 t_152.2 rfl rfl)
            have gx_178 : x_178.toInt = (oI S_145 o 4).toInt := iv_to ex_178
            clear ex_178
            refine lv_iconst (v := 1) hx hb dX8_parseBracket_90 (by decide +kernel) ?_
            refine lv_iadd hx hb dX8_parseBracket_91 ?_
            refine lv_topi (fun x_179 ex_179 => ?_)
            have hx_179 : x_179.toInt = x_178.toInt + 1 := (iv_to ex_179).trans (ad_i rfl (by decide +kernel) (by omega) (by omega))
            refine va_put (D := (dC, dI)) (ci := 8) (v := .int x_179) (ty := .int) (C := RX8) (T := TX8) (N := 6) hx hb hts in_wsX8_parseBracket_X8 tyX8 tyX8_ok nmX8 hown hK hP hD hS q_153 hq_153 rfl 4 (by decide +kernel) (hts (.fieldLink RX8 22 "ShipOffice$Tape" "at" "I") iw_X8_parseBracket_2) (fun _ h9 => h9) rfl (by decide +kernel) rfl rfl (Nat.le_of_ble_eq_true rfl) dX8_parseBracket_92 (fun H locs hP1 hD1 hS => ?_)
            obtain ⟨S_180, eS_180⟩ : ∃ zq, zq = setI S_145 o 4 x_179 := ⟨_, rfl⟩
            have hP : va_P (dC, dI) vwCl (oW cq S_180) H := by rw [eS_180]; exact cP (oset t_152.1 hq_153 hD rfl (he_8_4 t_152.2) neI) hP1
            have hD : va_D A (oW cq S_180) := by rw [eS_180]; exact cD (oset t_152.1 hq_153 hD rfl (he_8_4 t_152.2) neI) hD1
            clear hP1 hD1
            have hIS_180 : oInv S_180 := by rw [eS_180]; exact oInv.I0 (k := 8) (lo := 0) (hi := 60) hIS_145 t_152.2 (by decide +kernel) rfl rfl rfl (by omega)
            have XS_180 : oX [804] S_145 S_180 := by rw [eS_180]; exact oX.I (k := 8) (key := 804) t_152.2 rfl (List.mem_singleton.mpr rfl)
            have pk_181 : oP S_180 o 0 = some rw := by rw [eS_180]; exact pk_149
            have pk_182 : oP S_180 o 2 = some cd := by rw [eS_180]; exact pk_150
            have X_183 : oX [803, 804, 805, 2063] Z S_180 := oX.st X_147 XS_180 (by decide +kernel)
            have g_184 : (oI S_180 o 1).toInt = (oI S_145 o 1).toInt := by rw [eS_180, setI_ne (by decide +kernel)]
            have g_185 : (oI S_180 o 4).toInt = x_179.toInt := by rw [eS_180, setI_same]
            have g_186 : (oI S_180 o 5).toInt = (oI S_145 o 5).toInt := by rw [eS_180, setI_ne (by decide +kernel)]
            refine lv_goto (tgt := 113) hx hb dX8_parseBracket_95 (by decide +kernel) ?_
            exact W.vret hx hb hr (fun t ht hW => ⟨⟨S_180, rfl, ⟨hIS_180, X_183, (by have hC := tX_C XS_7 to trw (by decide +kernel) (by decide +kernel); have a0 := tA_i Z o; have a1 := tA_i S_7 o; have a2 := tA_i S_122 o; have a3 := tA_i S_134 o; have n0 := tN_i Z o; have tb := tB_c (C := tC Z o rw) hx_8 (by omega) (by rw [← hC]; exact sf_e (y := x_116) (by omega) (by omega) (by omega) ex_119) (Or.inr (Or.inl ((sf_e (y := x_116) (by omega) (by omega) (by omega) ex_119).symm.trans bz_110))) (oX.ty XS_7 to) (oX.ty XS_7 tcd) XS_122 (by omega) (by have g := hx_135; rw [tX_C XS_122 (oX.ty XS_7 to) (oX.ty XS_7 trw) (by decide +kernel) (by decide +kernel), hC] at g; exact g) XS_145 (oX.ty XS_134 (oX.ty XS_122 (oX.ty XS_7 to))) (by omega) (by omega) hx_146; have hC3 := tX_C X_147 to trw (by decide +kernel) (by decide +kernel); have a4 := tA_i S_145 o; have a5 := tA_i S_180 o; exact tB_c1 tb (by omega) (by rw [← hC3]; exact bz_174) (oX.ty XS_145 (oX.ty XS_134 (oX.ty XS_122 (oX.ty XS_7 to)))) (oX.ty XS_145 (oX.ty XS_134 (oX.ty XS_122 (oX.ty XS_7 tcd)))) XS_180 (by omega))⟩, ⟨by rw [ht]; exact hP, va_K.moved hW.alike hK, hD⟩⟩, hS.F ht⟩) hS.2.2 dX8_parseBracket_113
      · have dc_109 := c_eq (a := r_106.toInt) (b := 0) rfl (by decide +kernel) c_109
        have bz_187 := bz0 hx_108 c_109
        refine lv_aload_n hx hb dX8_parseBracket_30 rfl (lv_at hl 0 rfl) ?_
        refine lv_bipush (v := 62) hx hb dX8_parseBracket_31 (by decide +kernel) ?_
        have hFc : ∀ q, va_A [] H.size q → A q := pu_free hS hA
        refine va_calli (va_runV (As := [.int 62]) (rest := []) ⟨hx, hb, hml, hown, hts⟩ (c_X8_sees_f l dC dI H.size cq S_7 hIS_7 o t_13 62 rw pk_11 (by decide +kernel)) (cwV 1 hts gX8_parseBracket_X8_sees rfl rfl rfl (by decide +kernel) ⟨(Nat.le_of_ble_eq_true rfl), (Nat.le_of_ble_eq_true rfl)⟩) (pr_V (r := (RX8, TX8, 6)) hP hK hD q_14 8 rfl hq_14) rfl rfl hl.1 rfl (lv_room (Nat.le_of_ble_eq_true rfl)) dX8_parseBracket_33 ⟨(Nat.le_of_ble_eq_true rfl), (Nat.le_of_ble_eq_true rfl)⟩) hS (fun q _ h => hFc q h) hFc (fun r_189 u t H locs ht hvm w_188 hB hz1 hk1 hS => ?_)
        have hP := pu_keep hP hk1
        clear hk1 hz1 hvm hB ht hFc
        obtain ⟨hb_190, hx_191⟩ := w_188
        refine lv_if_eq (tgt := 69) hx hb dX8_parseBracket_36 (by decide +kernel) (fun c_192 => ?_) (fun c_192 => ?_)
        · have dc_192 := c_eq (a := r_189.toInt) (b := 0) rfl (by decide +kernel) c_192
          have bz_193 := bz0 hx_191 c_192
          have iv_194 : 0 ≤ (oI S_7 o 4).toInt ∧ (oI S_7 o 4).toInt ≤ 60 := oInv.iv hIS_7 t_13.2 rfl rfl
          refine lv_aload_n hx hb dX8_parseBracket_69 rfl (lv_at hl 0 rfl) ?_
          refine va_get (D := (dC, dI)) (ci := 8) (v := .int (oI S_7 o 5)) (C := RX8) (T := TX8) (N := 6) hx hb hts in_wsX8_parseBracket_X8 hown hK hP q_14 hq_14 rfl 5 (by decide +kernel) (hts (.fieldLink RX8 28 "ShipOffice$Tape" "fault" "I") iw_X8_parseBracket_1) (fun _ h9 => h9) rfl dX8_parseBracket_70 ?_
          refine lv_topi (fun x_195 ex_195 => ?_)
          have gx_195 : x_195.toInt = (oI S_7 o 5).toInt := iv_to ex_195
          clear ex_195
          refine lv_if_ge (tgt := 98) hx hb dX8_parseBracket_73 (by decide +kernel) (fun c_196 => ?_) (fun c_196 => ?_)
          · have dc_196 := c_le (a := 0) (b := x_195.toInt) (by decide +kernel) rfl c_196
            exfalso; omega
          · have dc_196 := c_nle (a := 0) (b := x_195.toInt) (by decide +kernel) rfl c_196
            refine lv_aload_n hx hb dX8_parseBracket_76 rfl (lv_at hl 0 rfl) ?_
            refine lv_bipush (v := 41) hx hb dX8_parseBracket_77 (by decide +kernel) ?_
            have hFc : ∀ q, va_A [] H.size q → A q := pu_free hS hA
            refine va_calli (va_runV (As := [.int 41]) (rest := []) ⟨hx, hb, hml, hown, hts⟩ (c_X8_sees_f l dC dI H.size cq S_7 hIS_7 o t_13 41 rw pk_11 (by decide +kernel)) (cwV 1 hts gX8_parseBracket_X8_sees rfl rfl rfl (by decide +kernel) ⟨(Nat.le_of_ble_eq_true rfl), (Nat.le_of_ble_eq_true rfl)⟩) (pr_V (r := (RX8, TX8, 6)) hP hK hD q_14 8 rfl hq_14) rfl rfl hl.1 rfl (lv_room (Nat.le_of_ble_eq_true rfl)) dX8_parseBracket_79 ⟨(Nat.le_of_ble_eq_true rfl), (Nat.le_of_ble_eq_true rfl)⟩) hS (fun q _ h => hFc q h) hFc (fun r_198 u t H locs ht hvm w_197 hB hz1 hk1 hS => ?_)
            have hP := pu_keep hP hk1
            clear hk1 hz1 hvm hB ht hFc
            obtain ⟨hb_199, hx_200⟩ := w_197
            refine lv_if_eq (tgt := 98) hx hb dX8_parseBracket_82 (by decide +kernel) (fun c_201 => ?_) (fun c_201 => ?_)
            · have dc_201 := c_eq (a := r_198.toInt) (b := 0) rfl (by decide +kernel) c_201
              have bz_202 := bz0 hx_200 c_201
              refine lv_aload_n hx hb dX8_parseBracket_98 rfl (lv_at hl 0 rfl) ?_
              refine va_get (D := (dC, dI)) (ci := 8) (v := .int (oI S_7 o 5)) (C := RX8) (T := TX8) (N := 6) hx hb hts in_wsX8_parseBracket_X8 hown hK hP q_14 hq_14 rfl 5 (by decide +kernel) (hts (.fieldLink RX8 28 "ShipOffice$Tape" "fault" "I") iw_X8_parseBracket_1) (fun _ h9 => h9) rfl dX8_parseBracket_99 ?_
              refine lv_topi (fun x_203 ex_203 => ?_)
              have gx_203 : x_203.toInt = (oI S_7 o 5).toInt := iv_to ex_203
              clear ex_203
              refine lv_if_ge (tgt := 113) hx hb dX8_parseBracket_102 (by decide +kernel) (fun c_204 => ?_) (fun c_204 => ?_)
              · have dc_204 := c_le (a := 0) (b := x_203.toInt) (by decide +kernel) rfl c_204
                exfalso; omega
              · have dc_204 := c_nle (a := 0) (b := x_203.toInt) (by decide +kernel) rfl c_204
                refine lv_aload_n hx hb dX8_parseBracket_105 rfl (lv_at hl 0 rfl) ?_
                refine lv_aload_n hx hb dX8_parseBracket_106 rfl (lv_at hl 0 rfl) ?_
                refine va_get (D := (dC, dI)) (ci := 8) (v := .int (oI S_7 o 4)) (C := RX8) (T := TX8) (N := 6) hx hb hts in_wsX8_parseBracket_X8 hown hK hP q_14 hq_14 rfl 4 (by decide +kernel) (hts (.fieldLink RX8 22 "ShipOffice$Tape" "at" "I") iw_X8_parseBracket_2) (fun _ h9 => h9) rfl dX8_parseBracket_107 ?_
                refine lv_topi (fun x_205 ex_205 => ?_)
                have hx_205 : 0 ≤ x_205.toInt ∧ x_205.toInt ≤ 60 := iv_of ex_205 (oInv.iv hIS_7 t_13.2 rfl rfl)
                have gx_205 : x_205.toInt = (oI S_7 o 4).toInt := iv_to ex_205
                clear ex_205
                refine va_put (D := (dC, dI)) (ci := 8) (v := .int x_205) (ty := .int) (C := RX8) (T := TX8) (N := 6) hx hb hts in_wsX8_parseBracket_X8 tyX8 tyX8_ok nmX8 hown hK hP hD hS q_14 hq_14 rfl 5 (by decide +kernel) (hts (.fieldLink RX8 28 "ShipOffice$Tape" "fault" "I") iw_X8_parseBracket_1) (fun _ h9 => h9) rfl (by decide +kernel) rfl rfl (Nat.le_of_ble_eq_true rfl) dX8_parseBracket_110 (fun H locs hP1 hD1 hS => ?_)
                obtain ⟨S_206, eS_206⟩ : ∃ zq, zq = setI S_7 o 5 x_205 := ⟨_, rfl⟩
                have hP : va_P (dC, dI) vwCl (oW cq S_206) H := by rw [eS_206]; exact cP (oset t_13.1 hq_14 hD rfl (he_8_5 t_13.2) neI) hP1
                have hD : va_D A (oW cq S_206) := by rw [eS_206]; exact cD (oset t_13.1 hq_14 hD rfl (he_8_5 t_13.2) neI) hD1
                clear hP1 hD1
                have hIS_206 : oInv S_206 := by rw [eS_206]; exact oInv.I0 (k := 8) (lo := -2147483648) (hi := 2147483647) hIS_7 t_13.2 (by decide +kernel) rfl rfl rfl (iv_all _)
                have XS_206 : oX [805] S_7 S_206 := by rw [eS_206]; exact oX.I (k := 8) (key := 805) t_13.2 rfl (List.mem_singleton.mpr rfl)
                have pk_207 : oP S_206 o 0 = some rw := by rw [eS_206]; exact pk_11
                have pk_208 : oP S_206 o 2 = some cd := by rw [eS_206]; exact pk_12
                have X_209 : oX [803, 804, 805, 2063] Z S_206 := oX.st X_9 XS_206 (by decide +kernel)
                have g_210 : (oI S_206 o 1).toInt = (oI S_7 o 1).toInt := by rw [eS_206, setI_ne (by decide +kernel)]
                have g_211 : (oI S_206 o 4).toInt = (oI S_7 o 4).toInt := by rw [eS_206, setI_ne (by decide +kernel)]
                have g_212 : (oI S_206 o 5).toInt = x_205.toInt := by rw [eS_206, setI_same]
                exact W.vret hx hb hr (fun t ht hW => ⟨⟨S_206, rfl, ⟨hIS_206, X_209, (by have hC := tX_C XS_7 to trw (by decide +kernel) (by decide +kernel); exact tB_2 hx_8 (by omega) (by rw [← hC]; exact bz_104) (by rw [← hC]; exact bz_187) (by rw [← hC]; exact bz_193) (by rw [← hC]; exact bz_202) (oX.ty XS_7 to) XS_206 (by omega) (by omega))⟩, ⟨by rw [ht]; exact hP, va_K.moved hW.alike hK, hD⟩⟩, hS.F ht⟩) hS.2.2 dX8_parseBracket_113
            · have dc_201 := c_ne (a := r_198.toInt) (b := 0) rfl (by decide +kernel) c_201
              have bz_213 := bz1 hx_200 c_201
              have iv_214 : 0 ≤ (oI S_7 o 4).toInt ∧ (oI S_7 o 4).toInt ≤ 60 := oInv.iv hIS_7 t_13.2 rfl rfl
              have iv_215 : 0 ≤ (oI S_7 o 1).toInt ∧ (oI S_7 o 1).toInt ≤ 60 := oInv.iv hIS_7 t_13.2 rfl rfl
              have lt_216 := sf_lt (by decide +kernel) bz_213 (by omega)
              refine lv_aload_n hx hb dX8_parseBracket_85 rfl (lv_at hl 0 rfl) ?_
              refine lv_dup hx hb dX8_parseBracket_86 rfl ?_
              refine va_get (D := (dC, dI)) (ci := 8) (v := .int (oI S_7 o 4)) (C := RX8) (T := TX8) (N := 6) hx hb hts in_wsX8_parseBracket_X8 hown hK hP q_14 hq_14 rfl 4 (by decide +kernel) (hts (.fieldLink RX8 22 "ShipOffice$Tape" "at" "I") iw_X8_parseBracket_2) (fun _ h9 => h9) rfl dX8_parseBracket_87 ?_
              refine lv_topi (fun x_217 ex_217 => ?_)
              have hx_217 : 0 ≤ x_217.toInt ∧ x_217.toInt ≤ 60 := iv_of ex_217 (oInv.iv hIS_7 t_13.2 rfl rfl)
              have gx_217 : x_217.toInt = (oI S_7 o 4).toInt := iv_to ex_217
              clear ex_217
              refine lv_iconst (v := 1) hx hb dX8_parseBracket_90 (by decide +kernel) ?_
              refine lv_iadd hx hb dX8_parseBracket_91 ?_
              refine lv_topi (fun x_218 ex_218 => ?_)
              have hx_218 : x_218.toInt = x_217.toInt + 1 := (iv_to ex_218).trans (ad_i rfl (by decide +kernel) (by omega) (by omega))
              refine va_put (D := (dC, dI)) (ci := 8) (v := .int x_218) (ty := .int) (C := RX8) (T := TX8) (N := 6) hx hb hts in_wsX8_parseBracket_X8 tyX8 tyX8_ok nmX8 hown hK hP hD hS q_14 hq_14 rfl 4 (by decide +kernel) (hts (.fieldLink RX8 22 "ShipOffice$Tape" "at" "I") iw_X8_parseBracket_2) (fun _ h9 => h9) rfl (by decide +kernel) rfl rfl (Nat.le_of_ble_eq_true rfl) dX8_parseBracket_92 (fun H locs hP1 hD1 hS => ?_)
              obtain ⟨S_219, eS_219⟩ : ∃ zq, zq = setI S_7 o 4 x_218 := ⟨_, rfl⟩
              have hP : va_P (dC, dI) vwCl (oW cq S_219) H := by rw [eS_219]; exact cP (oset t_13.1 hq_14 hD rfl (he_8_4 t_13.2) neI) hP1
              have hD : va_D A (oW cq S_219) := by rw [eS_219]; exact cD (oset t_13.1 hq_14 hD rfl (he_8_4 t_13.2) neI) hD1
              clear hP1 hD1
              have hIS_219 : oInv S_219 := by rw [eS_219]; exact oInv.I0 (k := 8) (lo := 0) (hi := 60) hIS_7 t_13.2 (by decide +kernel) rfl rfl rfl (by omega)
              have XS_219 : oX [804] S_7 S_219 := by rw [eS_219]; exact oX.I (k := 8) (key := 804) t_13.2 rfl (List.mem_singleton.mpr rfl)
              have pk_220 : oP S_219 o 0 = some rw := by rw [eS_219]; exact pk_11
              have pk_221 : oP S_219 o 2 = some cd := by rw [eS_219]; exact pk_12
              have X_222 : oX [803, 804, 805, 2063] Z S_219 := oX.st X_9 XS_219 (by decide +kernel)
              have g_223 : (oI S_219 o 1).toInt = (oI S_7 o 1).toInt := by rw [eS_219, setI_ne (by decide +kernel)]
              have g_224 : (oI S_219 o 4).toInt = x_218.toInt := by rw [eS_219, setI_same]
              have g_225 : (oI S_219 o 5).toInt = (oI S_7 o 5).toInt := by rw [eS_219, setI_ne (by decide +kernel)]
              refine lv_goto (tgt := 113) hx hb dX8_parseBracket_95 (by decide +kernel) ?_
              exact W.vret hx hb hr (fun t ht hW => ⟨⟨S_219, rfl, ⟨hIS_219, X_222, (by have hC := tX_C XS_7 to trw (by decide +kernel) (by decide +kernel); have a1 := tA_i S_7 o; have a2 := tA_i S_219 o; exact tB_1 hx_8 (by omega) (by rw [← hC]; exact bz_213) (oX.ty XS_7 to) (oX.ty XS_7 tcd) XS_219 (by omega))⟩, ⟨by rw [ht]; exact hP, va_K.moved hW.alike hK, hD⟩⟩, hS.F ht⟩) hS.2.2 dX8_parseBracket_113
        · have dc_192 := c_ne (a := r_189.toInt) (b := 0) rfl (by decide +kernel) c_192
          have bz_226 := bz1 hx_191 c_192
          have iv_227 : 0 ≤ (oI S_7 o 4).toInt ∧ (oI S_7 o 4).toInt ≤ 60 := oInv.iv hIS_7 t_13.2 rfl rfl
          have iv_228 : 0 ≤ (oI S_7 o 1).toInt ∧ (oI S_7 o 1).toInt ≤ 60 := oInv.iv hIS_7 t_13.2 rfl rfl
          have lt_229 := sf_lt (by decide +kernel) bz_226 (by omega)
          have iv_230 : 0 ≤ (oI S_7 o 3).toInt ∧ (oI S_7 o 3).toInt ≤ 60 := oInv.iv hIS_7 t_13.2 rfl rfl
          have iv_231 : 0 ≤ (oI S_7 o 4).toInt ∧ (oI S_7 o 4).toInt ≤ 60 := oInv.iv hIS_7 t_13.2 rfl rfl
          have z0 := tN_i Z o
          have z1 := tA_i Z o
          have z2 := tN_i S_7 o
          have z3 := tA_i S_7 o
          have z4 := tR_m hx_8 (by omega) (by omega)
          refine lv_aload_n hx hb dX8_parseBracket_39 rfl (lv_at hl 0 rfl) ?_
          refine va_get (D := (dC, dI)) (ci := 8) (v := .ref rw) (C := RX8) (T := TX8) (N := 6) hx hb hts in_wsX8_parseBracket_X8 hown hK hP q_14 hq_14 rfl 0 (by decide +kernel) (hts (.fieldLink RX8 9 "ShipOffice$Tape" "bytes" "[I") iw_X8_parseBracket_3) (fun _ h9 => h9) (o_rd pk_11) dX8_parseBracket_40 ?_
          refine lv_aload_n hx hb dX8_parseBracket_43 rfl (lv_at hl 0 rfl) ?_
          refine va_get (D := (dC, dI)) (ci := 8) (v := .int (oI S_7 o 4)) (C := RX8) (T := TX8) (N := 6) hx hb hts in_wsX8_parseBracket_X8 hown hK hP q_14 hq_14 rfl 4 (by decide +kernel) (hts (.fieldLink RX8 22 "ShipOffice$Tape" "at" "I") iw_X8_parseBracket_2) (fun _ h9 => h9) rfl dX8_parseBracket_44 ?_
          refine lv_topi (fun x_232 ex_232 => ?_)
          have hx_232 : 0 ≤ x_232.toInt ∧ x_232.toInt ≤ 60 := iv_of ex_232 (oInv.iv hIS_7 t_13.2 rfl rfl)
          have gx_232 : x_232.toInt = (oI S_7 o 4).toInt := iv_to ex_232
          clear ex_232
          have t_233 : oty S_7 rw 160 := (oX.ty XS_7 trw)
          obtain ⟨q_234, hq_234⟩ := og (cq := cq) t_233.1 (oE_a1 (n := 60) t_233.2 (by decide +kernel))
          refine va_iald hx hb hK hP q_234 0 hq_234 rfl (vp_in_iff.mpr (by omega)) dX8_parseBracket_47 ?_
          refine lv_topi (fun x_235 ex_235 => ?_)
          refine lv_istore_n (lv' := [(2, .int x_235), (0, .ref o), (1, .int x1)]) hx hb dX8_parseBracket_48 rfl hl (by decide +kernel) rfl (fun ls hl => ?_)
          refine lv_aload_n hx hb dX8_parseBracket_49 rfl (lv_at hl 1 rfl) ?_
          refine lv_dup hx hb dX8_parseBracket_50 rfl ?_
          refine va_get (D := (dC, dI)) (ci := 8) (v := .int (oI S_7 o 4)) (C := RX8) (T := TX8) (N := 6) hx hb hts in_wsX8_parseBracket_X8 hown hK hP q_14 hq_14 rfl 4 (by decide +kernel) (hts (.fieldLink RX8 22 "ShipOffice$Tape" "at" "I") iw_X8_parseBracket_2) (fun _ h9 => h9) rfl dX8_parseBracket_51 ?_
          refine lv_topi (fun x_236 ex_236 => ?_)
          have hx_236 : 0 ≤ x_236.toInt ∧ x_236.toInt ≤ 60 := iv_of ex_236 (oInv.iv hIS_7 t_13.2 rfl rfl)
          have gx_236 : x_236.toInt = (oI S_7 o 4).toInt := iv_to ex_236
          clear ex_236
          refine lv_iconst (v := 1) hx hb dX8_parseBracket_54 (by decide +kernel) ?_
          refine lv_iadd hx hb dX8_parseBracket_55 ?_
          refine lv_topi (fun x_237 ex_237 => ?_)
          have hx_237 : x_237.toInt = x_236.toInt + 1 := (iv_to ex_237).trans (ad_i rfl (by decide +kernel) (by omega) (by omega))
          refine va_put (D := (dC, dI)) (ci := 8) (v := .int x_237) (ty := .int) (C := RX8) (T := TX8) (N := 6) hx hb hts in_wsX8_parseBracket_X8 tyX8 tyX8_ok nmX8 hown hK hP hD hS q_14 hq_14 rfl 4 (by decide +kernel) (hts (.fieldLink RX8 22 "ShipOffice$Tape" "at" "I") iw_X8_parseBracket_2) (fun _ h9 => h9) rfl (by decide +kernel) rfl rfl (Nat.le_of_ble_eq_true rfl) dX8_parseBracket_56 (fun H locs hP1 hD1 hS => ?_)
          obtain ⟨S_238, eS_238⟩ : ∃ zq, zq = setI S_7 o 4 x_237 := ⟨_, rfl⟩
          have hP : va_P (dC, dI) vwCl (oW cq S_238) H := by rw [eS_238]; exact cP (oset t_13.1 hq_14 hD rfl (he_8_4 t_13.2) neI) hP1
          have hD : va_D A (oW cq S_238) := by rw [eS_238]; exact cD (oset t_13.1 hq_14 hD rfl (he_8_4 t_13.2) neI) hD1
          clear hP1 hD1
          have hIS_238 : oInv S_238 := by rw [eS_238]; exact oInv.I0 (k := 8) (lo := 0) (hi := 60) hIS_7 t_13.2 (by decide +kernel) rfl rfl rfl (by omega)
          have XS_238 : oX [804] S_7 S_238 := by rw [eS_238]; exact oX.I (k := 8) (key := 804) t_13.2 rfl (List.mem_singleton.mpr rfl)
          have pk_239 : oP S_238 o 0 = some rw := by rw [eS_238]; exact pk_11
          have pk_240 : oP S_238 o 2 = some cd := by rw [eS_238]; exact pk_12
          have X_241 : oX [803, 804, 805, 2063] Z S_238 := oX.st X_9 XS_238 (by decide +kernel)
          have g_242 : (oI S_238 o 1).toInt = (oI S_7 o 1).toInt := by rw [eS_238, setI_ne (by decide +kernel)]
          have g_243 : (oI S_238 o 3).toInt = (oI S_7 o 3).toInt := by rw [eS_238, setI_ne (by decide +kernel)]
          have g_244 : (oI S_238 o 4).toInt = x_237.toInt := by rw [eS_238, setI_same]
          have g_245 : (oI S_238 o 5).toInt = (oI S_7 o 5).toInt := by rw [eS_238, setI_ne (by decide +kernel)]
          have hkx_235 : x_235.toInt = 62 := by rw [(sf_e (y := x_232) (by omega) (by omega) (by omega) ex_235).symm.trans bz_226]; decide
          refine lv_aload_n hx hb dX8_parseBracket_59 rfl (lv_at hl 1 rfl) ?_
          refine lv_iload_n hx hb dX8_parseBracket_60 rfl (lv_at hl 2 rfl) ?_
          have t_246 : oty S_238 o 8 := (oX.ty XS_238 t_13)
          have hFc := o_free hD hS hA
          obtain ⟨q_247, hq_247⟩ := og (cq := cq) t_246.1 (oE_8 t_246.2)
          refine va_callv (va_runV (As := [.int x1]) (rest := []) ⟨hx, hb, hml, hown, hts⟩ (c_X8_parseSum_2f l dC dI H.size tL tS tG cq S_238 hIS_238 o t_246 x1 (by omega) rw pk_239 cd pk_240 (by omega) (by omega)) (cwV 1 hts gX8_parseBracket_X8_parseSum rfl rfl rfl (by decide +kernel) ⟨(Nat.le_of_ble_eq_true rfl), (Nat.le_of_ble_eq_true rfl)⟩) (pr_VO (r := (RX8, TX8, 6)) hP hK hD q_247 8 rfl hq_247 (hZ.go hS hFc)) rfl rfl hl.1 rfl (lv_room (Nat.le_of_ble_eq_true rfl)) dX8_parseBracket_61 ⟨(Nat.le_of_ble_eq_true rfl), (Nat.le_of_ble_eq_true rfl)⟩) hS (fun q _ h => hFc q h) hFc (fun u t H locs ht hvm w_248 hB hz1 hk1 hS => ?_)
          obtain ⟨S_250, rfl⟩ : ∃ z, z = u := ⟨_, rfl⟩
          obtain ⟨hP1, hK1, hD1⟩ := hB
          rw [ht] at hP1
          have hP : va_P (dC, dI) vwCl (oW cq S_250) H := hP1
          have hD : va_D A (oW cq S_250) := hD1.weaken (fun _ _ _ h => hFc _ h)
          clear hP1 hK1 hD1 hk1 hz1 hvm ht hFc
          obtain ⟨hIS_250, XS_250, hx_251⟩ := w_248
          have X_252 : oX [803, 804, 805, 2063] Z S_250 := oX.st X_241 XS_250 (by decide +kernel)
          have g_253 : (oI S_250 o 1).toInt = (oI S_238 o 1).toInt := by rw [oX.i XS_250 t_246 (by decide +kernel)]
          have pk_254 : oP S_250 o 0 = some rw := by rw [oX.p XS_250 t_246 (by decide +kernel)]; exact pk_239
          have pk_255 : oP S_250 o 2 = some cd := by rw [oX.p XS_250 t_246 (by decide +kernel)]; exact pk_240
          have t_257 : oty S_250 o 8 := (oX.ty XS_250 t_246)
          have iv_256 : 0 ≤ (oI S_250 o 4).toInt ∧ (oI S_250 o 4).toInt ≤ 60 := oInv.iv hIS_250 t_257.2 rfl rfl
          refine lv_aload_n hx hb dX8_parseBracket_64 rfl (lv_at hl 1 rfl) ?_
          refine lv_iload_n hx hb dX8_parseBracket_65 rfl (lv_at hl 0 rfl) ?_
          have hFc := o_free hD hS hA
          obtain ⟨q_258, hq_258⟩ := og (cq := cq) t_257.1 (oE_8 t_257.2)
          refine va_callv (va_runV (As := [.int x_235]) (rest := []) ⟨hx, hb, hml, hown, hts⟩ (c_X8_emitSign_f l dC dI H.size tL tS tG cq S_250 hIS_250 o t_257 x_235 cd pk_255 (by omega)) (cwV 1 hts gX8_parseBracket_X8_emitSign rfl rfl rfl (by decide +kernel) ⟨(Nat.le_of_ble_eq_true rfl), (Nat.le_of_ble_eq_true rfl)⟩) (pr_VO (r := (RX8, TX8, 6)) hP hK hD q_258 8 rfl hq_258 (hZ.go hS hFc)) rfl rfl hl.1 rfl (lv_room (Nat.le_of_ble_eq_true rfl)) dX8_parseBracket_66 ⟨(Nat.le_of_ble_eq_true rfl), (Nat.le_of_ble_eq_true rfl)⟩) hS (fun q _ h => hFc q h) hFc (fun u t H locs ht hvm w_259 hB hz1 hk1 hS => ?_)
          obtain ⟨S_261, rfl⟩ : ∃ z, z = u := ⟨_, rfl⟩
          obtain ⟨hP1, hK1, hD1⟩ := hB
          rw [ht] at hP1
          have hP : va_P (dC, dI) vwCl (oW cq S_261) H := hP1
          have hD : va_D A (oW cq S_261) := hD1.weaken (fun _ _ _ h => hFc _ h)
          clear hP1 hK1 hD1 hk1 hz1 hvm ht hFc
          obtain ⟨hIS_261, XS_261, hx_262⟩ := w_259
          have X_263 : oX [803, 804, 805, 2063] Z S_261 := oX.st X_252 XS_261 (by decide +kernel)
          have g_264 : (oI S_261 o 1).toInt = (oI S_250 o 1).toInt := by rw [oX.i XS_261 t_257 (by decide +kernel)]
          have pk_265 : oP S_261 o 0 = some rw := by rw [oX.p XS_261 t_257 (by decide +kernel)]; exact pk_254
          have pk_266 : oP S_261 o 2 = some cd := by rw [oX.p XS_261 t_257 (by decide +kernel)]; exact pk_255
          have t_268 : oty S_261 o 8 := (oX.ty XS_261 t_257)
          have iv_267 : 0 ≤ (oI S_261 o 4).toInt ∧ (oI S_261 o 4).toInt ≤ 60 := oInv.iv hIS_261 t_268.2 rfl rfl
          refine lv_aload_n hx hb dX8_parseBracket_69 rfl (lv_at hl 1 rfl) ?_
          obtain ⟨q_269, hq_269⟩ := og (cq := cq) t_268.1 (oE_8 t_268.2)
          refine va_get (D := (dC, dI)) (ci := 8) (v := .int (oI S_261 o 5)) (C := RX8) (T := TX8) (N := 6) hx hb hts in_wsX8_parseBracket_X8 hown hK hP q_269 hq_269 rfl 5 (by decide +kernel) (hts (.fieldLink RX8 28 "ShipOffice$Tape" "fault" "I") iw_X8_parseBracket_1) (fun _ h9 => h9) rfl dX8_parseBracket_70 ?_
          refine lv_topi (fun x_270 ex_270 => ?_)
          have gx_270 : x_270.toInt = (oI S_261 o 5).toInt := iv_to ex_270
          clear ex_270
          refine lv_if_ge (tgt := 98) hx hb dX8_parseBracket_73 (by decide +kernel) (fun c_271 => ?_) (fun c_271 => ?_)
          · have dc_271 := c_le (a := 0) (b := x_270.toInt) (by decide +kernel) rfl c_271
            refine lv_aload_n hx hb dX8_parseBracket_98 rfl (lv_at hl 1 rfl) ?_
            refine va_get (D := (dC, dI)) (ci := 8) (v := .int (oI S_261 o 5)) (C := RX8) (T := TX8) (N := 6) hx hb hts in_wsX8_parseBracket_X8 hown hK hP q_269 hq_269 rfl 5 (by decide +kernel) (hts (.fieldLink RX8 28 "ShipOffice$Tape" "fault" "I") iw_X8_parseBracket_1) (fun _ h9 => h9) rfl dX8_parseBracket_99 ?_
            refine lv_topi (fun x_272 ex_272 => ?_)
            have gx_272 : x_272.toInt = (oI S_261 o 5).toInt := iv_to ex_272
            clear ex_272
            refine lv_if_ge (tgt := 113) hx hb dX8_parseBracket_102 (by decide +kernel) (fun c_273 => ?_) (fun c_273 => ?_)
            · have dc_273 := c_le (a := 0) (b := x_272.toInt) (by decide +kernel) rfl c_273
              exact W.vret hx hb hr (fun t ht hW => ⟨⟨S_261, rfl, ⟨hIS_261, X_263, (by have hC := tX_C XS_7 to trw (by decide +kernel) (by decide +kernel); have a0 := tA_i Z o; have a1 := tA_i S_7 o; have a2 := tA_i S_238 o; have a3 := tA_i S_250 o; have n0 := tN_i Z o; have tb := tB_c (C := tC Z o rw) hx_8 (by omega) (by rw [← hC]; exact sf_e (y := x_232) (by omega) (by omega) (by omega) ex_235) (Or.inr (Or.inr ((sf_e (y := x_232) (by omega) (by omega) (by omega) ex_235).symm.trans bz_226))) (oX.ty XS_7 to) (oX.ty XS_7 tcd) XS_238 (by omega) (by have g := hx_251; rw [tX_C XS_238 (oX.ty XS_7 to) (oX.ty XS_7 trw) (by decide +kernel) (by decide +kernel), hC] at g; exact g) XS_261 (oX.ty XS_250 (oX.ty XS_238 (oX.ty XS_7 to))) (by omega) (by omega) hx_262; exact tB_c0 tb (by omega))⟩, ⟨by rw [ht]; exact hP, va_K.moved hW.alike hK, hD⟩⟩, hS.F ht⟩) hS.2.2 dX8_parseBracket_113
            · have dc_273 := c_nle (a := 0) (b := x_272.toInt) (by decide +kernel) rfl c_273
              exfalso; omega
          · have dc_271 := c_nle (a := 0) (b := x_270.toInt) (by decide +kernel) rfl c_271
            refine lv_aload_n hx hb dX8_parseBracket_76 rfl (lv_at hl 1 rfl) ?_
            refine lv_bipush (v := 41) hx hb dX8_parseBracket_77 (by decide +kernel) ?_
            have hFc : ∀ q, va_A [] H.size q → A q := pu_free hS hA
            refine va_calli (va_runV (As := [.int 41]) (rest := []) ⟨hx, hb, hml, hown, hts⟩ (c_X8_sees_f l dC dI H.size cq S_261 hIS_261 o t_268 41 rw pk_265 (by decide +kernel)) (cwV 1 hts gX8_parseBracket_X8_sees rfl rfl rfl (by decide +kernel) ⟨(Nat.le_of_ble_eq_true rfl), (Nat.le_of_ble_eq_true rfl)⟩) (pr_V (r := (RX8, TX8, 6)) hP hK hD q_269 8 rfl hq_269) rfl rfl hl.1 rfl (lv_room (Nat.le_of_ble_eq_true rfl)) dX8_parseBracket_79 ⟨(Nat.le_of_ble_eq_true rfl), (Nat.le_of_ble_eq_true rfl)⟩) hS (fun q _ h => hFc q h) hFc (fun r_275 u t H locs ht hvm w_274 hB hz1 hk1 hS => ?_)
            have hP := pu_keep hP hk1
            clear hk1 hz1 hvm hB ht hFc
            obtain ⟨hb_276, hx_277⟩ := w_274
            refine lv_if_eq (tgt := 98) hx hb dX8_parseBracket_82 (by decide +kernel) (fun c_278 => ?_) (fun c_278 => ?_)
            · have dc_278 := c_eq (a := r_275.toInt) (b := 0) rfl (by decide +kernel) c_278
              have bz_279 := bz0 hx_277 c_278
              refine lv_aload_n hx hb dX8_parseBracket_98 rfl (lv_at hl 1 rfl) ?_
              refine va_get (D := (dC, dI)) (ci := 8) (v := .int (oI S_261 o 5)) (C := RX8) (T := TX8) (N := 6) hx hb hts in_wsX8_parseBracket_X8 hown hK hP q_269 hq_269 rfl 5 (by decide +kernel) (hts (.fieldLink RX8 28 "ShipOffice$Tape" "fault" "I") iw_X8_parseBracket_1) (fun _ h9 => h9) rfl dX8_parseBracket_99 ?_
              refine lv_topi (fun x_280 ex_280 => ?_)
              have gx_280 : x_280.toInt = (oI S_261 o 5).toInt := iv_to ex_280
              clear ex_280
              refine lv_if_ge (tgt := 113) hx hb dX8_parseBracket_102 (by decide +kernel) (fun c_281 => ?_) (fun c_281 => ?_)
              · have dc_281 := c_le (a := 0) (b := x_280.toInt) (by decide +kernel) rfl c_281
                exfalso; omega
              · have dc_281 := c_nle (a := 0) (b := x_280.toInt) (by decide +kernel) rfl c_281
                refine lv_aload_n hx hb dX8_parseBracket_105 rfl (lv_at hl 1 rfl) ?_
                refine lv_aload_n hx hb dX8_parseBracket_106 rfl (lv_at hl 1 rfl) ?_
                refine va_get (D := (dC, dI)) (ci := 8) (v := .int (oI S_261 o 4)) (C := RX8) (T := TX8) (N := 6) hx hb hts in_wsX8_parseBracket_X8 hown hK hP q_269 hq_269 rfl 4 (by decide +kernel) (hts (.fieldLink RX8 22 "ShipOffice$Tape" "at" "I") iw_X8_parseBracket_2) (fun _ h9 => h9) rfl dX8_parseBracket_107 ?_
                refine lv_topi (fun x_282 ex_282 => ?_)
                have hx_282 : 0 ≤ x_282.toInt ∧ x_282.toInt ≤ 60 := iv_of ex_282 (oInv.iv hIS_261 t_268.2 rfl rfl)
                have gx_282 : x_282.toInt = (oI S_261 o 4).toInt := iv_to ex_282
                clear ex_282
                refine va_put (D := (dC, dI)) (ci := 8) (v := .int x_282) (ty := .int) (C := RX8) (T := TX8) (N := 6) hx hb hts in_wsX8_parseBracket_X8 tyX8 tyX8_ok nmX8 hown hK hP hD hS q_269 hq_269 rfl 5 (by decide +kernel) (hts (.fieldLink RX8 28 "ShipOffice$Tape" "fault" "I") iw_X8_parseBracket_1) (fun _ h9 => h9) rfl (by decide +kernel) rfl rfl (Nat.le_of_ble_eq_true rfl) dX8_parseBracket_110 (fun H locs hP1 hD1 hS => ?_)
                obtain ⟨S_283, eS_283⟩ : ∃ zq, zq = setI S_261 o 5 x_282 := ⟨_, rfl⟩
                have hP : va_P (dC, dI) vwCl (oW cq S_283) H := by rw [eS_283]; exact cP (oset t_268.1 hq_269 hD rfl (he_8_5 t_268.2) neI) hP1
                have hD : va_D A (oW cq S_283) := by rw [eS_283]; exact cD (oset t_268.1 hq_269 hD rfl (he_8_5 t_268.2) neI) hD1
                clear hP1 hD1
                have hIS_283 : oInv S_283 := by rw [eS_283]; exact oInv.I0 (k := 8) (lo := -2147483648) (hi := 2147483647) hIS_261 t_268.2 (by decide +kernel) rfl rfl rfl (iv_all _)
                have XS_283 : oX [805] S_261 S_283 := by rw [eS_283]; exact oX.I (k := 8) (key := 805) t_268.2 rfl (List.mem_singleton.mpr rfl)
                have pk_284 : oP S_283 o 0 = some rw := by rw [eS_283]; exact pk_265
                have pk_285 : oP S_283 o 2 = some cd := by rw [eS_283]; exact pk_266
                have X_286 : oX [803, 804, 805, 2063] Z S_283 := oX.st X_263 XS_283 (by decide +kernel)
                have g_287 : (oI S_283 o 1).toInt = (oI S_261 o 1).toInt := by rw [eS_283, setI_ne (by decide +kernel)]
                have g_288 : (oI S_283 o 4).toInt = (oI S_261 o 4).toInt := by rw [eS_283, setI_ne (by decide +kernel)]
                have g_289 : (oI S_283 o 5).toInt = x_282.toInt := by rw [eS_283, setI_same]
                exact W.vret hx hb hr (fun t ht hW => ⟨⟨S_283, rfl, ⟨hIS_283, X_286, (by have hC := tX_C XS_7 to trw (by decide +kernel) (by decide +kernel); have a0 := tA_i Z o; have a1 := tA_i S_7 o; have a2 := tA_i S_238 o; have a3 := tA_i S_250 o; have n0 := tN_i Z o; have tb := tB_c (C := tC Z o rw) hx_8 (by omega) (by rw [← hC]; exact sf_e (y := x_232) (by omega) (by omega) (by omega) ex_235) (Or.inr (Or.inr ((sf_e (y := x_232) (by omega) (by omega) (by omega) ex_235).symm.trans bz_226))) (oX.ty XS_7 to) (oX.ty XS_7 tcd) XS_238 (by omega) (by have g := hx_251; rw [tX_C XS_238 (oX.ty XS_7 to) (oX.ty XS_7 trw) (by decide +kernel) (by decide +kernel), hC] at g; exact g) XS_261 (oX.ty XS_250 (oX.ty XS_238 (oX.ty XS_7 to))) (by omega) (by omega) hx_262; have hC3 := tX_C X_263 to trw (by decide +kernel) (by decide +kernel); exact tB_c2 tb (by omega) (by rw [← hC3]; exact bz_279) (oX.ty XS_261 (oX.ty XS_250 (oX.ty XS_238 (oX.ty XS_7 to)))) XS_283 (by omega) (by omega))⟩, ⟨by rw [ht]; exact hP, va_K.moved hW.alike hK, hD⟩⟩, hS.F ht⟩) hS.2.2 dX8_parseBracket_113
            · have dc_278 := c_ne (a := r_275.toInt) (b := 0) rfl (by decide +kernel) c_278
              have bz_290 := bz1 hx_277 c_278
              have iv_291 : 0 ≤ (oI S_261 o 4).toInt ∧ (oI S_261 o 4).toInt ≤ 60 := oInv.iv hIS_261 t_268.2 rfl rfl
              have iv_292 : 0 ≤ (oI S_261 o 1).toInt ∧ (oI S_261 o 1).toInt ≤ 60 := oInv.iv hIS_261 t_268.2 rfl rfl
              have lt_293 := sf_lt (by decide +kernel) bz_290 (by omega)
              refine lv_aload_n hx hb dX8_parseBracket_85 rfl (lv_at hl 1 rfl) ?_
              refine lv_dup hx hb dX8_parseBracket_86 rfl ?_
              refine va_get (D := (dC, dI)) (ci := 8) (v := .int (oI S_261 o 4)) (C := RX8) (T := TX8) (N := 6) hx hb hts in_wsX8_parseBracket_X8 hown hK hP q_269 hq_269 rfl 4 (by decide +kernel) (hts (.fieldLink RX8 22 "ShipOffice$Tape" "at" "I") iw_X8_parseBracket_2) (fun _ h9 => h9) rfl dX8_parseBracket_87 ?_
              refine lv_topi (fun x_294 ex_294 => ?_)
              have hx_294 : 0 ≤ x_294.toInt ∧ x_294.toInt ≤ 60 := iv_of ex_294 (oInv.iv hIS_261 t_268.2 rfl rfl)
              have gx_294 : x_294.toInt = (oI S_261 o 4).toInt := iv_to ex_294
              clear ex_294
              refine lv_iconst (v := 1) hx hb dX8_parseBracket_90 (by decide +kernel) ?_
              refine lv_iadd hx hb dX8_parseBracket_91 ?_
              refine lv_topi (fun x_295 ex_295 => ?_)
              have hx_295 : x_295.toInt = x_294.toInt + 1 := (iv_to ex_295).trans (ad_i rfl (by decide +kernel) (by omega) (by omega))
              refine va_put (D := (dC, dI)) (ci := 8) (v := .int x_295) (ty := .int) (C := RX8) (T := TX8) (N := 6) hx hb hts in_wsX8_parseBracket_X8 tyX8 tyX8_ok nmX8 hown hK hP hD hS q_269 hq_269 rfl 4 (by decide +kernel) (hts (.fieldLink RX8 22 "ShipOffice$Tape" "at" "I") iw_X8_parseBracket_2) (fun _ h9 => h9) rfl (by decide +kernel) rfl rfl (Nat.le_of_ble_eq_true rfl) dX8_parseBracket_92 (fun H locs hP1 hD1 hS => ?_)
              obtain ⟨S_296, eS_296⟩ : ∃ zq, zq = setI S_261 o 4 x_295 := ⟨_, rfl⟩
              have hP : va_P (dC, dI) vwCl (oW cq S_296) H := by rw [eS_296]; exact cP (oset t_268.1 hq_269 hD rfl (he_8_4 t_268.2) neI) hP1
              have hD : va_D A (oW cq S_296) := by rw [eS_296]; exact cD (oset t_268.1 hq_269 hD rfl (he_8_4 t_268.2) neI) hD1
              clear hP1 hD1
              have hIS_296 : oInv S_296 := by rw [eS_296]; exact oInv.I0 (k := 8) (lo := 0) (hi := 60) hIS_261 t_268.2 (by decide +kernel) rfl rfl rfl (by omega)
              have XS_296 : oX [804] S_261 S_296 := by rw [eS_296]; exact oX.I (k := 8) (key := 804) t_268.2 rfl (List.mem_singleton.mpr rfl)
              have pk_297 : oP S_296 o 0 = some rw := by rw [eS_296]; exact pk_265
              have pk_298 : oP S_296 o 2 = some cd := by rw [eS_296]; exact pk_266
              have X_299 : oX [803, 804, 805, 2063] Z S_296 := oX.st X_263 XS_296 (by decide +kernel)
              have g_300 : (oI S_296 o 1).toInt = (oI S_261 o 1).toInt := by rw [eS_296, setI_ne (by decide +kernel)]
              have g_301 : (oI S_296 o 4).toInt = x_295.toInt := by rw [eS_296, setI_same]
              have g_302 : (oI S_296 o 5).toInt = (oI S_261 o 5).toInt := by rw [eS_296, setI_ne (by decide +kernel)]
              refine lv_goto (tgt := 113) hx hb dX8_parseBracket_95 (by decide +kernel) ?_
              exact W.vret hx hb hr (fun t ht hW => ⟨⟨S_296, rfl, ⟨hIS_296, X_299, (by have hC := tX_C XS_7 to trw (by decide +kernel) (by decide +kernel); have a0 := tA_i Z o; have a1 := tA_i S_7 o; have a2 := tA_i S_238 o; have a3 := tA_i S_250 o; have n0 := tN_i Z o; have tb := tB_c (C := tC Z o rw) hx_8 (by omega) (by rw [← hC]; exact sf_e (y := x_232) (by omega) (by omega) (by omega) ex_235) (Or.inr (Or.inr ((sf_e (y := x_232) (by omega) (by omega) (by omega) ex_235).symm.trans bz_226))) (oX.ty XS_7 to) (oX.ty XS_7 tcd) XS_238 (by omega) (by have g := hx_251; rw [tX_C XS_238 (oX.ty XS_7 to) (oX.ty XS_7 trw) (by decide +kernel) (by decide +kernel), hC] at g; exact g) XS_261 (oX.ty XS_250 (oX.ty XS_238 (oX.ty XS_7 to))) (by omega) (by omega) hx_262; have hC3 := tX_C X_263 to trw (by decide +kernel) (by decide +kernel); have a4 := tA_i S_261 o; have a5 := tA_i S_296 o; exact tB_c1 tb (by omega) (by rw [← hC3]; exact bz_290) (oX.ty XS_261 (oX.ty XS_250 (oX.ty XS_238 (oX.ty XS_7 to)))) (oX.ty XS_261 (oX.ty XS_250 (oX.ty XS_238 (oX.ty XS_7 tcd)))) XS_296 (by omega))⟩, ⟨by rw [ht]; exact hP, va_K.moved hW.alike hK, hD⟩⟩, hS.F ht⟩) hS.2.2 dX8_parseBracket_113
