


set_option maxHeartbeats 4000000 in
set_option maxRecDepth 100000 in
theorem c_X8_parse_f (l : Launch) (dC : Nat → ClassId) (dI : Nat → Nat → Nat) (sz : Nat) (tL tS tG : Nat) (cq : Nat → ClassId) (Z : oS) (gI : oInv Z) (o : Nat) (to : oty Z o 8) (rw : Nat) (hrw : oP Z o 0 = some rw) (cd : Nat) (hcd : oP Z o 2 = some cd) : Met l yX8_parse wsX8_parse ({ frames := 25, cells := 0, slots := 0, locals := 561 }) (va_Pc [.ref o] (pcO (dC, dI) (oT cq) (oW cq Z) sz tL tS tG (oW cq Z))) (va_Qi (fun (r : Int32) (u : oS) => oInv u ∧ oX [803, 804, 805, 2063] Z u ∧ (tP Z u o cd r (cS (tC Z o rw) 5 0))) (fun u t => va_P (dC, dI) vwCl (oW cq u) t.heap ∧ va_K (dC, dI) vwCl (oT cq) t ∧ va_D (va_A (oW cq Z) sz) (oW cq u)) (va_A (oW cq Z) sz)) 0 0 (va_A (oW cq Z) sz) := by
  refine Met.ofW (cc := cX8_parse) (maxL := 1) (ret := (some .int)) (by decide +kernel) rfl ?_
  intro p e s m args below meth c s₁ B hml hv
  obtain ⟨rfl, ⟨hsz, hP, hK, hD0⟩, hZ⟩ := hv
  have hx := B.exec
  have hb := B.bytes
  have hr := B.returns
  have hts := atoms_spec (ws := wsX8_parse) B.pre
  have hown : s.vm.findClass RX8 = some m.cls := findClass_of_methodNamed B.named
  have hlocks := B.notSynchronized
  subst hsz
  have hD := hD0.self (sz := s.heap.size)
  generalize hAe : va_A (oW cq Z) s.heap.size = A at hD hZ ⊢
  have hA : ∀ q : Nat, s.heap.size ≤ q → A q := fun q h => by rw [← hAe]; exact Or.inr h
  have hS : va_S A s.heap s.heap [] := va_S.rf
  have hP : va_P (dC, dI) vwCl (oW cq Z) s.heap := hP
  have hl := lv_entry ([.ref o]) (n := 1) (Nat.le_of_ble_eq_true rfl)
  rw [lg_entry_eq]
  generalize (lg_sl ([.ref o]) ++ List.replicate (1 - (lg_sl ([.ref o])).length) Slot.unset).toArray = ls at hl ⊢
  have hl : lv_has ls 1 [(0, .ref o)] := hl
  have trw : oty Z rw 160 := oInv.rd gI to.2 hrw rfl rfl
  have tcd : oty Z cd 63 := oInv.rd gI to.2 hcd rfl rfl
  have iv_1 : 0 ≤ (oI Z o 1).toInt ∧ (oI Z o 1).toInt ≤ 60 := oInv.iv gI to.2 rfl rfl
  refine lv_aload_n hx hb dX8_parse_0 rfl (lv_at hl 0 rfl) ?_
  refine lv_iconst (v := 0) hx hb dX8_parse_1 (by decide +kernel) ?_
  obtain ⟨q_2, hq_2⟩ := og (cq := cq) to.1 (oE_8 to.2)
  refine va_put (D := (dC, dI)) (ci := 8) (v := .int 0) (ty := .int) (C := RX8) (T := TX8) (N := 6) hx hb hts in_wsX8_parse_X8 tyX8 tyX8_ok nmX8 hown hK hP hD hS q_2 hq_2 rfl 4 (by decide +kernel) (hts (.fieldLink RX8 22 "ShipOffice$Tape" "at" "I") iw_X8_parse_1) (fun _ h9 => h9) rfl (by decide +kernel) rfl rfl (Nat.le_of_ble_eq_true rfl) dX8_parse_2 (fun H locs hP1 hD1 hS => ?_)
  obtain ⟨S_3, eS_3⟩ : ∃ zq, zq = setI Z o 4 0 := ⟨_, rfl⟩
  have hP : va_P (dC, dI) vwCl (oW cq S_3) H := by rw [eS_3]; exact cP (oset to.1 hq_2 hD rfl (he_8_4 to.2) neI) hP1
  have hD : va_D A (oW cq S_3) := by rw [eS_3]; exact cD (oset to.1 hq_2 hD rfl (he_8_4 to.2) neI) hD1
  clear hP1 hD1
  have hIS_3 : oInv S_3 := by rw [eS_3]; exact oInv.I0 (k := 8) (lo := 0) (hi := 60) gI to.2 (by decide +kernel) rfl rfl rfl (by decide +kernel)
  have XS_3 : oX [804] Z S_3 := by rw [eS_3]; exact oX.I (k := 8) (key := 804) to.2 rfl (List.mem_singleton.mpr rfl)
  have pk_4 : oP S_3 o 0 = some rw := by rw [eS_3]; exact hrw
  have pk_5 : oP S_3 o 2 = some cd := by rw [eS_3]; exact hcd
  have X_6 : oX [803, 804, 805, 2063] Z S_3 := oX.st oX.rf XS_3 (by decide +kernel)
  have g_7 : (oI S_3 o 1).toInt = (oI Z o 1).toInt := by rw [eS_3, setI_ne (by decide +kernel)]
  have g_8 : (oI S_3 o 3).toInt = (oI Z o 3).toInt := by rw [eS_3, setI_ne (by decide +kernel)]
  have g_9 : (oI S_3 o 4).toInt = 0 := by rw [eS_3, setI_same]; decide
  have g_10 : (oI S_3 o 5).toInt = (oI Z o 5).toInt := by rw [eS_3, setI_ne (by decide +kernel)]
  refine lv_aload_n hx hb dX8_parse_5 rfl (lv_at hl 0 rfl) ?_
  refine lv_iconst (v := 0) hx hb dX8_parse_6 (by decide +kernel) ?_
  have t_11 : oty S_3 o 8 := (oX.ty XS_3 to)
  obtain ⟨q_12, hq_12⟩ := og (cq := cq) t_11.1 (oE_8 t_11.2)
  refine va_put (D := (dC, dI)) (ci := 8) (v := .int 0) (ty := .int) (C := RX8) (T := TX8) (N := 6) hx hb hts in_wsX8_parse_X8 tyX8 tyX8_ok nmX8 hown hK hP hD hS q_12 hq_12 rfl 3 (by decide +kernel) (hts (.fieldLink RX8 25 "ShipOffice$Tape" "codeSize" "I") iw_X8_parse_2) (fun _ h9 => h9) rfl (by decide +kernel) rfl rfl (Nat.le_of_ble_eq_true rfl) dX8_parse_7 (fun H locs hP1 hD1 hS => ?_)
  obtain ⟨S_13, eS_13⟩ : ∃ zq, zq = setI S_3 o 3 0 := ⟨_, rfl⟩
  have hP : va_P (dC, dI) vwCl (oW cq S_13) H := by rw [eS_13]; exact cP (oset t_11.1 hq_12 hD rfl (he_8_3 t_11.2) neI) hP1
  have hD : va_D A (oW cq S_13) := by rw [eS_13]; exact cD (oset t_11.1 hq_12 hD rfl (he_8_3 t_11.2) neI) hD1
  clear hP1 hD1
  have hIS_13 : oInv S_13 := by rw [eS_13]; exact oInv.I0 (k := 8) (lo := 0) (hi := 60) hIS_3 t_11.2 (by decide +kernel) rfl rfl rfl (by decide +kernel)
  have XS_13 : oX [803] S_3 S_13 := by rw [eS_13]; exact oX.I (k := 8) (key := 803) t_11.2 rfl (List.mem_singleton.mpr rfl)
  have pk_14 : oP S_13 o 0 = some rw := by rw [eS_13]; exact pk_4
  have pk_15 : oP S_13 o 2 = some cd := by rw [eS_13]; exact pk_5
  have X_16 : oX [803, 804, 805, 2063] Z S_13 := oX.st X_6 XS_13 (by decide +kernel)
  have g_17 : (oI S_13 o 1).toInt = (oI S_3 o 1).toInt := by rw [eS_13, setI_ne (by decide +kernel)]
  have g_18 : (oI S_13 o 3).toInt = 0 := by rw [eS_13, setI_same]; decide
  have g_19 : (oI S_13 o 4).toInt = (oI S_3 o 4).toInt := by rw [eS_13, setI_ne (by decide +kernel)]
  have g_20 : (oI S_13 o 5).toInt = (oI S_3 o 5).toInt := by rw [eS_13, setI_ne (by decide +kernel)]
  refine lv_aload_n hx hb dX8_parse_10 rfl (lv_at hl 0 rfl) ?_
  refine lv_iconst (v := (-1)) hx hb dX8_parse_11 (by decide +kernel) ?_
  have t_21 : oty S_13 o 8 := (oX.ty XS_13 t_11)
  obtain ⟨q_22, hq_22⟩ := og (cq := cq) t_21.1 (oE_8 t_21.2)
  refine va_put (D := (dC, dI)) (ci := 8) (v := .int (-1)) (ty := .int) (C := RX8) (T := TX8) (N := 6) hx hb hts in_wsX8_parse_X8 tyX8 tyX8_ok nmX8 hown hK hP hD hS q_22 hq_22 rfl 5 (by decide +kernel) (hts (.fieldLink RX8 28 "ShipOffice$Tape" "fault" "I") iw_X8_parse_3) (fun _ h9 => h9) rfl (by decide +kernel) rfl rfl (Nat.le_of_ble_eq_true rfl) dX8_parse_12 (fun H locs hP1 hD1 hS => ?_)
  obtain ⟨S_23, eS_23⟩ : ∃ zq, zq = setI S_13 o 5 (-1) := ⟨_, rfl⟩
  have hP : va_P (dC, dI) vwCl (oW cq S_23) H := by rw [eS_23]; exact cP (oset t_21.1 hq_22 hD rfl (he_8_5 t_21.2) neI) hP1
  have hD : va_D A (oW cq S_23) := by rw [eS_23]; exact cD (oset t_21.1 hq_22 hD rfl (he_8_5 t_21.2) neI) hD1
  clear hP1 hD1
  have hIS_23 : oInv S_23 := by rw [eS_23]; exact oInv.I0 (k := 8) (lo := -2147483648) (hi := 2147483647) hIS_13 t_21.2 (by decide +kernel) rfl rfl rfl (iv_all _)
  have XS_23 : oX [805] S_13 S_23 := by rw [eS_23]; exact oX.I (k := 8) (key := 805) t_21.2 rfl (List.mem_singleton.mpr rfl)
  have pk_24 : oP S_23 o 0 = some rw := by rw [eS_23]; exact pk_14
  have pk_25 : oP S_23 o 2 = some cd := by rw [eS_23]; exact pk_15
  have X_26 : oX [803, 804, 805, 2063] Z S_23 := oX.st X_16 XS_23 (by decide +kernel)
  have g_27 : (oI S_23 o 1).toInt = (oI S_13 o 1).toInt := by rw [eS_23, setI_ne (by decide +kernel)]
  have g_28 : (oI S_23 o 3).toInt = (oI S_13 o 3).toInt := by rw [eS_23, setI_ne (by decide +kernel)]
  have g_29 : (oI S_23 o 4).toInt = (oI S_13 o 4).toInt := by rw [eS_23, setI_ne (by decide +kernel)]
  have g_30 : (oI S_23 o 5).toInt = (-1) := by rw [eS_23, setI_same]; decide
  refine lv_aload_n hx hb dX8_parse_15 rfl (lv_at hl 0 rfl) ?_
  refine lv_iconst (v := 0) hx hb dX8_parse_16 (by decide +kernel) ?_
  have t_31 : oty S_23 o 8 := (oX.ty XS_23 t_21)
  have hFc := o_free hD hS hA
  obtain ⟨q_32, hq_32⟩ := og (cq := cq) t_31.1 (oE_8 t_31.2)
  refine va_callv (va_runV (As := [.int 0]) (rest := []) ⟨hx, hb, hml, hown, hts⟩ (c_X8_parseSum_0f l dC dI H.size tL tS tG cq S_23 hIS_23 o t_31 0 (by decide +kernel) rw pk_24 cd pk_25 (by omega) (by omega)) (cwV 1 hts gX8_parse_X8_parseSum rfl rfl rfl (by decide +kernel) ⟨(Nat.le_of_ble_eq_true rfl), (Nat.le_of_ble_eq_true rfl)⟩) (pr_VO (r := (RX8, TX8, 6)) hP hK hD q_32 8 rfl hq_32 (hZ.go hS hFc)) rfl rfl hl.1 rfl (lv_room (Nat.le_of_ble_eq_true rfl)) dX8_parse_17 ⟨(Nat.le_of_ble_eq_true rfl), (Nat.le_of_ble_eq_true rfl)⟩) hS (fun q _ h => hFc q h) hFc (fun u t H locs ht hvm w_33 hB hz1 hk1 hS => ?_)
  obtain ⟨S_35, rfl⟩ : ∃ z, z = u := ⟨_, rfl⟩
  obtain ⟨hP1, hK1, hD1⟩ := hB
  rw [ht] at hP1
  have hP : va_P (dC, dI) vwCl (oW cq S_35) H := hP1
  have hD : va_D A (oW cq S_35) := hD1.weaken (fun _ _ _ h => hFc _ h)
  clear hP1 hK1 hD1 hk1 hz1 hvm ht hFc
  obtain ⟨hIS_35, XS_35, hx_36⟩ := w_33
  have X_37 : oX [803, 804, 805, 2063] Z S_35 := oX.st X_26 XS_35 (by decide +kernel)
  have g_38 : (oI S_35 o 1).toInt = (oI S_23 o 1).toInt := by rw [oX.i XS_35 t_31 (by decide +kernel)]
  have pk_39 : oP S_35 o 0 = some rw := by rw [oX.p XS_35 t_31 (by decide +kernel)]; exact pk_24
  have pk_40 : oP S_35 o 2 = some cd := by rw [oX.p XS_35 t_31 (by decide +kernel)]; exact pk_25
  have t_42 : oty S_35 o 8 := (oX.ty XS_35 t_31)
  have iv_41 : 0 ≤ (oI S_35 o 4).toInt ∧ (oI S_35 o 4).toInt ≤ 60 := oInv.iv hIS_35 t_42.2 rfl rfl
  have iv_43 : 0 ≤ (oI S_35 o 1).toInt ∧ (oI S_35 o 1).toInt ≤ 60 := oInv.iv hIS_35 t_42.2 rfl rfl
  refine lv_aload_n hx hb dX8_parse_20 rfl (lv_at hl 0 rfl) ?_
  obtain ⟨q_44, hq_44⟩ := og (cq := cq) t_42.1 (oE_8 t_42.2)
  refine va_get (D := (dC, dI)) (ci := 8) (v := .int (oI S_35 o 5)) (C := RX8) (T := TX8) (N := 6) hx hb hts in_wsX8_parse_X8 hown hK hP q_44 hq_44 rfl 5 (by decide +kernel) (hts (.fieldLink RX8 28 "ShipOffice$Tape" "fault" "I") iw_X8_parse_3) (fun _ h9 => h9) rfl dX8_parse_21 ?_
  refine lv_topi (fun x_45 ex_45 => ?_)
  have gx_45 : x_45.toInt = (oI S_35 o 5).toInt := iv_to ex_45
  clear ex_45
  refine lv_if_ge (tgt := 46) hx hb dX8_parse_24 (by decide +kernel) (fun c_46 => ?_) (fun c_46 => ?_)
  · have dc_46 := c_le (a := 0) (b := x_45.toInt) (by decide +kernel) rfl c_46
    refine lv_aload_n hx hb dX8_parse_46 rfl (lv_at hl 0 rfl) ?_
    refine va_get (D := (dC, dI)) (ci := 8) (v := .int (oI S_35 o 5)) (C := RX8) (T := TX8) (N := 6) hx hb hts in_wsX8_parse_X8 hown hK hP q_44 hq_44 rfl 5 (by decide +kernel) (hts (.fieldLink RX8 28 "ShipOffice$Tape" "fault" "I") iw_X8_parse_3) (fun _ h9 => h9) rfl dX8_parse_47 ?_
    refine lv_topi (fun x_47 ex_47 => ?_)
    have gx_47 : x_47.toInt = (oI S_35 o 5).toInt := iv_to ex_47
    clear ex_47
    exact W.iret (v := x_47) hx hb hr (fun t ht hW => ⟨⟨x_47, S_35, rfl, ⟨hIS_35, X_37, (by have hC := tX_C X_26 to trw (by decide +kernel) (by decide +kernel); have a1 := tA_i S_23 o; have n1 := tN_i S_23 o; have b1 : tA S_23 o = 0 := (by omega); have b2 : tN S_23 o = 0 := (by omega); have g := hx_36; rw [hC, b1] at g; rcases eR : cS (tC Z o rw) 5 0 with ⟨q, w, E⟩; rw [eR] at g; have g1 : tA S_35 o = q := g.1; have a4 := tA_i S_35 o; have ew := tR_f g (by omega); subst ew; exact Or.inr ⟨fun k => Bool.false_ne_true k.1, (by have g9 := g.2.2.1 rfl; simp only at g9 ⊢; omega), (by have g9 := g.2.2.1 rfl; simp only at g9; omega)⟩)⟩, ⟨by rw [ht]; exact hP, va_K.moved hW.alike hK, hD⟩⟩, hS.F ht⟩) hS.2.2 dX8_parse_50
  · have dc_46 := c_nle (a := 0) (b := x_45.toInt) (by decide +kernel) rfl c_46
    refine lv_aload_n hx hb dX8_parse_27 rfl (lv_at hl 0 rfl) ?_
    refine va_get (D := (dC, dI)) (ci := 8) (v := .int (oI S_35 o 4)) (C := RX8) (T := TX8) (N := 6) hx hb hts in_wsX8_parse_X8 hown hK hP q_44 hq_44 rfl 4 (by decide +kernel) (hts (.fieldLink RX8 22 "ShipOffice$Tape" "at" "I") iw_X8_parse_1) (fun _ h9 => h9) rfl dX8_parse_28 ?_
    refine lv_topi (fun x_48 ex_48 => ?_)
    have hx_48 : 0 ≤ x_48.toInt ∧ x_48.toInt ≤ 60 := iv_of ex_48 (oInv.iv hIS_35 t_42.2 rfl rfl)
    have gx_48 : x_48.toInt = (oI S_35 o 4).toInt := iv_to ex_48
    clear ex_48
    refine lv_aload_n hx hb dX8_parse_31 rfl (lv_at hl 0 rfl) ?_
    refine va_get (D := (dC, dI)) (ci := 8) (v := .int (oI S_35 o 1)) (C := RX8) (T := TX8) (N := 6) hx hb hts in_wsX8_parse_X8 hown hK hP q_44 hq_44 rfl 1 (by decide +kernel) (hts (.fieldLink RX8 18 "ShipOffice$Tape" "size" "I") iw_X8_parse_4) (fun _ h9 => h9) rfl dX8_parse_32 ?_
    refine lv_topi (fun x_49 ex_49 => ?_)
    have hx_49 : 0 ≤ x_49.toInt ∧ x_49.toInt ≤ 60 := iv_of ex_49 (oInv.iv hIS_35 t_42.2 rfl rfl)
    have gx_49 : x_49.toInt = (oI S_35 o 1).toInt := iv_to ex_49
    clear ex_49
    refine lv_icmp_ge (tgt := 46) hx hb dX8_parse_35 (by decide +kernel) (fun c_50 => ?_) (fun c_50 => ?_)
    · have dc_50 := c_le (a := x_49.toInt) (b := x_48.toInt) rfl rfl c_50
      refine lv_aload_n hx hb dX8_parse_46 rfl (lv_at hl 0 rfl) ?_
      refine va_get (D := (dC, dI)) (ci := 8) (v := .int (oI S_35 o 5)) (C := RX8) (T := TX8) (N := 6) hx hb hts in_wsX8_parse_X8 hown hK hP q_44 hq_44 rfl 5 (by decide +kernel) (hts (.fieldLink RX8 28 "ShipOffice$Tape" "fault" "I") iw_X8_parse_3) (fun _ h9 => h9) rfl dX8_parse_47 ?_
      refine lv_topi (fun x_51 ex_51 => ?_)
      have gx_51 : x_51.toInt = (oI S_35 o 5).toInt := iv_to ex_51
      clear ex_51
      exact W.iret (v := x_51) hx hb hr (fun t ht hW => ⟨⟨x_51, S_35, rfl, ⟨hIS_35, X_37, (by have hC := tX_C X_26 to trw (by decide +kernel) (by decide +kernel); have a1 := tA_i S_23 o; have n1 := tN_i S_23 o; have b1 : tA S_23 o = 0 := (by omega); have b2 : tN S_23 o = 0 := (by omega); have g := hx_36; rw [hC, b1] at g; rcases eR : cS (tC Z o rw) 5 0 with ⟨q, w, E⟩; rw [eR] at g; have g1 : tA S_35 o = q := g.1; have a4 := tA_i S_35 o; have ew := tR_t g (by omega); subst ew; obtain ⟨k1, k2, k3⟩ := g.2.2.2 rfl; simp only at k3; have k4 := k3.1; rw [b2, Nat.zero_add] at k4; refine Or.inl ⟨rfl, by simp only; omega, by omega, k4, fun j hj => ?_⟩; have k5 := k3.2.2 j hj; rw [b2, Nat.zero_add] at k5; exact k5)⟩, ⟨by rw [ht]; exact hP, va_K.moved hW.alike hK, hD⟩⟩, hS.F ht⟩) hS.2.2 dX8_parse_50
    · have dc_50 := c_nle (a := x_49.toInt) (b := x_48.toInt) rfl rfl c_50
      refine lv_aload_n hx hb dX8_parse_38 rfl (lv_at hl 0 rfl) ?_
      refine lv_aload_n hx hb dX8_parse_39 rfl (lv_at hl 0 rfl) ?_
      refine va_get (D := (dC, dI)) (ci := 8) (v := .int (oI S_35 o 4)) (C := RX8) (T := TX8) (N := 6) hx hb hts in_wsX8_parse_X8 hown hK hP q_44 hq_44 rfl 4 (by decide +kernel) (hts (.fieldLink RX8 22 "ShipOffice$Tape" "at" "I") iw_X8_parse_1) (fun _ h9 => h9) rfl dX8_parse_40 ?_
      refine lv_topi (fun x_52 ex_52 => ?_)
      have hx_52 : 0 ≤ x_52.toInt ∧ x_52.toInt ≤ 60 := iv_of ex_52 (oInv.iv hIS_35 t_42.2 rfl rfl)
      have gx_52 : x_52.toInt = (oI S_35 o 4).toInt := iv_to ex_52
      clear ex_52
      refine va_put (D := (dC, dI)) (ci := 8) (v := .int x_52) (ty := .int) (C := RX8) (T := TX8) (N := 6) hx hb hts in_wsX8_parse_X8 tyX8 tyX8_ok nmX8 hown hK hP hD hS q_44 hq_44 rfl 5 (by decide +kernel) (hts (.fieldLink RX8 28 "ShipOffice$Tape" "fault" "I") iw_X8_parse_3) (fun _ h9 => h9) rfl (by decide +kernel) rfl rfl (Nat.le_of_ble_eq_true rfl) dX8_parse_43 (fun H locs hP1 hD1 hS => ?_)
      obtain ⟨S_53, eS_53⟩ : ∃ zq, zq = setI S_35 o 5 x_52 := ⟨_, rfl⟩
      have hP : va_P (dC, dI) vwCl (oW cq S_53) H := by rw [eS_53]; exact cP (oset t_42.1 hq_44 hD rfl (he_8_5 t_42.2) neI) hP1
      have hD : va_D A (oW cq S_53) := by rw [eS_53]; exact cD (oset t_42.1 hq_44 hD rfl (he_8_5 t_42.2) neI) hD1
      clear hP1 hD1
      have hIS_53 : oInv S_53 := by rw [eS_53]; exact oInv.I0 (k := 8) (lo := -2147483648) (hi := 2147483647) hIS_35 t_42.2 (by decide +kernel) rfl rfl rfl (iv_all _)
      have XS_53 : oX [805] S_35 S_53 := by rw [eS_53]; exact oX.I (k := 8) (key := 805) t_42.2 rfl (List.mem_singleton.mpr rfl)
      have pk_54 : oP S_53 o 0 = some rw := by rw [eS_53]; exact pk_39
      have pk_55 : oP S_53 o 2 = some cd := by rw [eS_53]; exact pk_40
      have X_56 : oX [803, 804, 805, 2063] Z S_53 := oX.st X_37 XS_53 (by decide +kernel)
      have g_57 : (oI S_53 o 1).toInt = (oI S_35 o 1).toInt := by rw [eS_53, setI_ne (by decide +kernel)]
      have g_58 : (oI S_53 o 4).toInt = (oI S_35 o 4).toInt := by rw [eS_53, setI_ne (by decide +kernel)]
      have g_59 : (oI S_53 o 5).toInt = x_52.toInt := by rw [eS_53, setI_same]
      refine lv_aload_n hx hb dX8_parse_46 rfl (lv_at hl 0 rfl) ?_
      have t_60 : oty S_53 o 8 := (oX.ty XS_53 t_42)
      obtain ⟨q_61, hq_61⟩ := og (cq := cq) t_60.1 (oE_8 t_60.2)
      refine va_get (D := (dC, dI)) (ci := 8) (v := .int (oI S_53 o 5)) (C := RX8) (T := TX8) (N := 6) hx hb hts in_wsX8_parse_X8 hown hK hP q_61 hq_61 rfl 5 (by decide +kernel) (hts (.fieldLink RX8 28 "ShipOffice$Tape" "fault" "I") iw_X8_parse_3) (fun _ h9 => h9) rfl dX8_parse_47 ?_
      refine lv_topi (fun x_62 ex_62 => ?_)
      have gx_62 : x_62.toInt = (oI S_53 o 5).toInt := iv_to ex_62
      clear ex_62
      exact W.iret (v := x_62) hx hb hr (fun t ht hW => ⟨⟨x_62, S_53, rfl, ⟨hIS_53, X_56, (by have hC := tX_C X_26 to trw (by decide +kernel) (by decide +kernel); have a1 := tA_i S_23 o; have n1 := tN_i S_23 o; have b1 : tA S_23 o = 0 := (by omega); have b2 : tN S_23 o = 0 := (by omega); have g := hx_36; rw [hC, b1] at g; rcases eR : cS (tC Z o rw) 5 0 with ⟨q, w, E⟩; rw [eR] at g; have g1 : tA S_35 o = q := g.1; have a4 := tA_i S_35 o; exact Or.inr ⟨fun k => absurd k.2 (by simp only; omega), by simp only; omega, by omega⟩)⟩, ⟨by rw [ht]; exact hP, va_K.moved hW.alike hK, hD⟩⟩, hS.F ht⟩) hS.2.2 dX8_parse_50
