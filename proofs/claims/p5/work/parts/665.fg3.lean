


set_option maxHeartbeats 4000000 in
set_option maxRecDepth 100000 in
theorem c_X5_add_f (l : Launch) (dC : Nat → ClassId) (dI : Nat → Nat → Nat) (sz : Nat) (cq : Nat → ClassId) (Z : oS) (gI : oInv Z) (o : Nat) (to : oty Z o 5) (a1 : Nat) (ta1 : oty Z a1 0) : Met l yX5_add wsX5_add ({ frames := 0, cells := 0, slots := 0, locals := 0 }) (va_Pc [.ref o, .ref a1] (pcW (dC, dI) (oT cq) (oW cq Z) sz)) (va_Qv (fun (u : oS) => oInv u ∧ oX [502, 2012] Z u ∧ ((oI Z o 2).toInt < 30 → (oI u o 2).toInt = (oI Z o 2).toInt + 1)) (fun u t => va_P (dC, dI) vwCl (oW cq u) t.heap ∧ va_K (dC, dI) vwCl (oT cq) t ∧ va_D (va_A (oW cq Z) sz) (oW cq u)) (va_A (oW cq Z) sz)) 0 0 (va_A (oW cq Z) sz) := by
  refine Met.ofW (cc := cX5_add) (maxL := 2) (ret := none) (by decide) rfl ?_
  intro p e s m args below meth c s₁ B hml hv
  obtain ⟨rfl, hsz, hP, hK, hD0⟩ := hv
  have hx := B.exec
  have hb := B.bytes
  have hr := B.returns
  have hts := atoms_spec (ws := wsX5_add) B.pre
  have hown : s.vm.findClass RX5 = some m.cls := findClass_of_methodNamed B.named
  have hlocks := B.notSynchronized
  subst hsz
  have hD := hD0.self (sz := s.heap.size)
  generalize hAe : va_A (oW cq Z) s.heap.size = A at hD ⊢
  have hA : ∀ q : Nat, s.heap.size ≤ q → A q := fun q h => by rw [← hAe]; exact Or.inr h
  have hS : va_S A s.heap s.heap [] := va_S.rf
  have hP : va_P (dC, dI) vwCl (oW cq Z) s.heap := hP
  have hl := lv_entry ([.ref o, .ref a1]) (n := 2) (Nat.le_of_ble_eq_true rfl)
  rw [lg_entry_eq]
  generalize (lg_sl ([.ref o, .ref a1]) ++ List.replicate (2 - (lg_sl ([.ref o, .ref a1])).length) Slot.unset).toArray = ls at hl ⊢
  have hl : lv_has ls 2 [(0, .ref o), (1, .ref a1)] := hl
  refine lv_aload_n hx hb dX5_add_0 rfl (lv_at hl 0 rfl) ?_
  obtain ⟨q_1, hq_1⟩ := og (cq := cq) to.1 (oE_5 to.2)
  refine va_get (D := (dC, dI)) (ci := 5) (v := .int (oI Z o 2)) (C := RX5) (T := TX5) (N := 3) hx hb hts in_wsX5_add_X5 hown hK hP q_1 hq_1 rfl 2 (by decide) (hts (.fieldLink RX5 23 "ShipOffice$Law" "actCount" "I") iw_X5_add_1) (fun _ h9 => h9) rfl dX5_add_1 ?_
  refine lv_topi (fun x_2 ex_2 => ?_)
  have hx_2 : 0 ≤ x_2.toInt ∧ x_2.toInt ≤ 30 := iv_of ex_2 (oInv.iv gI to.2 rfl rfl)
  have gx_2 : x_2.toInt = (oI Z o 2).toInt := iv_to ex_2
  clear ex_2
  refine lv_bipush (v := 30) hx hb dX5_add_4 (by decide) ?_
  refine lv_icmp_ge (tgt := 29) hx hb dX5_add_6 (by decide) (fun c_3 => ?_) (fun c_3 => ?_)
  · have dc_3 := c_le (a := 30) (b := x_2.toInt) (by decide) rfl c_3
    exact W.vret hx hb hr (fun t ht hW => ⟨⟨Z, rfl, ⟨gI, oX.rf, (fun h => by omega)⟩, ⟨by rw [ht]; exact hP, va_K.moved hW.alike hK, hD⟩⟩, hS.F ht⟩) hS.2.2 dX5_add_29
  · have dc_3 := c_nle (a := 30) (b := x_2.toInt) (by decide) rfl c_3
    refine lv_aload_n hx hb dX5_add_9 rfl (lv_at hl 0 rfl) ?_
    obtain ⟨b_4, hb_4⟩ := oInv.nn (i := 0) gI to rfl
    refine va_get (D := (dC, dI)) (ci := 5) (v := .ref b_4) (C := RX5) (T := TX5) (N := 3) hx hb hts in_wsX5_add_X5 hown hK hP q_1 hq_1 rfl 0 (by decide) (hts (.fieldLink RX5 11 "ShipOffice$Law" "acts" "[LShipOffice$Act;") iw_X5_add_2) (fun _ h9 => h9) (o_rd hb_4) dX5_add_10 ?_
    have tb_4 : oty Z b_4 12 := oInv.rd gI to.2 hb_4 rfl rfl
    refine lv_aload_n hx hb dX5_add_13 rfl (lv_at hl 0 rfl) ?_
    refine va_get (D := (dC, dI)) (ci := 5) (v := .int (oI Z o 2)) (C := RX5) (T := TX5) (N := 3) hx hb hts in_wsX5_add_X5 hown hK hP q_1 hq_1 rfl 2 (by decide) (hts (.fieldLink RX5 23 "ShipOffice$Law" "actCount" "I") iw_X5_add_1) (fun _ h9 => h9) rfl dX5_add_14 ?_
    refine lv_topi (fun x_5 ex_5 => ?_)
    have hx_5 : 0 ≤ x_5.toInt ∧ x_5.toInt ≤ 30 := iv_of ex_5 (oInv.iv gI to.2 rfl rfl)
    have gx_5 : x_5.toInt = (oI Z o 2).toInt := iv_to ex_5
    clear ex_5
    refine lv_aload_n hx hb dX5_add_17 rfl (lv_at hl 1 rfl) ?_
    obtain ⟨q_6, hq_6⟩ := og (cq := cq) tb_4.1 (oE_12 tb_4.2)
    obtain ⟨q_7, hq_7⟩ := og (cq := cq) ta1.1 (oE_0 ta1.2)
    refine va_astq (r := (RX0, TX0, 5)) hx hb hK hP hD hS q_6 2 q_7 0 hq_6 rfl hq_7 rfl (vp_in_iff.mpr (by omega)) dX5_add_18 (fun H locs hP1 hD1 hS => ?_)
    obtain ⟨S_8, eS_8⟩ : ∃ zq, zq = setP Z b_4 (x_5 : Int32).toNatClampNeg (some a1) := ⟨_, rfl⟩
    have hP : va_P (dC, dI) vwCl (oW cq S_8) H := by rw [eS_8]; exact cP (oset tb_4.1 hq_6 hD rfl (he_12 tb_4.2) neP) hP1
    have hD : va_D A (oW cq S_8) := by rw [eS_8]; exact cD (oset tb_4.1 hq_6 hD rfl (he_12 tb_4.2) neP) hD1
    clear hP1 hD1
    have hIS_8 : oInv S_8 := by rw [eS_8]; exact oInv.P (k := 12) gI tb_4.2 (by decide) rfl (fun h => absurd h.1 (by decide)) ta1 (show 0 ≤ 0 ∧ 0 ≤ 0 from ⟨Nat.le_refl _, Nat.le_refl _⟩)
    have XS_8 : oX [2012] Z S_8 := by rw [eS_8]; exact oX.P (k := 12) (key := 2012) tb_4.2 rfl (List.mem_singleton.mpr rfl)
    have X_9 : oX [502, 2012] Z S_8 := oX.st oX.rf XS_8 (by decide)
    have g_10 : (oI S_8 o 2).toInt = (oI Z o 2).toInt := by rw [eS_8]; rfl
    have helS_8 : oP S_8 b_4 (x_5 : Int32).toNatClampNeg = some a1 := by rw [eS_8, setP_same]
    have hsrS_8 : oP S_8 o 0 = some b_4 := by rw [eS_8, setP_oth (ty_ne to tb_4 (by decide))]; exact hb_4
    refine lv_aload_n hx hb dX5_add_19 rfl (lv_at hl 0 rfl) ?_
    refine lv_dup hx hb dX5_add_20 rfl ?_
    have t_11 : oty S_8 o 5 := (oX.ty XS_8 to)
    obtain ⟨q_12, hq_12⟩ := og (cq := cq) t_11.1 (oE_5 t_11.2)
    refine va_get (D := (dC, dI)) (ci := 5) (v := .int (oI S_8 o 2)) (C := RX5) (T := TX5) (N := 3) hx hb hts in_wsX5_add_X5 hown hK hP q_12 hq_12 rfl 2 (by decide) (hts (.fieldLink RX5 23 "ShipOffice$Law" "actCount" "I") iw_X5_add_1) (fun _ h9 => h9) rfl dX5_add_21 ?_
    refine lv_topi (fun x_13 ex_13 => ?_)
    have hx_13 : 0 ≤ x_13.toInt ∧ x_13.toInt ≤ 30 := iv_of ex_13 (oInv.iv hIS_8 t_11.2 rfl rfl)
    have gx_13 : x_13.toInt = (oI S_8 o 2).toInt := iv_to ex_13
    clear ex_13
    refine lv_iconst (v := 1) hx hb dX5_add_24 (by decide) ?_
    refine lv_iadd hx hb dX5_add_25 ?_
    refine lv_topi (fun x_14 ex_14 => ?_)
    have hx_14 : x_14.toInt = x_13.toInt + 1 := (iv_to ex_14).trans (ad_i rfl (by decide) (by omega) (by omega))
    clear ex_14
    refine va_put (D := (dC, dI)) (ci := 5) (v := .int x_14) (ty := .int) (C := RX5) (T := TX5) (N := 3) hx hb hts in_wsX5_add_X5 tyX5 tyX5_ok nmX5 hown hK hP hD hS q_12 hq_12 rfl 2 (by decide) (hts (.fieldLink RX5 23 "ShipOffice$Law" "actCount" "I") iw_X5_add_1) (fun _ h9 => h9) rfl (by decide +kernel) rfl rfl (Nat.le_of_ble_eq_true rfl) dX5_add_26 (fun H locs hP1 hD1 hS => ?_)
    obtain ⟨S_15, eS_15⟩ : ∃ zq, zq = setI S_8 o 2 x_14 := ⟨_, rfl⟩
    have hP : va_P (dC, dI) vwCl (oW cq S_15) H := by rw [eS_15]; exact cP (oset t_11.1 hq_12 hD rfl (he_5_2 t_11.2) neI) hP1
    have hD : va_D A (oW cq S_15) := by rw [eS_15]; exact cD (oset t_11.1 hq_12 hD rfl (he_5_2 t_11.2) neI) hD1
    clear hP1 hD1
    have hIS_15 : oInv S_15 := by rw [eS_15]; exact oInv.I (k := 5) (lo := 0) (hi := 30) hIS_8 t_11.2 (by decide) rfl rfl (by omega) (inv_cnt hIS_8 t_11 rfl hsrS_8 (by omega) (by omega) ⟨_, by rw [← cnt_at (x := x_5) (S := S_8) (a := o) (i := 2) (by omega)]; exact helS_8⟩)
    have XS_15 : oX [502] S_8 S_15 := by rw [eS_15]; exact oX.I (k := 5) (key := 502) t_11.2 rfl (List.mem_singleton.mpr rfl)
    have X_16 : oX [502, 2012] Z S_15 := oX.st X_9 XS_15 (by decide)
    have g_17 : (oI S_15 o 2).toInt = x_14.toInt := by rw [eS_15, setI_same]
    exact W.vret hx hb hr (fun t ht hW => ⟨⟨S_15, rfl, ⟨hIS_15, X_16, (fun h => by omega)⟩, ⟨by rw [ht]; exact hP, va_K.moved hW.alike hK, hD⟩⟩, hS.F ht⟩) hS.2.2 dX5_add_29
set_option maxHeartbeats 4000000 in
set_option maxRecDepth 100000 in
theorem c_X10_act_f (l : Launch) (dC : Nat → ClassId) (dI : Nat → Nat → Nat) (sz : Nat) (tL tS tG : Nat) (cq : Nat → ClassId) (Z : oS) (gI : oInv Z) (o : Nat) (to : oty Z o 10) (x1 : Int32) (x2 : Int32) (tp rw cd lw : Nat) (htp : oP Z o 9 = some tp) (hrw : oP Z tp 0 = some rw) (hcd : oP Z tp 2 = some cd) (hlw : oP Z o 8 = some lw) : Met l yX10_act wsX10_act ({ frames := 26, cells := 4, slots := 134, locals := 581 }) (va_Pc [.ref o, .int x1, .int x2] (pcO (dC, dI) (oT cq) (oW cq Z) sz tL tS tG (oW cq Z))) (va_Qi (fun (r : Int32) (u : oS) => oInv u ∧ oX [502, 801, 803, 804, 805, 2012, 2063, 2107, 5001] Z u ∧ (gac (oI Z o 0).toInt (oI Z lw 2).toInt (oI Z tp 1).toInt x1.toInt x2.toInt ((cS (tC Z tp rw) 5 0).1 : Int) (bI (cS (tC Z tp rw) 5 0).2.1) r.toInt (oI u lw 2).toInt (oI u tp 1).toInt)) (fun u t => va_P (dC, dI) vwCl (oW cq u) t.heap ∧ va_K (dC, dI) vwCl (oT cq) t ∧ va_D (va_A (oW cq Z) sz) (oW cq u)) (va_A (oW cq Z) sz)) 4 134 (va_A (oW cq Z) sz) := by
  refine Met.ofW (cc := cX10_act) (maxL := 4) (ret := (some .int)) (by decide) rfl ?_
  intro p e s m args below meth c s₁ B hml hv
  obtain ⟨rfl, ⟨hsz, hP, hK, hD0⟩, hZ⟩ := hv
  have hx := B.exec
  have hb := B.bytes
  have hr := B.returns
  have hts := atoms_spec (ws := wsX10_act) B.pre
  have hown : s.vm.findClass RX10 = some m.cls := findClass_of_methodNamed B.named
  have hlocks := B.notSynchronized
  subst hsz
  have hD := hD0.self (sz := s.heap.size)
  generalize hAe : va_A (oW cq Z) s.heap.size = A at hD hZ ⊢
  have hA : ∀ q : Nat, s.heap.size ≤ q → A q := fun q h => by rw [← hAe]; exact Or.inr h
  have hS : va_S A s.heap s.heap [] := va_S.rf
  have hP : va_P (dC, dI) vwCl (oW cq Z) s.heap := hP
  have hl := lv_entry ([.ref o, .int x1, .int x2]) (n := 4) (Nat.le_of_ble_eq_true rfl)
  rw [lg_entry_eq]
  generalize (lg_sl ([.ref o, .int x1, .int x2]) ++ List.replicate (4 - (lg_sl ([.ref o, .int x1, .int x2])).length) Slot.unset).toArray = ls at hl ⊢
  have hl : lv_has ls 4 [(0, .ref o), (1, .int x1), (2, .int x2)] := hl
  have ttp : oty Z tp 8 := oInv.rd gI to.2 htp rfl rfl
  have trw : oty Z rw 160 := oInv.rd gI ttp.2 hrw rfl rfl
  have tcd : oty Z cd 63 := oInv.rd gI ttp.2 hcd rfl rfl
  have tlw : oty Z lw 5 := oInv.rd gI to.2 hlw rfl rfl
  have iv_1 : 0 ≤ (oI Z o 0).toInt ∧ (oI Z o 0).toInt ≤ 3000 := oInv.iv gI to.2 rfl rfl
  have iv_2 : 0 ≤ (oI Z lw 2).toInt ∧ (oI Z lw 2).toInt ≤ 30 := oInv.iv gI tlw.2 rfl rfl
  have iv_3 : 0 ≤ (oI Z tp 1).toInt ∧ (oI Z tp 1).toInt ≤ 60 := oInv.iv gI ttp.2 rfl rfl
  refine lv_iload_n hx hb dX10_act_0 rfl (lv_at hl 1 rfl) ?_
  refine lv_if_lt (tgt := 9) hx hb dX10_act_1 (by decide) (fun c_4 => ?_) (fun c_4 => ?_)
  · have dc_4 := c_lt (a := x1.toInt) (b := 0) rfl (by decide) c_4
    refine lv_aload_n hx hb dX10_act_9 rfl (lv_at hl 0 rfl) ?_
    refine lv_bipush (v := (-2)) hx hb dX10_act_10 (by decide) ?_
    have hFc := o_free hD hS hA
    obtain ⟨q_5, hq_5⟩ := og (cq := cq) to.1 (oE_10 to.2)
    refine va_calli (va_runV (As := [.int (-2)]) (rest := []) ⟨hx, hb, hml, hown, hts⟩ (c_X10_refuse l dC dI s.heap.size cq Z gI o to (-2) (by decide)) (cwV 1 hts gX10_act_X10_refuse rfl rfl rfl (by decide +kernel) ⟨(Nat.le_of_ble_eq_true rfl), (Nat.le_of_ble_eq_true rfl)⟩) (pr_V (r := (RX10, TX10, 16)) hP hK hD q_5 10 rfl hq_5) rfl rfl hl.1 rfl (lv_room (Nat.le_of_ble_eq_true rfl)) dX10_act_12 ⟨(Nat.le_of_ble_eq_true rfl), (Nat.le_of_ble_eq_true rfl)⟩) hS (fun q _ h => hFc q h) hFc (fun r_7 u t H locs ht hvm w_6 hB hz1 hk1 hS => ?_)
    obtain ⟨S_8, rfl⟩ : ∃ z, z = u := ⟨_, rfl⟩
    obtain ⟨hP1, hK1, hD1⟩ := hB
    rw [ht] at hP1
    have hP : va_P (dC, dI) vwCl (oW cq S_8) H := hP1
    have hD : va_D A (oW cq S_8) := hD1.weaken (fun _ _ _ h => hFc _ h)
    clear hP1 hK1 hD1 hk1 hz1 hvm ht hFc
    obtain ⟨hIS_8, XS_8, hb_9, hx_10⟩ := w_6
    have X_11 : oX [502, 801, 803, 804, 805, 2012, 2063, 2107, 5001] Z S_8 := oX.st oX.rf XS_8 (by decide)
    have g_12 : (oI S_8 lw 2).toInt = (oI Z lw 2).toInt := by rw [oX.i XS_8 tlw (by decide)]
    have g_13 : (oI S_8 o 0).toInt = (oI Z o 0).toInt := by rw [oX.i XS_8 to (by decide)]
    have g_14 : (oI S_8 tp 1).toInt = (oI Z tp 1).toInt := by rw [oX.i XS_8 ttp (by decide)]
    have pk_15 : oP S_8 o 9 = some tp := by rw [oX.p XS_8 to (by decide)]; exact htp
    have pk_16 : oP S_8 tp 0 = some rw := by rw [oX.p XS_8 ttp (by decide)]; exact hrw
    have pk_17 : oP S_8 tp 2 = some cd := by rw [oX.p XS_8 ttp (by decide)]; exact hcd
    have pk_18 : oP S_8 o 8 = some lw := by rw [oX.p XS_8 to (by decide)]; exact hlw
    have rf_19 : r_7.toInt = -2 := by rw [hx_10]; decide
    refine W.widen (k := 4) (n := 134) (Nat.le_of_ble_eq_true rfl) (Nat.le_of_ble_eq_true rfl) ?_
    exact W.iret (v := r_7) hx hb hr (fun t ht hW => ⟨⟨r_7, S_8, rfl, ⟨hIS_8, X_11, (by unfold gac; omega)⟩, ⟨by rw [ht]; exact hP, va_K.moved hW.alike hK, hD⟩⟩, hS.F ht⟩) hS.2.2 dX10_act_15
  · have dc_4 := c_nlt (a := x1.toInt) (b := 0) rfl (by decide) c_4
    refine lv_iload_n hx hb dX10_act_4 rfl (lv_at hl 1 rfl) ?_
    refine lv_iconst (v := 5) hx hb dX10_act_5 (by decide) ?_
    refine lv_icmp_lt (tgt := 16) hx hb dX10_act_6 (by decide) (fun c_20 => ?_) (fun c_20 => ?_)
    · have dc_20 := c_lt (a := x1.toInt) (b := 5) rfl (by decide) c_20
      refine lv_iload_n hx hb dX10_act_16 rfl (lv_at hl 2 rfl) ?_
      refine lv_aload_n hx hb dX10_act_17 rfl (lv_at hl 0 rfl) ?_
      obtain ⟨q_21, hq_21⟩ := og (cq := cq) to.1 (oE_10 to.2)
      refine va_get (D := (dC, dI)) (ci := 10) (v := .int (oI Z o 0)) (C := RX10) (T := TX10) (N := 16) hx hb hts in_wsX10_act_X10 hown hK hP q_21 hq_21 rfl 0 (by decide) (hts (.fieldLink RX10 73 "ShipOffice" "now" "I") iw_X10_act_1) (fun _ h9 => h9) rfl dX10_act_18 ?_
      refine lv_topi (fun x_22 ex_22 => ?_)
      have hx_22 : 0 ≤ x_22.toInt ∧ x_22.toInt ≤ 3000 := iv_of ex_22 (oInv.iv gI to.2 rfl rfl)
      have gx_22 : x_22.toInt = (oI Z o 0).toInt := iv_to ex_22
      clear ex_22
      refine lv_icmp_ge (tgt := 31) hx hb dX10_act_21 (by decide) (fun c_23 => ?_) (fun c_23 => ?_)
      · have dc_23 := c_le (a := x_22.toInt) (b := x2.toInt) rfl rfl c_23
        refine lv_iload_n hx hb dX10_act_31 rfl (lv_at hl 2 rfl) ?_
        refine lv_sipush (v := 3000) hx hb dX10_act_32 (by decide) ?_
        refine lv_icmp_gt (tgt := 50) hx hb dX10_act_35 (by decide) (fun c_24 => ?_) (fun c_24 => ?_)
        · have dc_24 := c_lt (a := 3000) (b := x2.toInt) (by decide) rfl c_24
          refine lv_aload_n hx hb dX10_act_50 rfl (lv_at hl 0 rfl) ?_
          refine lv_bipush (v := (-6)) hx hb dX10_act_51 (by decide) ?_
          have hFc := o_free hD hS hA
          refine va_calli (va_runV (As := [.int (-6)]) (rest := []) ⟨hx, hb, hml, hown, hts⟩ (c_X10_refuse l dC dI s.heap.size cq Z gI o to (-6) (by decide)) (cwV 1 hts gX10_act_X10_refuse rfl rfl rfl (by decide +kernel) ⟨(Nat.le_of_ble_eq_true rfl), (Nat.le_of_ble_eq_true rfl)⟩) (pr_V (r := (RX10, TX10, 16)) hP hK hD q_21 10 rfl hq_21) rfl rfl hl.1 rfl (lv_room (Nat.le_of_ble_eq_true rfl)) dX10_act_53 ⟨(Nat.le_of_ble_eq_true rfl), (Nat.le_of_ble_eq_true rfl)⟩) hS (fun q _ h => hFc q h) hFc (fun r_26 u t H locs ht hvm w_25 hB hz1 hk1 hS => ?_)
          obtain ⟨S_27, rfl⟩ : ∃ z, z = u := ⟨_, rfl⟩
          obtain ⟨hP1, hK1, hD1⟩ := hB
          rw [ht] at hP1
          have hP : va_P (dC, dI) vwCl (oW cq S_27) H := hP1
          have hD : va_D A (oW cq S_27) := hD1.weaken (fun _ _ _ h => hFc _ h)
          clear hP1 hK1 hD1 hk1 hz1 hvm ht hFc
          obtain ⟨hIS_27, XS_27, hb_28, hx_29⟩ := w_25
          have X_30 : oX [502, 801, 803, 804, 805, 2012, 2063, 2107, 5001] Z S_27 := oX.st oX.rf XS_27 (by decide)
          have g_31 : (oI S_27 lw 2).toInt = (oI Z lw 2).toInt := by rw [oX.i XS_27 tlw (by decide)]
          have g_32 : (oI S_27 o 0).toInt = (oI Z o 0).toInt := by rw [oX.i XS_27 to (by decide)]
          have g_33 : (oI S_27 tp 1).toInt = (oI Z tp 1).toInt := by rw [oX.i XS_27 ttp (by decide)]
          have pk_34 : oP S_27 o 9 = some tp := by rw [oX.p XS_27 to (by decide)]; exact htp
          have pk_35 : oP S_27 tp 0 = some rw := by rw [oX.p XS_27 ttp (by decide)]; exact hrw
          have pk_36 : oP S_27 tp 2 = some cd := by rw [oX.p XS_27 ttp (by decide)]; exact hcd
          have pk_37 : oP S_27 o 8 = some lw := by rw [oX.p XS_27 to (by decide)]; exact hlw
          have rf_38 : r_26.toInt = -6 := by rw [hx_29]; decide
          refine W.widen (k := 4) (n := 134) (Nat.le_of_ble_eq_true rfl) (Nat.le_of_ble_eq_true rfl) ?_
          exact W.iret (v := r_26) hx hb hr (fun t ht hW => ⟨⟨r_26, S_27, rfl, ⟨hIS_27, X_30, (by unfold gac; omega)⟩, ⟨by rw [ht]; exact hP, va_K.moved hW.alike hK, hD⟩⟩, hS.F ht⟩) hS.2.2 dX10_act_56
        · have dc_24 := c_nlt (a := 3000) (b := x2.toInt) (by decide) rfl c_24
          refine lv_aload_n hx hb dX10_act_38 rfl (lv_at hl 0 rfl) ?_
          refine va_get (D := (dC, dI)) (ci := 10) (v := .ref lw) (C := RX10) (T := TX10) (N := 16) hx hb hts in_wsX10_act_X10 hown hK hP q_21 hq_21 rfl 8 (by decide) (hts (.fieldLink RX10 30 "ShipOffice" "law" "LShipOffice$Law;") iw_X10_act_2) (fun _ h9 => h9) (o_rd hlw) dX10_act_39 ?_
          obtain ⟨q_39, hq_39⟩ := og (cq := cq) tlw.1 (oE_5 tlw.2)
          refine va_get (D := (dC, dI)) (ci := 5) (v := .int (oI Z lw 2)) (C := RX5) (T := TX5) (N := 3) hx hb hts in_wsX10_act_X5 hown hK hP q_39 hq_39 rfl 2 (by decide) (hts (.fieldLink RX10 178 "ShipOffice$Law" "actCount" "I") iw_X10_act_3) (fun _ h9 => h9) rfl dX10_act_42 ?_
          refine lv_topi (fun x_40 ex_40 => ?_)
          have hx_40 : 0 ≤ x_40.toInt ∧ x_40.toInt ≤ 30 := iv_of ex_40 (oInv.iv gI tlw.2 rfl rfl)
          have gx_40 : x_40.toInt = (oI Z lw 2).toInt := iv_to ex_40
          clear ex_40
          refine lv_bipush (v := 30) hx hb dX10_act_45 (by decide) ?_
          refine lv_icmp_lt (tgt := 57) hx hb dX10_act_47 (by decide) (fun c_41 => ?_) (fun c_41 => ?_)
          · have dc_41 := c_lt (a := x_40.toInt) (b := 30) rfl (by decide) c_41
            refine lv_aload_n hx hb dX10_act_57 rfl (lv_at hl 0 rfl) ?_
            refine va_get (D := (dC, dI)) (ci := 10) (v := .ref tp) (C := RX10) (T := TX10) (N := 16) hx hb hts in_wsX10_act_X10 hown hK hP q_21 hq_21 rfl 9 (by decide) (hts (.fieldLink RX10 37 "ShipOffice" "tape" "LShipOffice$Tape;") iw_X10_act_4) (fun _ h9 => h9) (o_rd htp) dX10_act_58 ?_
            have hFc := o_free hD hS hA
            obtain ⟨q_42, hq_42⟩ := og (cq := cq) ttp.1 (oE_8 ttp.2)
            refine va_calli (va_runV (As := []) (rest := []) ⟨hx, hb, hml, hown, hts⟩ (c_X8_parse_f l dC dI s.heap.size tL tS tG cq Z gI tp ttp rw hrw cd hcd) (cwV 0 hts gX10_act_X8_parse rfl rfl rfl (by decide +kernel) ⟨(Nat.le_of_ble_eq_true rfl), (Nat.le_of_ble_eq_true rfl)⟩) (pr_VO (r := (RX8, TX8, 6)) hP hK hD q_42 8 rfl hq_42 (hZ.go hS hFc)) rfl rfl hl.1 rfl (lv_room (Nat.le_of_ble_eq_true rfl)) dX10_act_61 ⟨(Nat.le_of_ble_eq_true rfl), (Nat.le_of_ble_eq_true rfl)⟩) hS (fun q _ h => hFc q h) hFc (fun r_44 u t H locs ht hvm w_43 hB hz1 hk1 hS => ?_)
            obtain ⟨S_45, rfl⟩ : ∃ z, z = u := ⟨_, rfl⟩
            obtain ⟨hP1, hK1, hD1⟩ := hB
            rw [ht] at hP1
            have hP : va_P (dC, dI) vwCl (oW cq S_45) H := hP1
            have hD : va_D A (oW cq S_45) := hD1.weaken (fun _ _ _ h => hFc _ h)
            clear hP1 hK1 hD1 hk1 hz1 hvm ht hFc
            obtain ⟨hIS_45, XS_45, hx_46⟩ := w_43
            have X_47 : oX [502, 801, 803, 804, 805, 2012, 2063, 2107, 5001] Z S_45 := oX.st oX.rf XS_45 (by decide)
            have g_48 : (oI S_45 lw 2).toInt = (oI Z lw 2).toInt := by rw [oX.i XS_45 tlw (by decide)]
            have g_49 : (oI S_45 o 0).toInt = (oI Z o 0).toInt := by rw [oX.i XS_45 to (by decide)]
            have g_50 : (oI S_45 tp 1).toInt = (oI Z tp 1).toInt := by rw [oX.i XS_45 ttp (by decide)]
            have pk_51 : oP S_45 o 9 = some tp := by rw [oX.p XS_45 to (by decide)]; exact htp
            have pk_52 : oP S_45 tp 0 = some rw := by rw [oX.p XS_45 ttp (by decide)]; exact hrw
            have pk_53 : oP S_45 tp 2 = some cd := by rw [oX.p XS_45 ttp (by decide)]; exact hcd
            have pk_54 : oP S_45 o 8 = some lw := by rw [oX.p XS_45 to (by decide)]; exact hlw
            have hti := tP_i hx_46
            refine lv_istore_n (lv' := [(3, .int r_44), (0, .ref o), (1, .int x1), (2, .int x2)]) hx hb dX10_act_64 rfl hl (by decide) rfl (fun ls hl => ?_)
            refine lv_iload_n hx hb dX10_act_65 rfl (lv_at hl 0 rfl) ?_
            refine lv_if_ge (tgt := 102) hx hb dX10_act_66 (by decide) (fun c_55 => ?_) (fun c_55 => ?_)
            · have dc_55 := c_le (a := 0) (b := r_44.toInt) (by decide) rfl c_55
              refine lv_aload_n hx hb dX10_act_102 rfl (lv_at hl 1 rfl) ?_
              have t_56 : oty S_45 o 10 := (oX.ty XS_45 to)
              obtain ⟨q_57, hq_57⟩ := og (cq := cq) t_56.1 (oE_10 t_56.2)
              refine va_get (D := (dC, dI)) (ci := 10) (v := .ref tp) (C := RX10) (T := TX10) (N := 16) hx hb hts in_wsX10_act_X10 hown hK hP q_57 hq_57 rfl 9 (by decide) (hts (.fieldLink RX10 37 "ShipOffice" "tape" "LShipOffice$Tape;") iw_X10_act_4) (fun _ h9 => h9) (o_rd pk_51) dX10_act_103 ?_
              refine lv_iconst (v := 0) hx hb dX10_act_106 (by decide) ?_
              have t_58 : oty S_45 tp 8 := (oX.ty XS_45 ttp)
              obtain ⟨q_59, hq_59⟩ := og (cq := cq) t_58.1 (oE_8 t_58.2)
              refine va_put (D := (dC, dI)) (ci := 8) (v := .int 0) (ty := .int) (C := RX8) (T := TX8) (N := 6) hx hb hts in_wsX10_act_X8 tyX8 tyX8_ok nmX8 hown hK hP hD hS q_59 hq_59 rfl 1 (by decide) (hts (.fieldLink RX10 169 "ShipOffice$Tape" "size" "I") iw_X10_act_5) (fun _ h9 => h9) rfl (by decide +kernel) rfl rfl (Nat.le_of_ble_eq_true rfl) dX10_act_107 (fun H locs hP1 hD1 hS => ?_)
              obtain ⟨S_60, eS_60⟩ : ∃ zq, zq = setI S_45 tp 1 0 := ⟨_, rfl⟩
              have hP : va_P (dC, dI) vwCl (oW cq S_60) H := by rw [eS_60]; exact cP (oset t_58.1 hq_59 hD rfl (he_8_1 t_58.2) neI) hP1
              have hD : va_D A (oW cq S_60) := by rw [eS_60]; exact cD (oset t_58.1 hq_59 hD rfl (he_8_1 t_58.2) neI) hD1
              clear hP1 hD1
              have hIS_60 : oInv S_60 := by rw [eS_60]; exact oInv.I0 (k := 8) (lo := 0) (hi := 60) hIS_45 t_58.2 (by decide) rfl rfl rfl (by decide)
              have XS_60 : oX [801] S_45 S_60 := by rw [eS_60]; exact oX.I (k := 8) (key := 801) t_58.2 rfl (List.mem_singleton.mpr rfl)
              have pk_61 : oP S_60 o 9 = some tp := by rw [eS_60]; exact pk_51
              have pk_62 : oP S_60 tp 0 = some rw := by rw [eS_60]; exact pk_52
              have pk_63 : oP S_60 tp 2 = some cd := by rw [eS_60]; exact pk_53
              have pk_64 : oP S_60 o 8 = some lw := by rw [eS_60]; exact pk_54
              have X_65 : oX [502, 801, 803, 804, 805, 2012, 2063, 2107, 5001] Z S_60 := oX.st X_47 XS_60 (by decide)
              have g_66 : (oI S_60 lw 2).toInt = (oI S_45 lw 2).toInt := by rw [eS_60, setI_oth (ty_ne (oX.ty XS_45 tlw) t_58 (by decide))]
              have g_67 : (oI S_60 o 0).toInt = (oI S_45 o 0).toInt := by rw [eS_60, setI_oth (ty_ne t_56 t_58 (by decide))]
              have g_68 : (oI S_60 tp 1).toInt = 0 := by rw [eS_60, setI_same]; decide
              refine lv_iload_n hx hb dX10_act_110 rfl (lv_at hl 0 rfl) ?_
              refine lv_if_ge (tgt := 124) hx hb dX10_act_111 (by decide) (fun c_69 => ?_) (fun c_69 => ?_)
              · have dc_69 := c_le (a := 0) (b := r_44.toInt) (by decide) rfl c_69
                refine lv_bipush (v := (-20)) hx hb dX10_act_124 (by decide) ?_
                refine lv_iload_n hx hb dX10_act_126 rfl (lv_at hl 0 rfl) ?_
                refine lv_isub hx hb dX10_act_127 ?_
                refine lv_topi (fun x_70 ex_70 => ?_)
                have hx_70 : x_70.toInt = (-20) - r_44.toInt := (iv_to ex_70).trans (sb_i (by decide) rfl (by omega) (by omega))
                clear ex_70
                refine W.widen (k := 4) (n := 134) (Nat.le_of_ble_eq_true rfl) (Nat.le_of_ble_eq_true rfl) ?_
                exact W.iret (v := x_70) hx hb hr (fun t ht hW => ⟨⟨x_70, S_60, rfl, ⟨hIS_60, X_65, (by unfold gac; omega)⟩, ⟨by rw [ht]; exact hP, va_K.moved hW.alike hK, hD⟩⟩, hS.F ht⟩) hS.2.2 dX10_act_128
              · have dc_69 := c_nle (a := 0) (b := r_44.toInt) (by decide) rfl c_69
                exfalso; omega
            · have dc_55 := c_nle (a := 0) (b := r_44.toInt) (by decide) rfl c_55
              refine lv_aload_n hx hb dX10_act_69 rfl (lv_at hl 1 rfl) ?_
              have t_71 : oty S_45 o 10 := (oX.ty XS_45 to)
              obtain ⟨q_72, hq_72⟩ := og (cq := cq) t_71.1 (oE_10 t_71.2)
              refine va_get (D := (dC, dI)) (ci := 10) (v := .ref lw) (C := RX10) (T := TX10) (N := 16) hx hb hts in_wsX10_act_X10 hown hK hP q_72 hq_72 rfl 8 (by decide) (hts (.fieldLink RX10 30 "ShipOffice" "law" "LShipOffice$Law;") iw_X10_act_2) (fun _ h9 => h9) (o_rd pk_54) dX10_act_70 ?_
              refine va_new (ci := 0) (fs := [.int 0, .int 0, .int 0, .null, .null]) (C := RX0) (T := TX0) (N := 5) hx hb hts in_wsX10_act_X0 tyX0 tyX0_ok hown (hts (.classLink RX10 185 RX0) iw_X10_act_6) (hts (.instantiable RX0 5) iw_X10_act_7) (hts (.initialized RX0) iw_X10_act_8) hK hP hD hS hA rfl (fun j hj => by rcases (show j = 0 ∨ j = 1 ∨ j = 2 ∨ j = 3 ∨ j = 4 by omega) with rfl | rfl | rfl | rfl | rfl <;> rfl) (Nat.le_of_ble_eq_true rfl) (Nat.le_of_ble_eq_true rfl) dX10_act_73 (fun q_73 H hP1 hD1 hS => ?_)
              have hnq_73 := add_q hD1
              obtain ⟨S_74, eS_74⟩ : ∃ zq, zq = addO S_45 q_73 30 := ⟨_, rfl⟩
              have hP : va_P (dC, dI) vwCl (oW cq S_74) H := by rw [eS_74]; exact cP (onew hD1 (by rw [oE_30 add_K, add_I, add_P]; rfl)) hP1
              have hD : va_D A (oW cq S_74) := by rw [eS_74]; exact cD (onew hD1 (by rw [oE_30 add_K, add_I, add_P]; rfl)) hD1
              clear hP1 hD1
              have hIS_74 : oInv S_74 := by rw [eS_74]; exact oInv.add hIS_45 hnq_73 (by decide)
              have XS_74 : oX [] S_45 S_74 := by rw [eS_74]; exact oX.add hnq_73
              have nzq_73 : q_73 ∉ oL Z := oX.nin X_47 hnq_73
              have pk_75 : oP S_74 o 9 = some tp := by rw [eS_74, add_Pn hnq_73 t_71.1]; exact pk_51
              have pk_76 : oP S_74 tp 0 = some rw := by rw [eS_74, add_Pn hnq_73 (oX.ty XS_45 ttp).1]; exact pk_52
              have pk_77 : oP S_74 tp 2 = some cd := by rw [eS_74, add_Pn hnq_73 (oX.ty XS_45 ttp).1]; exact pk_53
              have pk_78 : oP S_74 o 8 = some lw := by rw [eS_74, add_Pn hnq_73 t_71.1]; exact pk_54
              have g_79 : (oI S_74 lw 2).toInt = (oI S_45 lw 2).toInt := by rw [eS_74, add_In hnq_73 (oX.ty XS_45 tlw).1]
              have g_80 : (oI S_74 o 0).toInt = (oI S_45 o 0).toInt := by rw [eS_74, add_In hnq_73 t_71.1]
              have g_81 : (oI S_74 tp 1).toInt = (oI S_45 tp 1).toInt := by rw [eS_74, add_In hnq_73 (oX.ty XS_45 ttp).1]
              have X_82 : oX [502, 801, 803, 804, 805, 2012, 2063, 2107, 5001] Z S_74 := oX.st X_47 XS_74 (by decide)
              have tq_73 : oty S_74 q_73 30 := by rw [eS_74]; exact add_ty
              refine W.widen (k := 1) (n := 5) (Nat.le_of_ble_eq_true rfl) (Nat.le_of_ble_eq_true rfl) ?_
              refine lv_dup hx hb dX10_act_76 rfl ?_
              refine lv_iload_n hx hb dX10_act_77 rfl (lv_at hl 2 rfl) ?_
              refine lv_iload_n hx hb dX10_act_78 rfl (lv_at hl 3 rfl) ?_
              refine lv_aload_n hx hb dX10_act_79 rfl (lv_at hl 1 rfl) ?_
              have t_83 : oty S_74 o 10 := (oX.ty XS_74 t_71)
              obtain ⟨q_84, hq_84⟩ := og (cq := cq) t_83.1 (oE_10 t_83.2)
              refine va_get (D := (dC, dI)) (ci := 10) (v := .ref tp) (C := RX10) (T := TX10) (N := 16) hx hb hts in_wsX10_act_X10 hown hK hP q_84 hq_84 rfl 9 (by decide) (hts (.fieldLink RX10 37 "ShipOffice" "tape" "LShipOffice$Tape;") iw_X10_act_4) (fun _ h9 => h9) (o_rd pk_75) dX10_act_80 ?_
              have t_85 : oty S_74 tp 8 := (oX.ty XS_74 (oX.ty XS_45 ttp))
              obtain ⟨q_86, hq_86⟩ := og (cq := cq) t_85.1 (oE_8 t_85.2)
              refine va_get (D := (dC, dI)) (ci := 8) (v := .ref cd) (C := RX8) (T := TX8) (N := 6) hx hb hts in_wsX10_act_X8 hown hK hP q_86 hq_86 rfl 2 (by decide) (hts (.fieldLink RX10 187 "ShipOffice$Tape" "code" "[I") iw_X10_act_9) (fun _ h9 => h9) (o_rd pk_77) dX10_act_83 ?_
              refine lv_aload_n hx hb dX10_act_86 rfl (lv_at hl 1 rfl) ?_
              refine va_get (D := (dC, dI)) (ci := 10) (v := .ref tp) (C := RX10) (T := TX10) (N := 16) hx hb hts in_wsX10_act_X10 hown hK hP q_84 hq_84 rfl 9 (by decide) (hts (.fieldLink RX10 37 "ShipOffice" "tape" "LShipOffice$Tape;") iw_X10_act_4) (fun _ h9 => h9) (o_rd pk_75) dX10_act_87 ?_
              refine va_get (D := (dC, dI)) (ci := 8) (v := .int (oI S_74 tp 3)) (C := RX8) (T := TX8) (N := 6) hx hb hts in_wsX10_act_X8 hown hK hP q_86 hq_86 rfl 3 (by decide) (hts (.fieldLink RX10 190 "ShipOffice$Tape" "codeSize" "I") iw_X10_act_10) (fun _ h9 => h9) rfl dX10_act_90 ?_
              refine lv_topi (fun x_87 ex_87 => ?_)
              have hx_87 : 0 ≤ x_87.toInt ∧ x_87.toInt ≤ 60 := iv_of ex_87 (oInv.iv hIS_74 t_85.2 rfl rfl)
              have gx_87 : x_87.toInt = (oI S_74 tp 3).toInt := iv_to ex_87
              clear ex_87
              have t_88 : oty S_74 cd 63 := (oX.ty XS_74 (oX.ty XS_45 tcd))
              have hFc := o_free hD hS hA
              refine va_callq (va_runS (As := [.ref cd, .int x_87]) (rest := [.int x2, .int x1, .ref q_73, .ref q_73, .ref lw]) ⟨hx, hb, hml, hown, hts⟩ (c_J7_copyOf_59c91 l dC dI H.size tL tS tG cq S_74 hIS_74 cd t_88 x_87 (by omega)) (va_cwS 2 hts gX10_act_J7_copyOf_59c91 rfl rfl rfl (by decide +kernel) ⟨(Nat.le_of_ble_eq_true rfl), (Nat.le_of_ble_eq_true rfl)⟩) (pr_SO hP hK hD (hZ.go hS hFc)) rfl rfl hl.1 rfl (lv_room (Nat.le_of_ble_eq_true rfl)) dX10_act_93 ⟨(Nat.le_of_ble_eq_true rfl), (Nat.le_of_ble_eq_true rfl)⟩) hS (fun q _ h => hFc q h) hFc (fun r_90 u t H locs ht hvm w_89 hB hz1 hk1 hS => ?_)
              obtain ⟨S_91, rfl⟩ : ∃ z, z = u := ⟨_, rfl⟩
              obtain ⟨hP1, hK1, hD1⟩ := hB
              rw [ht] at hP1
              have hP : va_P (dC, dI) vwCl (oW cq S_91) H := hP1
              have hD : va_D A (oW cq S_91) := hD1.weaken (fun _ _ _ h => hFc _ h)
              clear hP1 hK1 hD1 hk1 hz1 hvm ht hFc
              refine W.widen (k := 2) (n := 65) (Nat.le_of_ble_eq_true rfl) (Nat.le_of_ble_eq_true rfl) ?_
              obtain ⟨hIS_91, XS_91, hk_92⟩ := w_89
              have X_93 : oX [502, 801, 803, 804, 805, 2012, 2063, 2107, 5001] Z S_91 := oX.st X_82 XS_91 (by decide)
              have g_94 : (oI S_91 lw 2).toInt = (oI S_74 lw 2).toInt := by rw [oX.i XS_91 (oX.ty XS_74 (oX.ty XS_45 tlw)) (by decide)]
              have g_95 : (oI S_91 o 0).toInt = (oI S_74 o 0).toInt := by rw [oX.i XS_91 t_83 (by decide)]
              have g_96 : (oI S_91 tp 1).toInt = (oI S_74 tp 1).toInt := by rw [oX.i XS_91 t_85 (by decide)]
              have g_97 : (oI S_91 tp 3).toInt = (oI S_74 tp 3).toInt := by rw [oX.i XS_91 t_85 (by decide)]
              have pk_98 : oP S_91 o 9 = some tp := by rw [oX.p XS_91 t_83 (by decide)]; exact pk_75
              have pk_99 : oP S_91 tp 0 = some rw := by rw [oX.p XS_91 t_85 (by decide)]; exact pk_76
              have pk_100 : oP S_91 tp 2 = some cd := by rw [oX.p XS_91 t_85 (by decide)]; exact pk_77
              have pk_101 : oP S_91 o 8 = some lw := by rw [oX.p XS_91 t_83 (by decide)]; exact pk_78
              obtain ⟨b_102, rfl, tb_102⟩ := hk_92
              refine W.eq (g2 := F0 m 96 ls [.ref b_102, .int x2, .int x1, .ref q_73, .ref q_73, .ref lw]) rfl ?_
              have hzb_102 : x_87.toNatClampNeg = x_87.toInt.toNat := rfl
              have t_103 : oty S_91 q_73 30 := (oX.ty XS_91 tq_73)
              have hFc := o_free hD hS hA
              refine va_callv (va_runI (As := [.int x1, .int x2, .ref b_102]) (rest := [.ref q_73, .ref lw]) ⟨hx, hb, hml, hown, hts⟩ (c_X0_init l dC dI H.size tL tS tG cq S_91 hIS_91 q_73 t_103 x1 x2 x_87.toNatClampNeg (by omega) b_102 tb_102) (cwI 3 hts gX10_act_X0_init rfl rfl rfl (hts (.initialized RX0) iw_X10_act_8) (hts (.methodLink RX10 199 yX0_init) iw_X10_act_11) (hts (.instanceMethod yX0_init) iw_X10_act_12) rfl (by decide +kernel) ⟨(Nat.le_of_ble_eq_true rfl), (Nat.le_of_ble_eq_true rfl)⟩) (pr_SO hP hK hD (hZ.go hS hFc)) rfl rfl hl.1 rfl (lv_room (Nat.le_of_ble_eq_true rfl)) dX10_act_96 ⟨(Nat.le_of_ble_eq_true rfl), (Nat.le_of_ble_eq_true rfl)⟩) hS (fun q _ h => hFc q h) hFc (fun u t H locs ht hvm w_104 hB hz1 hk1 hS => ?_)
              obtain ⟨S_106, rfl⟩ : ∃ z, z = u := ⟨_, rfl⟩
              obtain ⟨hP1, hK1, hD1⟩ := hB
              rw [ht] at hP1
              have hP : va_P (dC, dI) vwCl (oW cq S_106) H := hP1
              have hD : va_D A (oW cq S_106) := hD1.weaken (fun _ _ _ h => hFc _ h)
              clear hP1 hK1 hD1 hk1 hz1 hvm ht hFc
              refine W.widen (k := 4) (n := 134) (Nat.le_of_ble_eq_true rfl) (Nat.le_of_ble_eq_true rfl) ?_
              obtain ⟨hIS_106, XS_106, hx_107⟩ := w_104
              have hxS_106 := hx_107
              have X_108 : oX [502, 801, 803, 804, 805, 2012, 2063, 2107, 5001] Z S_106 := oX.c X_93 XS_106 nzq_73 (by decide)
              have g_109 : (oI S_106 lw 2).toInt = (oI S_91 lw 2).toInt := by rw [oXc.i XS_106 (ty_ne (oX.ty XS_91 (oX.ty XS_74 (oX.ty XS_45 tlw))) t_103 (by decide)) (oX.ty XS_91 (oX.ty XS_74 (oX.ty XS_45 tlw))) (by decide)]
              have g_110 : (oI S_106 o 0).toInt = (oI S_91 o 0).toInt := by rw [oXc.i XS_106 (ty_ne (oX.ty XS_91 t_83) t_103 (by decide)) (oX.ty XS_91 t_83) (by decide)]
              have g_111 : (oI S_106 tp 1).toInt = (oI S_91 tp 1).toInt := by rw [oXc.i XS_106 (ty_ne (oX.ty XS_91 t_85) t_103 (by decide)) (oX.ty XS_91 t_85) (by decide)]
              have g_112 : (oI S_106 tp 3).toInt = (oI S_91 tp 3).toInt := by rw [oXc.i XS_106 (ty_ne (oX.ty XS_91 t_85) t_103 (by decide)) (oX.ty XS_91 t_85) (by decide)]
              have pk_113 : oP S_106 o 9 = some tp := by rw [oXc.p XS_106 (ty_ne (oX.ty XS_91 t_83) t_103 (by decide)) (oX.ty XS_91 t_83) (by decide)]; exact pk_98
              have pk_114 : oP S_106 tp 0 = some rw := by rw [oXc.p XS_106 (ty_ne (oX.ty XS_91 t_85) t_103 (by decide)) (oX.ty XS_91 t_85) (by decide)]; exact pk_99
              have pk_115 : oP S_106 tp 2 = some cd := by rw [oXc.p XS_106 (ty_ne (oX.ty XS_91 t_85) t_103 (by decide)) (oX.ty XS_91 t_85) (by decide)]; exact pk_100
              have pk_116 : oP S_106 o 8 = some lw := by rw [oXc.p XS_106 (ty_ne (oX.ty XS_91 t_83) t_103 (by decide)) (oX.ty XS_91 t_83) (by decide)]; exact pk_101
              have t_117 : oty S_106 lw 5 := (oXc.ty XS_106 (ty_ne (oX.ty XS_91 (oX.ty XS_74 (oX.ty XS_45 tlw))) t_103 (by decide)) (oX.ty XS_91 (oX.ty XS_74 (oX.ty XS_45 tlw))))
              have hFc := o_free hD hS hA
              obtain ⟨q_118, hq_118⟩ := og (cq := cq) t_117.1 (oE_5 t_117.2)
              refine va_callv (va_runV (As := [.ref q_73]) (rest := []) ⟨hx, hb, hml, hown, hts⟩ (c_X5_add_f l dC dI H.size cq S_106 hIS_106 lw t_117 q_73 hxS_106) (cwV 1 hts gX10_act_X5_add rfl rfl rfl (by decide +kernel) ⟨(Nat.le_of_ble_eq_true rfl), (Nat.le_of_ble_eq_true rfl)⟩) (pr_V (r := (RX5, TX5, 3)) hP hK hD q_118 5 rfl hq_118) rfl rfl hl.1 rfl (lv_room (Nat.le_of_ble_eq_true rfl)) dX10_act_99 ⟨(Nat.le_of_ble_eq_true rfl), (Nat.le_of_ble_eq_true rfl)⟩) hS (fun q _ h => hFc q h) hFc (fun u t H locs ht hvm w_119 hB hz1 hk1 hS => ?_)
              obtain ⟨S_121, rfl⟩ : ∃ z, z = u := ⟨_, rfl⟩
              obtain ⟨hP1, hK1, hD1⟩ := hB
              rw [ht] at hP1
              have hP : va_P (dC, dI) vwCl (oW cq S_121) H := hP1
              have hD : va_D A (oW cq S_121) := hD1.weaken (fun _ _ _ h => hFc _ h)
              clear hP1 hK1 hD1 hk1 hz1 hvm ht hFc
              obtain ⟨hIS_121, XS_121, hx_122⟩ := w_119
              have X_123 : oX [502, 801, 803, 804, 805, 2012, 2063, 2107, 5001] Z S_121 := oX.st X_108 XS_121 (by decide)
              have g_124 : (oI S_121 o 0).toInt = (oI S_106 o 0).toInt := by rw [oX.i XS_121 (oXc.ty XS_106 (ty_ne (oX.ty XS_91 t_83) t_103 (by decide)) (oX.ty XS_91 t_83)) (by decide)]
              have g_125 : (oI S_121 tp 1).toInt = (oI S_106 tp 1).toInt := by rw [oX.i XS_121 (oXc.ty XS_106 (ty_ne (oX.ty XS_91 t_85) t_103 (by decide)) (oX.ty XS_91 t_85)) (by decide)]
              have g_126 : (oI S_121 tp 3).toInt = (oI S_106 tp 3).toInt := by rw [oX.i XS_121 (oXc.ty XS_106 (ty_ne (oX.ty XS_91 t_85) t_103 (by decide)) (oX.ty XS_91 t_85)) (by decide)]
              have pk_127 : oP S_121 o 9 = some tp := by rw [oX.p XS_121 (oXc.ty XS_106 (ty_ne (oX.ty XS_91 t_83) t_103 (by decide)) (oX.ty XS_91 t_83)) (by decide)]; exact pk_113
              have pk_128 : oP S_121 tp 0 = some rw := by rw [oX.p XS_121 (oXc.ty XS_106 (ty_ne (oX.ty XS_91 t_85) t_103 (by decide)) (oX.ty XS_91 t_85)) (by decide)]; exact pk_114
              have pk_129 : oP S_121 tp 2 = some cd := by rw [oX.p XS_121 (oXc.ty XS_106 (ty_ne (oX.ty XS_91 t_85) t_103 (by decide)) (oX.ty XS_91 t_85)) (by decide)]; exact pk_115
              have pk_130 : oP S_121 o 8 = some lw := by rw [oX.p XS_121 (oXc.ty XS_106 (ty_ne (oX.ty XS_91 t_83) t_103 (by decide)) (oX.ty XS_91 t_83)) (by decide)]; exact pk_116
              have hla := hx_122 (by omega)
              refine lv_aload_n hx hb dX10_act_102 rfl (lv_at hl 1 rfl) ?_
              have t_131 : oty S_121 o 10 := (oX.ty XS_121 (oXc.ty XS_106 (ty_ne (oX.ty XS_91 t_83) t_103 (by decide)) (oX.ty XS_91 t_83)))
              obtain ⟨q_132, hq_132⟩ := og (cq := cq) t_131.1 (oE_10 t_131.2)
              refine va_get (D := (dC, dI)) (ci := 10) (v := .ref tp) (C := RX10) (T := TX10) (N := 16) hx hb hts in_wsX10_act_X10 hown hK hP q_132 hq_132 rfl 9 (by decide) (hts (.fieldLink RX10 37 "ShipOffice" "tape" "LShipOffice$Tape;") iw_X10_act_4) (fun _ h9 => h9) (o_rd pk_127) dX10_act_103 ?_
              refine lv_iconst (v := 0) hx hb dX10_act_106 (by decide) ?_
              have t_133 : oty S_121 tp 8 := (oX.ty XS_121 (oXc.ty XS_106 (ty_ne (oX.ty XS_91 t_85) t_103 (by decide)) (oX.ty XS_91 t_85)))
              obtain ⟨q_134, hq_134⟩ := og (cq := cq) t_133.1 (oE_8 t_133.2)
              refine va_put (D := (dC, dI)) (ci := 8) (v := .int 0) (ty := .int) (C := RX8) (T := TX8) (N := 6) hx hb hts in_wsX10_act_X8 tyX8 tyX8_ok nmX8 hown hK hP hD hS q_134 hq_134 rfl 1 (by decide) (hts (.fieldLink RX10 169 "ShipOffice$Tape" "size" "I") iw_X10_act_5) (fun _ h9 => h9) rfl (by decide +kernel) rfl rfl (Nat.le_of_ble_eq_true rfl) dX10_act_107 (fun H locs hP1 hD1 hS => ?_)
              obtain ⟨S_135, eS_135⟩ : ∃ zq, zq = setI S_121 tp 1 0 := ⟨_, rfl⟩
              have hP : va_P (dC, dI) vwCl (oW cq S_135) H := by rw [eS_135]; exact cP (oset t_133.1 hq_134 hD rfl (he_8_1 t_133.2) neI) hP1
              have hD : va_D A (oW cq S_135) := by rw [eS_135]; exact cD (oset t_133.1 hq_134 hD rfl (he_8_1 t_133.2) neI) hD1
              clear hP1 hD1
              have hIS_135 : oInv S_135 := by rw [eS_135]; exact oInv.I0 (k := 8) (lo := 0) (hi := 60) hIS_121 t_133.2 (by decide) rfl rfl rfl (by decide)
              have XS_135 : oX [801] S_121 S_135 := by rw [eS_135]; exact oX.I (k := 8) (key := 801) t_133.2 rfl (List.mem_singleton.mpr rfl)
              have pk_136 : oP S_135 o 9 = some tp := by rw [eS_135]; exact pk_127
              have pk_137 : oP S_135 tp 0 = some rw := by rw [eS_135]; exact pk_128
              have pk_138 : oP S_135 tp 2 = some cd := by rw [eS_135]; exact pk_129
              have pk_139 : oP S_135 o 8 = some lw := by rw [eS_135]; exact pk_130
              have X_140 : oX [502, 801, 803, 804, 805, 2012, 2063, 2107, 5001] Z S_135 := oX.st X_123 XS_135 (by decide)
              have g_141 : (oI S_135 lw 2).toInt = (oI S_121 lw 2).toInt := by rw [eS_135, setI_oth (ty_ne (oX.ty XS_121 t_117) t_133 (by decide))]
              have g_142 : (oI S_135 o 0).toInt = (oI S_121 o 0).toInt := by rw [eS_135, setI_oth (ty_ne t_131 t_133 (by decide))]
              have g_143 : (oI S_135 tp 1).toInt = 0 := by rw [eS_135, setI_same]; decide
              have g_144 : (oI S_135 tp 3).toInt = (oI S_121 tp 3).toInt := by rw [eS_135, setI_ne (by decide)]
              refine lv_iload_n hx hb dX10_act_110 rfl (lv_at hl 0 rfl) ?_
              refine lv_if_ge (tgt := 124) hx hb dX10_act_111 (by decide) (fun c_145 => ?_) (fun c_145 => ?_)
              · have dc_145 := c_le (a := 0) (b := r_44.toInt) (by decide) rfl c_145
                exfalso; omega
              · have dc_145 := c_nle (a := 0) (b := r_44.toInt) (by decide) rfl c_145
                refine lv_aload_n hx hb dX10_act_114 rfl (lv_at hl 1 rfl) ?_
                have t_146 : oty S_135 o 10 := (oX.ty XS_135 t_131)
                obtain ⟨q_147, hq_147⟩ := og (cq := cq) t_146.1 (oE_10 t_146.2)
                refine va_get (D := (dC, dI)) (ci := 10) (v := .ref lw) (C := RX10) (T := TX10) (N := 16) hx hb hts in_wsX10_act_X10 hown hK hP q_147 hq_147 rfl 8 (by decide) (hts (.fieldLink RX10 30 "ShipOffice" "law" "LShipOffice$Law;") iw_X10_act_2) (fun _ h9 => h9) (o_rd pk_139) dX10_act_115 ?_
                have t_148 : oty S_135 lw 5 := (oX.ty XS_135 (oX.ty XS_121 t_117))
                obtain ⟨q_149, hq_149⟩ := og (cq := cq) t_148.1 (oE_5 t_148.2)
                refine va_get (D := (dC, dI)) (ci := 5) (v := .int (oI S_135 lw 2)) (C := RX5) (T := TX5) (N := 3) hx hb hts in_wsX10_act_X5 hown hK hP q_149 hq_149 rfl 2 (by decide) (hts (.fieldLink RX10 178 "ShipOffice$Law" "actCount" "I") iw_X10_act_3) (fun _ h9 => h9) rfl dX10_act_118 ?_
                refine lv_topi (fun x_150 ex_150 => ?_)
                have hx_150 : 0 ≤ x_150.toInt ∧ x_150.toInt ≤ 30 := iv_of ex_150 (oInv.iv hIS_135 t_148.2 rfl rfl)
                have gx_150 : x_150.toInt = (oI S_135 lw 2).toInt := iv_to ex_150
                clear ex_150
                refine lv_goto (tgt := 128) hx hb dX10_act_121 (by decide) ?_
                exact W.iret (v := x_150) hx hb hr (fun t ht hW => ⟨⟨x_150, S_135, rfl, ⟨hIS_135, X_140, (by unfold gac; omega)⟩, ⟨by rw [ht]; exact hP, va_K.moved hW.alike hK, hD⟩⟩, hS.F ht⟩) hS.2.2 dX10_act_128
          · have dc_41 := c_nlt (a := x_40.toInt) (b := 30) rfl (by decide) c_41
            refine lv_aload_n hx hb dX10_act_50 rfl (lv_at hl 0 rfl) ?_
            refine lv_bipush (v := (-6)) hx hb dX10_act_51 (by decide) ?_
            have hFc := o_free hD hS hA
            refine va_calli (va_runV (As := [.int (-6)]) (rest := []) ⟨hx, hb, hml, hown, hts⟩ (c_X10_refuse l dC dI s.heap.size cq Z gI o to (-6) (by decide)) (cwV 1 hts gX10_act_X10_refuse rfl rfl rfl (by decide +kernel) ⟨(Nat.le_of_ble_eq_true rfl), (Nat.le_of_ble_eq_true rfl)⟩) (pr_V (r := (RX10, TX10, 16)) hP hK hD q_21 10 rfl hq_21) rfl rfl hl.1 rfl (lv_room (Nat.le_of_ble_eq_true rfl)) dX10_act_53 ⟨(Nat.le_of_ble_eq_true rfl), (Nat.le_of_ble_eq_true rfl)⟩) hS (fun q _ h => hFc q h) hFc (fun r_152 u t H locs ht hvm w_151 hB hz1 hk1 hS => ?_)
            obtain ⟨S_153, rfl⟩ : ∃ z, z = u := ⟨_, rfl⟩
            obtain ⟨hP1, hK1, hD1⟩ := hB
            rw [ht] at hP1
            have hP : va_P (dC, dI) vwCl (oW cq S_153) H := hP1
            have hD : va_D A (oW cq S_153) := hD1.weaken (fun _ _ _ h => hFc _ h)
            clear hP1 hK1 hD1 hk1 hz1 hvm ht hFc
            obtain ⟨hIS_153, XS_153, hb_154, hx_155⟩ := w_151
            have X_156 : oX [502, 801, 803, 804, 805, 2012, 2063, 2107, 5001] Z S_153 := oX.st oX.rf XS_153 (by decide)
            have g_157 : (oI S_153 lw 2).toInt = (oI Z lw 2).toInt := by rw [oX.i XS_153 tlw (by decide)]
            have g_158 : (oI S_153 o 0).toInt = (oI Z o 0).toInt := by rw [oX.i XS_153 to (by decide)]
            have g_159 : (oI S_153 tp 1).toInt = (oI Z tp 1).toInt := by rw [oX.i XS_153 ttp (by decide)]
            have pk_160 : oP S_153 o 9 = some tp := by rw [oX.p XS_153 to (by decide)]; exact htp
            have pk_161 : oP S_153 tp 0 = some rw := by rw [oX.p XS_153 ttp (by decide)]; exact hrw
            have pk_162 : oP S_153 tp 2 = some cd := by rw [oX.p XS_153 ttp (by decide)]; exact hcd
            have pk_163 : oP S_153 o 8 = some lw := by rw [oX.p XS_153 to (by decide)]; exact hlw
            have rf_164 : r_152.toInt = -6 := by rw [hx_155]; decide
            refine W.widen (k := 4) (n := 134) (Nat.le_of_ble_eq_true rfl) (Nat.le_of_ble_eq_true rfl) ?_
            exact W.iret (v := r_152) hx hb hr (fun t ht hW => ⟨⟨r_152, S_153, rfl, ⟨hIS_153, X_156, (by unfold gac; omega)⟩, ⟨by rw [ht]; exact hP, va_K.moved hW.alike hK, hD⟩⟩, hS.F ht⟩) hS.2.2 dX10_act_56
      · have dc_23 := c_nle (a := x_22.toInt) (b := x2.toInt) rfl rfl c_23
        refine lv_aload_n hx hb dX10_act_24 rfl (lv_at hl 0 rfl) ?_
        refine lv_bipush (v := (-4)) hx hb dX10_act_25 (by decide) ?_
        have hFc := o_free hD hS hA
        refine va_calli (va_runV (As := [.int (-4)]) (rest := []) ⟨hx, hb, hml, hown, hts⟩ (c_X10_refuse l dC dI s.heap.size cq Z gI o to (-4) (by decide)) (cwV 1 hts gX10_act_X10_refuse rfl rfl rfl (by decide +kernel) ⟨(Nat.le_of_ble_eq_true rfl), (Nat.le_of_ble_eq_true rfl)⟩) (pr_V (r := (RX10, TX10, 16)) hP hK hD q_21 10 rfl hq_21) rfl rfl hl.1 rfl (lv_room (Nat.le_of_ble_eq_true rfl)) dX10_act_27 ⟨(Nat.le_of_ble_eq_true rfl), (Nat.le_of_ble_eq_true rfl)⟩) hS (fun q _ h => hFc q h) hFc (fun r_166 u t H locs ht hvm w_165 hB hz1 hk1 hS => ?_)
        obtain ⟨S_167, rfl⟩ : ∃ z, z = u := ⟨_, rfl⟩
        obtain ⟨hP1, hK1, hD1⟩ := hB
        rw [ht] at hP1
        have hP : va_P (dC, dI) vwCl (oW cq S_167) H := hP1
        have hD : va_D A (oW cq S_167) := hD1.weaken (fun _ _ _ h => hFc _ h)
        clear hP1 hK1 hD1 hk1 hz1 hvm ht hFc
        obtain ⟨hIS_167, XS_167, hb_168, hx_169⟩ := w_165
        have X_170 : oX [502, 801, 803, 804, 805, 2012, 2063, 2107, 5001] Z S_167 := oX.st oX.rf XS_167 (by decide)
        have g_171 : (oI S_167 lw 2).toInt = (oI Z lw 2).toInt := by rw [oX.i XS_167 tlw (by decide)]
        have g_172 : (oI S_167 o 0).toInt = (oI Z o 0).toInt := by rw [oX.i XS_167 to (by decide)]
        have g_173 : (oI S_167 tp 1).toInt = (oI Z tp 1).toInt := by rw [oX.i XS_167 ttp (by decide)]
        have pk_174 : oP S_167 o 9 = some tp := by rw [oX.p XS_167 to (by decide)]; exact htp
        have pk_175 : oP S_167 tp 0 = some rw := by rw [oX.p XS_167 ttp (by decide)]; exact hrw
        have pk_176 : oP S_167 tp 2 = some cd := by rw [oX.p XS_167 ttp (by decide)]; exact hcd
        have pk_177 : oP S_167 o 8 = some lw := by rw [oX.p XS_167 to (by decide)]; exact hlw
        have rf_178 : r_166.toInt = -4 := by rw [hx_169]; decide
        refine W.widen (k := 4) (n := 134) (Nat.le_of_ble_eq_true rfl) (Nat.le_of_ble_eq_true rfl) ?_
        exact W.iret (v := r_166) hx hb hr (fun t ht hW => ⟨⟨r_166, S_167, rfl, ⟨hIS_167, X_170, (by unfold gac; omega)⟩, ⟨by rw [ht]; exact hP, va_K.moved hW.alike hK, hD⟩⟩, hS.F ht⟩) hS.2.2 dX10_act_30
    · have dc_20 := c_nlt (a := x1.toInt) (b := 5) rfl (by decide) c_20
      refine lv_aload_n hx hb dX10_act_9 rfl (lv_at hl 0 rfl) ?_
      refine lv_bipush (v := (-2)) hx hb dX10_act_10 (by decide) ?_
      have hFc := o_free hD hS hA
      obtain ⟨q_179, hq_179⟩ := og (cq := cq) to.1 (oE_10 to.2)
      refine va_calli (va_runV (As := [.int (-2)]) (rest := []) ⟨hx, hb, hml, hown, hts⟩ (c_X10_refuse l dC dI s.heap.size cq Z gI o to (-2) (by decide)) (cwV 1 hts gX10_act_X10_refuse rfl rfl rfl (by decide +kernel) ⟨(Nat.le_of_ble_eq_true rfl), (Nat.le_of_ble_eq_true rfl)⟩) (pr_V (r := (RX10, TX10, 16)) hP hK hD q_179 10 rfl hq_179) rfl rfl hl.1 rfl (lv_room (Nat.le_of_ble_eq_true rfl)) dX10_act_12 ⟨(Nat.le_of_ble_eq_true rfl), (Nat.le_of_ble_eq_true rfl)⟩) hS (fun q _ h => hFc q h) hFc (fun r_181 u t H locs ht hvm w_180 hB hz1 hk1 hS => ?_)
      obtain ⟨S_182, rfl⟩ : ∃ z, z = u := ⟨_, rfl⟩
      obtain ⟨hP1, hK1, hD1⟩ := hB
      rw [ht] at hP1
      have hP : va_P (dC, dI) vwCl (oW cq S_182) H := hP1
      have hD : va_D A (oW cq S_182) := hD1.weaken (fun _ _ _ h => hFc _ h)
      clear hP1 hK1 hD1 hk1 hz1 hvm ht hFc
      obtain ⟨hIS_182, XS_182, hb_183, hx_184⟩ := w_180
      have X_185 : oX [502, 801, 803, 804, 805, 2012, 2063, 2107, 5001] Z S_182 := oX.st oX.rf XS_182 (by decide)
      have g_186 : (oI S_182 lw 2).toInt = (oI Z lw 2).toInt := by rw [oX.i XS_182 tlw (by decide)]
      have g_187 : (oI S_182 o 0).toInt = (oI Z o 0).toInt := by rw [oX.i XS_182 to (by decide)]
      have g_188 : (oI S_182 tp 1).toInt = (oI Z tp 1).toInt := by rw [oX.i XS_182 ttp (by decide)]
      have pk_189 : oP S_182 o 9 = some tp := by rw [oX.p XS_182 to (by decide)]; exact htp
      have pk_190 : oP S_182 tp 0 = some rw := by rw [oX.p XS_182 ttp (by decide)]; exact hrw
      have pk_191 : oP S_182 tp 2 = some cd := by rw [oX.p XS_182 ttp (by decide)]; exact hcd
      have pk_192 : oP S_182 o 8 = some lw := by rw [oX.p XS_182 to (by decide)]; exact hlw
      have rf_193 : r_181.toInt = -2 := by rw [hx_184]; decide
      refine W.widen (k := 4) (n := 134) (Nat.le_of_ble_eq_true rfl) (Nat.le_of_ble_eq_true rfl) ?_
      exact W.iret (v := r_181) hx hb hr (fun t ht hW => ⟨⟨r_181, S_182, rfl, ⟨hIS_182, X_185, (by unfold gac; omega)⟩, ⟨by rw [ht]; exact hP, va_K.moved hW.alike hK, hD⟩⟩, hS.F ht⟩) hS.2.2 dX10_act_15
