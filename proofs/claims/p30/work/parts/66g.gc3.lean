


set_option maxHeartbeats 4000000 in
set_option maxRecDepth 100000 in
theorem c_X1_addShort_c (l : Launch) (dC : Nat → ClassId) (dI : Nat → Nat → Nat) (sz : Nat) (cq : Nat → ClassId) (Z : oS) (gI : oInv Z) (o : Nat) (to : oty Z o 1) (x1 : Int32) (x2 : Int32) (x3 : Int32) (hsd : 0 ≤ (oI Z o 17).toInt ∧ (oI Z o 17).toInt ≤ 999) (hb1 : 1 ≤ x1.toInt ∧ x1.toInt ≤ 999) : Met l yX1_addShort wsX1_addShort ({ frames := 0, cells := 0, slots := 0, locals := 0 }) (va_Pc [.ref o, .int x1, .int x2, .int x3] (pcW (dC, dI) (oT cq) (oW cq Z) sz)) (va_Qv (fun (u : oS) => oInv u ∧ oX [116, 117, 2064, 2120] Z u ∧ ((oI Z o 16).toInt < 20 → ∃ y : Int32, y.toInt = (oI Z o 17).toInt + x1.toInt ∧ raO Z o x3 (x1 * x2) y u)) (fun u t => va_P (dC, dI) vwCl (oW cq u) t.heap ∧ va_K (dC, dI) vwCl (oT cq) t ∧ va_D (va_A (oW cq Z) sz) (oW cq u)) (va_A (oW cq Z) sz)) 0 0 (va_A (oW cq Z) sz) := by
  refine Met.ofW (cc := cX1_addShort) (maxL := 4) (ret := none) (by decide) rfl ?_
  intro p e s m args below meth c s₁ B hml hv
  obtain ⟨rfl, hsz, hP, hK, hD0⟩ := hv
  have hx := B.exec
  have hb := B.bytes
  have hr := B.returns
  have hts := atoms_spec (ws := wsX1_addShort) B.pre
  have hown : s.vm.findClass RX1 = some m.cls := findClass_of_methodNamed B.named
  have hlocks := B.notSynchronized
  subst hsz
  have hD := hD0.self (sz := s.heap.size)
  generalize hAe : va_A (oW cq Z) s.heap.size = A at hD ⊢
  have hA : ∀ q : Nat, s.heap.size ≤ q → A q := fun q h => by rw [← hAe]; exact Or.inr h
  have hS : va_S A s.heap s.heap [] := va_S.rf
  have hP : va_P (dC, dI) vwCl (oW cq Z) s.heap := hP
  have hl := lv_entry ([.ref o, .int x1, .int x2, .int x3]) (n := 4) (Nat.le_of_ble_eq_true rfl)
  rw [lg_entry_eq]
  generalize (lg_sl ([.ref o, .int x1, .int x2, .int x3]) ++ List.replicate (4 - (lg_sl ([.ref o, .int x1, .int x2, .int x3])).length) Slot.unset).toArray = ls at hl ⊢
  have hl : lv_has ls 4 [(0, .ref o), (1, .int x1), (2, .int x2), (3, .int x3)] := hl
  refine lv_aload_n hx hb dX1_addShort_0 rfl (lv_at hl 0 rfl) ?_
  obtain ⟨q_1, hq_1⟩ := og (cq := cq) to.1 (oE_1 to.2)
  refine va_get (D := (dC, dI)) (ci := 1) (v := .int (oI Z o 16)) (C := RX1) (T := TX1) (N := 18) hx hb hts in_wsX1_addShort_X1 hown hK hP q_1 hq_1 rfl 16 (by decide) (hts (.fieldLink RX1 136 "ShipOffice$Agreement" "shortCount" "I") iw_X1_addShort_1) (fun _ h9 => h9) rfl dX1_addShort_1 ?_
  refine lv_topi (fun x_2 ex_2 => ?_)
  have hx_2 : 0 ≤ x_2.toInt ∧ x_2.toInt ≤ 20 := iv_of ex_2 (oInv.iv gI to.2 rfl rfl)
  have gx_2 : x_2.toInt = (oI Z o 16).toInt := iv_to ex_2
  clear ex_2
  refine lv_bipush (v := 20) hx hb dX1_addShort_4 (by decide) ?_
  refine lv_icmp_ge (tgt := 51) hx hb dX1_addShort_6 (by decide) (fun c_3 => ?_) (fun c_3 => ?_)
  · have dc_3 := c_le (a := 20) (b := x_2.toInt) (by decide) rfl c_3
    exact W.vret hx hb hr (fun t ht hW => ⟨⟨Z, rfl, ⟨gI, oX.rf, (fun h => by exfalso; omega)⟩, ⟨by rw [ht]; exact hP, va_K.moved hW.alike hK, hD⟩⟩, hS.F ht⟩) hS.2.2 dX1_addShort_51
  · have dc_3 := c_nle (a := 20) (b := x_2.toInt) (by decide) rfl c_3
    refine lv_aload_n hx hb dX1_addShort_9 rfl (lv_at hl 0 rfl) ?_
    obtain ⟨b_4, hb_4⟩ := oInv.nn (i := 14) gI to rfl
    refine va_get (D := (dC, dI)) (ci := 1) (v := .ref b_4) (C := RX1) (T := TX1) (N := 18) hx hb hts in_wsX1_addShort_X1 hown hK hP q_1 hq_1 rfl 14 (by decide) (hts (.fieldLink RX1 22 "ShipOffice$Agreement" "shortTold" "[I") iw_X1_addShort_2) (fun _ h9 => h9) (o_rd hb_4) dX1_addShort_10 ?_
    have tb_4 : oty Z b_4 120 := oInv.rd gI to.2 hb_4 rfl rfl
    refine lv_aload_n hx hb dX1_addShort_13 rfl (lv_at hl 0 rfl) ?_
    refine va_get (D := (dC, dI)) (ci := 1) (v := .int (oI Z o 16)) (C := RX1) (T := TX1) (N := 18) hx hb hts in_wsX1_addShort_X1 hown hK hP q_1 hq_1 rfl 16 (by decide) (hts (.fieldLink RX1 136 "ShipOffice$Agreement" "shortCount" "I") iw_X1_addShort_1) (fun _ h9 => h9) rfl dX1_addShort_14 ?_
    refine lv_topi (fun x_5 ex_5 => ?_)
    have hx_5 : 0 ≤ x_5.toInt ∧ x_5.toInt ≤ 20 := iv_of ex_5 (oInv.iv gI to.2 rfl rfl)
    have gx_5 : x_5.toInt = (oI Z o 16).toInt := iv_to ex_5
    clear ex_5
    refine lv_iload_n hx hb dX1_addShort_17 rfl (lv_at hl 3 rfl) ?_
    obtain ⟨q_6, hq_6⟩ := og (cq := cq) tb_4.1 (oE_a1 (n := 20) tb_4.2 (by decide))
    refine va_iast hx hb hK hP hD hS q_6 0 hq_6 rfl (vp_in_iff.mpr (by omega)) dX1_addShort_18 (fun H locs hP1 hD1 hS => ?_)
    obtain ⟨S_7, eS_7⟩ : ∃ zq, zq = setI Z b_4 (x_5 : Int32).toNatClampNeg x3 := ⟨_, rfl⟩
    have hP : va_P (dC, dI) vwCl (oW cq S_7) H := by rw [eS_7]; exact cP (oset tb_4.1 hq_6 hD rfl (he_a1 (n := 20) tb_4.2 (by decide)) neI) hP1
    have hD : va_D A (oW cq S_7) := by rw [eS_7]; exact cD (oset tb_4.1 hq_6 hD rfl (he_a1 (n := 20) tb_4.2 (by decide)) neI) hD1
    clear hP1 hD1
    have hIS_7 : oInv S_7 := by rw [eS_7]; exact oInv.A (k := 120) gI tb_4.2 (by decide)
    have XS_7 : oX [2120] Z S_7 := by rw [eS_7]; exact oX.I (k := 120) (key := 2120) tb_4.2 rfl (List.mem_singleton.mpr rfl)
    have X_8 : oX [116, 117, 2064, 2120] Z S_7 := oX.st oX.rf XS_7 (by decide)
    have g_9 : (oI S_7 o 16).toInt = (oI Z o 16).toInt := by rw [eS_7, setI_oth (ty_ne to tb_4 (by decide))]
    have g_10 : (oI S_7 o 17).toInt = (oI Z o 17).toInt := by rw [eS_7, setI_oth (ty_ne to tb_4 (by decide))]
    refine lv_aload_n hx hb dX1_addShort_19 rfl (lv_at hl 0 rfl) ?_
    have t_11 : oty S_7 o 1 := (oX.ty XS_7 to)
    obtain ⟨q_12, hq_12⟩ := og (cq := cq) t_11.1 (oE_1 t_11.2)
    obtain ⟨b_13, hb_13⟩ := oInv.nn (i := 15) hIS_7 t_11 rfl
    refine va_get (D := (dC, dI)) (ci := 1) (v := .ref b_13) (C := RX1) (T := TX1) (N := 18) hx hb hts in_wsX1_addShort_X1 hown hK hP q_12 hq_12 rfl 15 (by decide) (hts (.fieldLink RX1 26 "ShipOffice$Agreement" "shortSum" "[I") iw_X1_addShort_3) (fun _ h9 => h9) (o_rd hb_13) dX1_addShort_20 ?_
    have tb_13 : oty S_7 b_13 64 := oInv.rd hIS_7 t_11.2 hb_13 rfl rfl
    refine lv_aload_n hx hb dX1_addShort_23 rfl (lv_at hl 0 rfl) ?_
    refine va_get (D := (dC, dI)) (ci := 1) (v := .int (oI S_7 o 16)) (C := RX1) (T := TX1) (N := 18) hx hb hts in_wsX1_addShort_X1 hown hK hP q_12 hq_12 rfl 16 (by decide) (hts (.fieldLink RX1 136 "ShipOffice$Agreement" "shortCount" "I") iw_X1_addShort_1) (fun _ h9 => h9) rfl dX1_addShort_24 ?_
    refine lv_topi (fun x_14 ex_14 => ?_)
    have hx_14 : 0 ≤ x_14.toInt ∧ x_14.toInt ≤ 20 := iv_of ex_14 (oInv.iv hIS_7 t_11.2 rfl rfl)
    have gx_14 : x_14.toInt = (oI S_7 o 16).toInt := iv_to ex_14
    clear ex_14
    refine lv_iload_n hx hb dX1_addShort_27 rfl (lv_at hl 1 rfl) ?_
    refine lv_iload_n hx hb dX1_addShort_28 rfl (lv_at hl 2 rfl) ?_
    refine lv_imul hx hb dX1_addShort_29 ?_
    refine lv_topi (fun x_15 ex_15 => ?_)
    obtain ⟨q_16, hq_16⟩ := og (cq := cq) tb_13.1 (oE_64 tb_13.2)
    refine va_iast hx hb hK hP hD hS q_16 0 hq_16 rfl (vp_in_iff.mpr (by omega)) dX1_addShort_30 (fun H locs hP1 hD1 hS => ?_)
    obtain ⟨S_17, eS_17⟩ : ∃ zq, zq = setI S_7 b_13 (x_14 : Int32).toNatClampNeg x_15 := ⟨_, rfl⟩
    have hP : va_P (dC, dI) vwCl (oW cq S_17) H := by rw [eS_17]; exact cP (oset tb_13.1 hq_16 hD rfl (he_64 tb_13.2) neI) hP1
    have hD : va_D A (oW cq S_17) := by rw [eS_17]; exact cD (oset tb_13.1 hq_16 hD rfl (he_64 tb_13.2) neI) hD1
    clear hP1 hD1
    have hIS_17 : oInv S_17 := by rw [eS_17]; exact oInv.A (k := 64) hIS_7 tb_13.2 (by decide)
    have XS_17 : oX [2064] S_7 S_17 := by rw [eS_17]; exact oX.I (k := 64) (key := 2064) tb_13.2 rfl (List.mem_singleton.mpr rfl)
    have X_18 : oX [116, 117, 2064, 2120] Z S_17 := oX.st X_8 XS_17 (by decide)
    have g_19 : (oI S_17 o 16).toInt = (oI S_7 o 16).toInt := by rw [eS_17, setI_oth (ty_ne t_11 tb_13 (by decide))]
    have g_20 : (oI S_17 o 17).toInt = (oI S_7 o 17).toInt := by rw [eS_17, setI_oth (ty_ne t_11 tb_13 (by decide))]
    refine lv_aload_n hx hb dX1_addShort_31 rfl (lv_at hl 0 rfl) ?_
    refine lv_dup hx hb dX1_addShort_32 rfl ?_
    have t_21 : oty S_17 o 1 := (oX.ty XS_17 t_11)
    obtain ⟨q_22, hq_22⟩ := og (cq := cq) t_21.1 (oE_1 t_21.2)
    refine va_get (D := (dC, dI)) (ci := 1) (v := .int (oI S_17 o 16)) (C := RX1) (T := TX1) (N := 18) hx hb hts in_wsX1_addShort_X1 hown hK hP q_22 hq_22 rfl 16 (by decide) (hts (.fieldLink RX1 136 "ShipOffice$Agreement" "shortCount" "I") iw_X1_addShort_1) (fun _ h9 => h9) rfl dX1_addShort_33 ?_
    refine lv_topi (fun x_23 ex_23 => ?_)
    have hx_23 : 0 ≤ x_23.toInt ∧ x_23.toInt ≤ 20 := iv_of ex_23 (oInv.iv hIS_17 t_21.2 rfl rfl)
    have gx_23 : x_23.toInt = (oI S_17 o 16).toInt := iv_to ex_23
    clear ex_23
    refine lv_iconst (v := 1) hx hb dX1_addShort_36 (by decide) ?_
    refine lv_iadd hx hb dX1_addShort_37 ?_
    refine lv_topi (fun x_24 ex_24 => ?_)
    have hx_24 : x_24.toInt = x_23.toInt + 1 := (iv_to ex_24).trans (ad_i rfl (by decide) (by omega) (by omega))
    refine va_put (D := (dC, dI)) (ci := 1) (v := .int x_24) (ty := .int) (C := RX1) (T := TX1) (N := 18) hx hb hts in_wsX1_addShort_X1 tyX1 tyX1_ok nmX1 hown hK hP hD hS q_22 hq_22 rfl 16 (by decide) (hts (.fieldLink RX1 136 "ShipOffice$Agreement" "shortCount" "I") iw_X1_addShort_1) (fun _ h9 => h9) rfl (by decide +kernel) rfl rfl (Nat.le_of_ble_eq_true rfl) dX1_addShort_38 (fun H locs hP1 hD1 hS => ?_)
    obtain ⟨S_25, eS_25⟩ : ∃ zq, zq = setI S_17 o 16 x_24 := ⟨_, rfl⟩
    have hP : va_P (dC, dI) vwCl (oW cq S_25) H := by rw [eS_25]; exact cP (oset t_21.1 hq_22 hD rfl (he_1_16 t_21.2) neI) hP1
    have hD : va_D A (oW cq S_25) := by rw [eS_25]; exact cD (oset t_21.1 hq_22 hD rfl (he_1_16 t_21.2) neI) hD1
    clear hP1 hD1
    have hIS_25 : oInv S_25 := by rw [eS_25]; exact oInv.I0 (k := 1) (lo := 0) (hi := 20) hIS_17 t_21.2 (by decide) rfl rfl rfl (by omega)
    have XS_25 : oX [116] S_17 S_25 := by rw [eS_25]; exact oX.I (k := 1) (key := 116) t_21.2 rfl (List.mem_singleton.mpr rfl)
    have X_26 : oX [116, 117, 2064, 2120] Z S_25 := oX.st X_18 XS_25 (by decide)
    have g_27 : (oI S_25 o 16).toInt = x_24.toInt := by rw [eS_25, setI_same]
    have g_28 : (oI S_25 o 17).toInt = (oI S_17 o 17).toInt := by rw [eS_25, setI_ne (by decide)]
    refine lv_aload_n hx hb dX1_addShort_41 rfl (lv_at hl 0 rfl) ?_
    refine lv_dup hx hb dX1_addShort_42 rfl ?_
    have t_29 : oty S_25 o 1 := (oX.ty XS_25 t_21)
    obtain ⟨q_30, hq_30⟩ := og (cq := cq) t_29.1 (oE_1 t_29.2)
    refine va_get (D := (dC, dI)) (ci := 1) (v := .int (oI S_25 o 17)) (C := RX1) (T := TX1) (N := 18) hx hb hts in_wsX1_addShort_X1 hown hK hP q_30 hq_30 rfl 17 (by decide) (hts (.fieldLink RX1 139 "ShipOffice$Agreement" "shortDays" "I") iw_X1_addShort_4) (fun _ h9 => h9) rfl dX1_addShort_43 ?_
    refine lv_topi (fun x_31 ex_31 => ?_)
    have hx_31 : 0 ≤ x_31.toInt ∧ x_31.toInt ≤ 999 := iv_of ex_31 (by omega)
    have gx_31 : x_31.toInt = (oI S_25 o 17).toInt := iv_to ex_31
    clear ex_31
    refine lv_iload_n hx hb dX1_addShort_46 rfl (lv_at hl 1 rfl) ?_
    refine lv_iadd hx hb dX1_addShort_47 ?_
    refine lv_topi (fun x_32 ex_32 => ?_)
    have hx_32 : x_32.toInt = x_31.toInt + x1.toInt := (iv_to ex_32).trans (ad_i rfl rfl (by omega) (by omega))
    refine va_put (D := (dC, dI)) (ci := 1) (v := .int x_32) (ty := .int) (C := RX1) (T := TX1) (N := 18) hx hb hts in_wsX1_addShort_X1 tyX1 tyX1_ok nmX1 hown hK hP hD hS q_30 hq_30 rfl 17 (by decide) (hts (.fieldLink RX1 139 "ShipOffice$Agreement" "shortDays" "I") iw_X1_addShort_4) (fun _ h9 => h9) rfl (by decide +kernel) rfl rfl (Nat.le_of_ble_eq_true rfl) dX1_addShort_48 (fun H locs hP1 hD1 hS => ?_)
    obtain ⟨S_33, eS_33⟩ : ∃ zq, zq = setI S_25 o 17 x_32 := ⟨_, rfl⟩
    have hP : va_P (dC, dI) vwCl (oW cq S_33) H := by rw [eS_33]; exact cP (oset t_29.1 hq_30 hD rfl (he_1_17 t_29.2) neI) hP1
    have hD : va_D A (oW cq S_33) := by rw [eS_33]; exact cD (oset t_29.1 hq_30 hD rfl (he_1_17 t_29.2) neI) hD1
    clear hP1 hD1
    have hIS_33 : oInv S_33 := by rw [eS_33]; exact oInv.I0 (k := 1) (lo := -2147483648) (hi := 2147483647) hIS_25 t_29.2 (by decide) rfl rfl rfl (iv_all _)
    have XS_33 : oX [117] S_25 S_33 := by rw [eS_33]; exact oX.I (k := 1) (key := 117) t_29.2 rfl (List.mem_singleton.mpr rfl)
    have X_34 : oX [116, 117, 2064, 2120] Z S_33 := oX.st X_26 XS_33 (by decide)
    have g_35 : (oI S_33 o 16).toInt = (oI S_25 o 16).toInt := by rw [eS_33, setI_ne (by decide)]
    have g_36 : (oI S_33 o 17).toInt = x_32.toInt := by rw [eS_33, setI_same]
    exact W.vret hx hb hr (fun t ht hW => ⟨⟨S_33, rfl, ⟨hIS_33, X_34, (fun _ => ⟨x_32, by omega, x_24, by omega, by rw [eS_33, eS_25, eS_17, eS_7, oQ_e hb_4, oQ_e (show oP Z o 15 = some b_13 from by have q := hb_13; rw [eS_7] at q; exact q), (show x_5 = oI Z o 16 from Int32.toInt_inj.mp (by omega)), (show x_14 = oI Z o 16 from Int32.toInt_inj.mp (by omega)), ex_15]⟩)⟩, ⟨by rw [ht]; exact hP, va_K.moved hW.alike hK, hD⟩⟩, hS.F ht⟩) hS.2.2 dX1_addShort_51
set_option maxHeartbeats 4000000 in
set_option maxRecDepth 100000 in
theorem c_X10_rations_c (l : Launch) (dC : Nat → ClassId) (dI : Nat → Nat → Nat) (sz : Nat) (cq : Nat → ClassId) (Z : oS) (gI : oInv Z) (o : Nat) (to : oty Z o 10) (x1 : Int32) (x2 : Int32) (x3 : Int32) (v : Nat → Int32) (fa : Nat → Nat → Int32) (hR : RC Z o v fa) (hE : RX Z o v fa) : Met l yX10_rations wsX10_rations ({ frames := 1, cells := 0, slots := 0, locals := 23 }) (va_Pc [.ref o, .int x1, .int x2, .int x3] (pcW (dC, dI) (oT cq) (oW cq Z) sz)) (va_Qi (fun (r : Int32) (u : oS) => oInv u ∧ oX [116, 117, 2064, 2107, 2120] Z u ∧ (aRa (v 43).toInt x1.toInt x2.toInt x3.toInt (fa 32 x1.toNatClampNeg).toInt (fa 31 x1.toNatClampNeg).toInt r.toInt ∧ rOo Z o u r (raO Z (agA Z o x1.toNatClampNeg) (oI Z o 0) (x2 * x3) r u))) (fun u t => va_P (dC, dI) vwCl (oW cq u) t.heap ∧ va_K (dC, dI) vwCl (oT cq) t ∧ va_D (va_A (oW cq Z) sz) (oW cq u)) (va_A (oW cq Z) sz)) 0 0 (va_A (oW cq Z) sz) := by
  refine Met.ofW (cc := cX10_rations) (maxL := 5) (ret := (some .int)) (by decide) rfl ?_
  intro p e s m args below meth c s₁ B hml hv
  obtain ⟨rfl, hsz, hP, hK, hD0⟩ := hv
  have hx := B.exec
  have hb := B.bytes
  have hr := B.returns
  have hts := atoms_spec (ws := wsX10_rations) B.pre
  have hown : s.vm.findClass RX10 = some m.cls := findClass_of_methodNamed B.named
  have hlocks := B.notSynchronized
  subst hsz
  have hD := hD0.self (sz := s.heap.size)
  generalize hAe : va_A (oW cq Z) s.heap.size = A at hD ⊢
  have hA : ∀ q : Nat, s.heap.size ≤ q → A q := fun q h => by rw [← hAe]; exact Or.inr h
  have hS : va_S A s.heap s.heap [] := va_S.rf
  have hP : va_P (dC, dI) vwCl (oW cq Z) s.heap := hP
  have hl := lv_entry ([.ref o, .int x1, .int x2, .int x3]) (n := 5) (Nat.le_of_ble_eq_true rfl)
  rw [lg_entry_eq]
  generalize (lg_sl ([.ref o, .int x1, .int x2, .int x3]) ++ List.replicate (5 - (lg_sl ([.ref o, .int x1, .int x2, .int x3])).length) Slot.unset).toArray = ls at hl ⊢
  have hl : lv_has ls 5 [(0, .ref o), (1, .int x1), (2, .int x2), (3, .int x3)] := hl
  obtain ⟨fn0, fn1, fn2, fn3, fn4⟩ := RC.n hR
  have fb38 : 0 ≤ (v 38).toInt ∧ (v 38).toInt ≤ 3000 := RC.V hR 38
  have fb39 : 0 ≤ (v 39).toInt ∧ (v 39).toInt ≤ 40 := RC.V hR 39
  have fb40 : 0 ≤ (v 40).toInt ∧ (v 40).toInt ≤ 20 := RC.V hR 40
  have fb43 : 0 ≤ (v 43).toInt ∧ (v 43).toInt ≤ 60 := RC.V hR 43
  have fb41 : 0 ≤ (v 41).toInt ∧ (v 41).toInt ≤ 200 := RC.V hR 41
  obtain ⟨lw, hlw0⟩ := oInv.nn (i := 8) gI to rfl
  have tlw : oty Z lw 5 := oInv.rd gI to.2 hlw0 rfl rfl
  have hLr : rLw Z lw v fa := by have q := RC.l hR; rw [oQ_e hlw0] at q; exact q
  refine lv_aload_n hx hb dX10_rations_0 rfl (lv_at hl 0 rfl) ?_
  refine lv_iload_n hx hb dX10_rations_1 rfl (lv_at hl 1 rfl) ?_
  have hFc : ∀ q, va_A [] s.heap.size q → A q := pu_free hS hA
  obtain ⟨q_1, hq_1⟩ := og (cq := cq) to.1 (oE_10 to.2)
  refine va_callq (va_runV (As := [.int x1]) (rest := []) ⟨hx, hb, hml, hown, hts⟩ (c_X10_agreementAt_c l dC dI s.heap.size cq Z gI o to x1 v fa hR) (cwV 1 hts gX10_rations_X10_agreementAt rfl rfl rfl (by decide +kernel) ⟨(Nat.le_of_ble_eq_true rfl), (Nat.le_of_ble_eq_true rfl)⟩) (pr_V (r := (RX10, TX10, 16)) hP hK hD q_1 10 rfl hq_1) rfl rfl hl.1 rfl (lv_room (Nat.le_of_ble_eq_true rfl)) dX10_rations_2 ⟨(Nat.le_of_ble_eq_true rfl), (Nat.le_of_ble_eq_true rfl)⟩) hS (fun q _ h => hFc q h) hFc (fun r_3 u t H locs ht hvm w_2 hB hz1 hk1 hS => ?_)
  have hP := pu_keep hP hk1
  clear hk1 hz1 hvm hB ht hFc
  obtain ⟨hk_4, hx_5⟩ := w_2
  rcases r_3 with _ | b_6
  · refine W.eq (g2 := F0 m 5 ls [.null]) rfl ?_
    have hnr_3 := atF_n hx_5
    refine lv_astoreN (lv' := [(4, .null), (0, .ref o), (1, .int x1), (2, .int x2), (3, .int x3)]) hx hb dX10_rations_5 hl (by decide) rfl (fun ls hl => ?_)
    refine lv_aloadN hx hb dX10_rations_7 (lv_at hl 0 rfl) ?_
    refine lv_ifnonnullN hx hb dX10_rations_9 ?_
    refine lv_aload_n hx hb dX10_rations_12 rfl (lv_at hl 1 rfl) ?_
    refine lv_iconst (v := (-1)) hx hb dX10_rations_13 (by decide) ?_
    have hFc := o_free hD hS hA
    refine va_calli (va_runV (As := [.int (-1)]) (rest := []) ⟨hx, hb, hml, hown, hts⟩ (c_X10_refuse_c l dC dI H.size cq Z gI o to (-1) (by decide)) (cwV 1 hts gX10_rations_X10_refuse rfl rfl rfl (by decide +kernel) ⟨(Nat.le_of_ble_eq_true rfl), (Nat.le_of_ble_eq_true rfl)⟩) (pr_V (r := (RX10, TX10, 16)) hP hK hD q_1 10 rfl hq_1) rfl rfl hl.1 rfl (lv_room (Nat.le_of_ble_eq_true rfl)) dX10_rations_14 ⟨(Nat.le_of_ble_eq_true rfl), (Nat.le_of_ble_eq_true rfl)⟩) hS (fun q _ h => hFc q h) hFc (fun r_8 u t H locs ht hvm w_7 hB hz1 hk1 hS => ?_)
    obtain ⟨S_9, rfl⟩ : ∃ z, z = u := ⟨_, rfl⟩
    obtain ⟨hP1, hK1, hD1⟩ := hB
    rw [ht] at hP1
    have hP : va_P (dC, dI) vwCl (oW cq S_9) H := hP1
    have hD : va_D A (oW cq S_9) := hD1.weaken (fun _ _ _ h => hFc _ h)
    clear hP1 hK1 hD1 hk1 hz1 hvm ht hFc
    obtain ⟨hIS_9, XS_9, hb_10, hx_11⟩ := w_7
    have X_12 : oX [116, 117, 2064, 2107, 2120] Z S_9 := oX.st oX.rf XS_9 (by decide)
    have g_13 : (oI S_9 o 0).toInt = (oI Z o 0).toInt := by rw [oX.i XS_9 to (by decide)]
    have pk_14 : oP S_9 o 8 = some lw := by rw [oX.p XS_9 to (by decide)]; exact hlw0
    have rf_15 : r_8.toInt = -1 := by rw [hx_11.1]; decide
    exact W.iret (v := r_8) hx hb hr (fun t ht hW => ⟨⟨r_8, S_9, rfl, ⟨hIS_9, X_12, ⟨by have kc0 : (0 : Int32).toInt = 0 := (by decide); have kc1 : (1 : Int32).toInt = 1 := (by decide); have kc2 : (2 : Int32).toInt = 2 := (by decide); (first | exact Or.inl ⟨by omega, by omega⟩ | (unfold aRa; omega)), (Or.inl ⟨by omega, by rw [hx_11.1]; exact hx_11.2⟩)⟩⟩, ⟨by rw [ht]; exact hP, va_K.moved hW.alike hK, hD⟩⟩, hS.F ht⟩) hS.2.2 dX10_rations_17
  · refine W.eq (g2 := F0 m 5 ls [.ref b_6]) rfl ?_
    have tb_6 : oty Z b_6 1 := hk_4 b_6 rfl
    obtain ⟨hjb_6, ejb_6⟩ := atF_s hx_5
    have ljb_6 := ni_lt hjb_6.1 hjb_6.2
    have njb_6 := tn_i hjb_6.1
    have fAb_6 := RC.a hR ljb_6
    rw [← ejb_6] at fAb_6
    obtain ⟨⟨fm1b_6, fm2b_6, fm3b_6⟩, ⟨fv1b_6, fv2b_6, fv3b_6⟩, fsib_6, fppb_6, fwgb_6, frkb_6, fofb_6, fdeb_6, fchb_6⟩ := fAb_6
    have fBb_6 : 0 ≤ (fa 25 x1.toNatClampNeg).toInt ∧ (fa 25 x1.toNatClampNeg).toInt ≤ 3000 := RC.A hR 25 _
    have lamb_6 : (fa 20 x1.toNatClampNeg).toNatClampNeg < (v 39).toNatClampNeg := ni_lt fm1b_6 fm2b_6
    have namb_6 : (((fa 20 x1.toNatClampNeg).toNatClampNeg : Nat) : Int) = (fa 20 x1.toNatClampNeg).toInt := tn_i fm1b_6
    obtain ⟨amb_6, eamb_6⟩ : ∃ z, z = mnA Z o (fa 20 x1.toNatClampNeg).toNatClampNeg := ⟨_, rfl⟩
    rw [← eamb_6] at fm3b_6
    have tamb_6 : oty Z amb_6 6 := by rw [eamb_6]; exact (RC.tm hR gI to lamb_6).2
    have fMamb_6 := RC.m hR lamb_6
    rw [← eamb_6] at fMamb_6
    obtain ⟨fz0amb_6, fz1amb_6, fz2amb_6, fz3amb_6⟩ := fMamb_6
    rw [namb_6] at fz0amb_6
    have lavb_6 : (fa 21 x1.toNatClampNeg).toNatClampNeg < (v 40).toNatClampNeg := ni_lt fv1b_6 fv2b_6
    have navb_6 : (((fa 21 x1.toNatClampNeg).toNatClampNeg : Nat) : Int) = (fa 21 x1.toNatClampNeg).toInt := tn_i fv1b_6
    obtain ⟨avb_6, eavb_6⟩ : ∃ z, z = voA Z o (fa 21 x1.toNatClampNeg).toNatClampNeg := ⟨_, rfl⟩
    rw [← eavb_6] at fv3b_6
    have tavb_6 : oty Z avb_6 9 := by rw [eavb_6]; exact (RC.tv hR gI to lavb_6).2
    have fVavb_6 := RC.vo hR lavb_6
    rw [← eavb_6] at fVavb_6
    obtain ⟨fy0avb_6, fy1avb_6, fy2avb_6, fy3avb_6, fy4avb_6, fySavb_6, fyLavb_6, fyhavb_6⟩ := fVavb_6
    have fBavb_6 : 0 ≤ (fa 7 ((fa 21 x1.toNatClampNeg).toNatClampNeg)).toInt ∧ (fa 7 ((fa 21 x1.toNatClampNeg).toNatClampNeg)).toInt ≤ 3000 := RC.A hR 7 _
    have fSavb_6 := onc_i fySavb_6
    have fLavb_6 := onc_i fyLavb_6
    rw [navb_6] at fy0avb_6 fSavb_6 fLavb_6
    have fEb_6 := hE.1 x1.toNatClampNeg ljb_6
    rw [← ejb_6] at fEb_6
    obtain ⟨⟨fn1b_6, fn2b_6, fn3b_6⟩, fgb_6, ⟨fl1b_6, fl2b_6, fl3b_6⟩, ⟨ff1b_6, ff2b_6⟩, ⟨fs1b_6, fs2b_6, fs3b_6, fs4b_6, fs5b_6⟩⟩ := fEb_6
    unfold rXg at fgb_6
    have fX_16 : 0 ≤ (fa 30 x1.toNatClampNeg).toInt ∧ (fa 30 x1.toNatClampNeg).toInt ≤ 6 := RC.A hR 30 _
    have fX_17 : 0 ≤ (fa 31 x1.toNatClampNeg).toInt ∧ (fa 31 x1.toNatClampNeg).toInt ≤ 20 := RC.A hR 31 _
    refine lv_astore (lv' := [(4, .ref b_6), (0, .ref o), (1, .int x1), (2, .int x2), (3, .int x3)]) hx hb dX10_rations_5 hl (by decide) rfl (fun ls hl => ?_)
    refine lv_aload hx hb dX10_rations_7 (lv_at hl 0 rfl) ?_
    refine lv_ifnonnull (tgt := 18) hx hb dX10_rations_9 (by decide) ?_
    refine lv_iload_n hx hb dX10_rations_18 rfl (lv_at hl 3 rfl) ?_
    refine lv_iconst (v := 1) hx hb dX10_rations_19 (by decide) ?_
    refine lv_icmp_lt (tgt := 28) hx hb dX10_rations_20 (by decide) (fun c_18 => ?_) (fun c_18 => ?_)
    · have dc_18 := c_lt (a := x2.toInt) (b := 1) rfl (by decide) c_18
      refine lv_aload_n hx hb dX10_rations_28 rfl (lv_at hl 1 rfl) ?_
      refine lv_bipush (v := (-4)) hx hb dX10_rations_29 (by decide) ?_
      have hFc := o_free hD hS hA
      refine va_calli (va_runV (As := [.int (-4)]) (rest := []) ⟨hx, hb, hml, hown, hts⟩ (c_X10_refuse_c l dC dI H.size cq Z gI o to (-4) (by decide)) (cwV 1 hts gX10_rations_X10_refuse rfl rfl rfl (by decide +kernel) ⟨(Nat.le_of_ble_eq_true rfl), (Nat.le_of_ble_eq_true rfl)⟩) (pr_V (r := (RX10, TX10, 16)) hP hK hD q_1 10 rfl hq_1) rfl rfl hl.1 rfl (lv_room (Nat.le_of_ble_eq_true rfl)) dX10_rations_31 ⟨(Nat.le_of_ble_eq_true rfl), (Nat.le_of_ble_eq_true rfl)⟩) hS (fun q _ h => hFc q h) hFc (fun r_20 u t H locs ht hvm w_19 hB hz1 hk1 hS => ?_)
      obtain ⟨S_21, rfl⟩ : ∃ z, z = u := ⟨_, rfl⟩
      obtain ⟨hP1, hK1, hD1⟩ := hB
      rw [ht] at hP1
      have hP : va_P (dC, dI) vwCl (oW cq S_21) H := hP1
      have hD : va_D A (oW cq S_21) := hD1.weaken (fun _ _ _ h => hFc _ h)
      clear hP1 hK1 hD1 hk1 hz1 hvm ht hFc
      obtain ⟨hIS_21, XS_21, hb_22, hx_23⟩ := w_19
      have X_24 : oX [116, 117, 2064, 2107, 2120] Z S_21 := oX.st oX.rf XS_21 (by decide)
      have g_25 : (oI S_21 o 0).toInt = (oI Z o 0).toInt := by rw [oX.i XS_21 to (by decide)]
      have pk_26 : oP S_21 o 8 = some lw := by rw [oX.p XS_21 to (by decide)]; exact hlw0
      have pk_27 : oP S_21 b_6 0 = some amb_6 := by rw [oX.p XS_21 tb_6 (by decide)]; exact fm3b_6
      have pk_28 : oP S_21 b_6 1 = some avb_6 := by rw [oX.p XS_21 tb_6 (by decide)]; exact fv3b_6
      have rf_29 : r_20.toInt = -4 := by rw [hx_23.1]; decide
      exact W.iret (v := r_20) hx hb hr (fun t ht hW => ⟨⟨r_20, S_21, rfl, ⟨hIS_21, X_24, ⟨by try clear fppb_6; try clear fSavb_6; try clear fLavb_6; try clear fy4avb_6; have kc0 : (0 : Int32).toInt = 0 := (by decide); have kc1 : (1 : Int32).toInt = 1 := (by decide); have kc2 : (2 : Int32).toInt = 2 := (by decide); (first | exact Or.inr (Or.inl ⟨by omega, by omega, by omega⟩) | (unfold aRa; omega)), (Or.inl ⟨by omega, by rw [hx_23.1]; exact hx_23.2⟩)⟩⟩, ⟨by rw [ht]; exact hP, va_K.moved hW.alike hK, hD⟩⟩, hS.F ht⟩) hS.2.2 dX10_rations_34
    · have dc_18 := c_nlt (a := x2.toInt) (b := 1) rfl (by decide) c_18
      refine lv_iload_n hx hb dX10_rations_23 rfl (lv_at hl 4 rfl) ?_
      refine lv_iconst (v := 1) hx hb dX10_rations_24 (by decide) ?_
      refine lv_icmp_ge (tgt := 35) hx hb dX10_rations_25 (by decide) (fun c_30 => ?_) (fun c_30 => ?_)
      · have dc_30 := c_le (a := 1) (b := x3.toInt) (by decide) rfl c_30
        refine lv_iload_n hx hb dX10_rations_35 rfl (lv_at hl 3 rfl) ?_
        refine lv_sipush (v := 999) hx hb dX10_rations_36 (by decide) ?_
        refine lv_aload hx hb dX10_rations_39 (lv_at hl 0 rfl) ?_
        obtain ⟨q_31, hq_31⟩ := og (cq := cq) tb_6.1 (oE_1 tb_6.2)
        refine va_get (D := (dC, dI)) (ci := 1) (v := .int (oI Z b_6 17)) (C := RX1) (T := TX1) (N := 18) hx hb hts in_wsX10_rations_X1 hown hK hP q_31 hq_31 rfl 17 (by decide) (hts (.fieldLink RX10 284 "ShipOffice$Agreement" "shortDays" "I") iw_X10_rations_1) (fun _ h9 => h9) rfl dX10_rations_41 ?_
        refine lv_topi (fun x_32 ex_32 => ?_)
        have hx_32 : 0 ≤ x_32.toInt ∧ x_32.toInt ≤ 999 := iv_of ex_32 (by omega)
        have gx_32 : x_32.toInt = (oI Z b_6 17).toInt := iv_to ex_32
        clear ex_32
        refine lv_isub hx hb dX10_rations_44 ?_
        refine lv_topi (fun x_33 ex_33 => ?_)
        have hx_33 : x_33.toInt = 999 - x_32.toInt := (iv_to ex_33).trans (sb_i (by decide) rfl (by omega) (by omega))
        clear ex_33
        refine lv_icmp_gt (tgt := 64) hx hb dX10_rations_45 (by decide) (fun c_34 => ?_) (fun c_34 => ?_)
        · have dc_34 := c_lt (a := x_33.toInt) (b := x2.toInt) rfl rfl c_34
          refine lv_aload_n hx hb dX10_rations_64 rfl (lv_at hl 1 rfl) ?_
          refine lv_bipush (v := (-6)) hx hb dX10_rations_65 (by decide) ?_
          have hFc := o_free hD hS hA
          refine va_calli (va_runV (As := [.int (-6)]) (rest := []) ⟨hx, hb, hml, hown, hts⟩ (c_X10_refuse_c l dC dI H.size cq Z gI o to (-6) (by decide)) (cwV 1 hts gX10_rations_X10_refuse rfl rfl rfl (by decide +kernel) ⟨(Nat.le_of_ble_eq_true rfl), (Nat.le_of_ble_eq_true rfl)⟩) (pr_V (r := (RX10, TX10, 16)) hP hK hD q_1 10 rfl hq_1) rfl rfl hl.1 rfl (lv_room (Nat.le_of_ble_eq_true rfl)) dX10_rations_67 ⟨(Nat.le_of_ble_eq_true rfl), (Nat.le_of_ble_eq_true rfl)⟩) hS (fun q _ h => hFc q h) hFc (fun r_36 u t H locs ht hvm w_35 hB hz1 hk1 hS => ?_)
          obtain ⟨S_37, rfl⟩ : ∃ z, z = u := ⟨_, rfl⟩
          obtain ⟨hP1, hK1, hD1⟩ := hB
          rw [ht] at hP1
          have hP : va_P (dC, dI) vwCl (oW cq S_37) H := hP1
          have hD : va_D A (oW cq S_37) := hD1.weaken (fun _ _ _ h => hFc _ h)
          clear hP1 hK1 hD1 hk1 hz1 hvm ht hFc
          obtain ⟨hIS_37, XS_37, hb_38, hx_39⟩ := w_35
          have X_40 : oX [116, 117, 2064, 2107, 2120] Z S_37 := oX.st oX.rf XS_37 (by decide)
          have g_41 : (oI S_37 b_6 17).toInt = (oI Z b_6 17).toInt := by rw [oX.i XS_37 tb_6 (by decide)]
          have g_42 : (oI S_37 o 0).toInt = (oI Z o 0).toInt := by rw [oX.i XS_37 to (by decide)]
          have pk_43 : oP S_37 o 8 = some lw := by rw [oX.p XS_37 to (by decide)]; exact hlw0
          have pk_44 : oP S_37 b_6 0 = some amb_6 := by rw [oX.p XS_37 tb_6 (by decide)]; exact fm3b_6
          have pk_45 : oP S_37 b_6 1 = some avb_6 := by rw [oX.p XS_37 tb_6 (by decide)]; exact fv3b_6
          have rf_46 : r_36.toInt = -6 := by rw [hx_39.1]; decide
          exact W.iret (v := r_36) hx hb hr (fun t ht hW => ⟨⟨r_36, S_37, rfl, ⟨hIS_37, X_40, ⟨by try clear fppb_6; try clear fSavb_6; try clear fLavb_6; try clear fy4avb_6; have kc0 : (0 : Int32).toInt = 0 := (by decide); have kc1 : (1 : Int32).toInt = 1 := (by decide); have kc2 : (2 : Int32).toInt = 2 := (by decide); (first | exact Or.inr (Or.inr (Or.inl ⟨by omega, by omega, by omega, by omega, by omega⟩)) | (unfold aRa; omega)), (Or.inl ⟨by omega, by rw [hx_39.1]; exact hx_39.2⟩)⟩⟩, ⟨by rw [ht]; exact hP, va_K.moved hW.alike hK, hD⟩⟩, hS.F ht⟩) hS.2.2 dX10_rations_70
        · have dc_34 := c_nlt (a := x_33.toInt) (b := x2.toInt) rfl rfl c_34
          refine lv_iload_n hx hb dX10_rations_48 rfl (lv_at hl 4 rfl) ?_
          refine lv_bipush (v := 99) hx hb dX10_rations_49 (by decide) ?_
          refine lv_icmp_gt (tgt := 64) hx hb dX10_rations_51 (by decide) (fun c_47 => ?_) (fun c_47 => ?_)
          · have dc_47 := c_lt (a := 99) (b := x3.toInt) (by decide) rfl c_47
            refine lv_aload_n hx hb dX10_rations_64 rfl (lv_at hl 1 rfl) ?_
            refine lv_bipush (v := (-6)) hx hb dX10_rations_65 (by decide) ?_
            have hFc := o_free hD hS hA
            refine va_calli (va_runV (As := [.int (-6)]) (rest := []) ⟨hx, hb, hml, hown, hts⟩ (c_X10_refuse_c l dC dI H.size cq Z gI o to (-6) (by decide)) (cwV 1 hts gX10_rations_X10_refuse rfl rfl rfl (by decide +kernel) ⟨(Nat.le_of_ble_eq_true rfl), (Nat.le_of_ble_eq_true rfl)⟩) (pr_V (r := (RX10, TX10, 16)) hP hK hD q_1 10 rfl hq_1) rfl rfl hl.1 rfl (lv_room (Nat.le_of_ble_eq_true rfl)) dX10_rations_67 ⟨(Nat.le_of_ble_eq_true rfl), (Nat.le_of_ble_eq_true rfl)⟩) hS (fun q _ h => hFc q h) hFc (fun r_49 u t H locs ht hvm w_48 hB hz1 hk1 hS => ?_)
            obtain ⟨S_50, rfl⟩ : ∃ z, z = u := ⟨_, rfl⟩
            obtain ⟨hP1, hK1, hD1⟩ := hB
            rw [ht] at hP1
            have hP : va_P (dC, dI) vwCl (oW cq S_50) H := hP1
            have hD : va_D A (oW cq S_50) := hD1.weaken (fun _ _ _ h => hFc _ h)
            clear hP1 hK1 hD1 hk1 hz1 hvm ht hFc
            obtain ⟨hIS_50, XS_50, hb_51, hx_52⟩ := w_48
            have X_53 : oX [116, 117, 2064, 2107, 2120] Z S_50 := oX.st oX.rf XS_50 (by decide)
            have g_54 : (oI S_50 b_6 17).toInt = (oI Z b_6 17).toInt := by rw [oX.i XS_50 tb_6 (by decide)]
            have g_55 : (oI S_50 o 0).toInt = (oI Z o 0).toInt := by rw [oX.i XS_50 to (by decide)]
            have pk_56 : oP S_50 o 8 = some lw := by rw [oX.p XS_50 to (by decide)]; exact hlw0
            have pk_57 : oP S_50 b_6 0 = some amb_6 := by rw [oX.p XS_50 tb_6 (by decide)]; exact fm3b_6
            have pk_58 : oP S_50 b_6 1 = some avb_6 := by rw [oX.p XS_50 tb_6 (by decide)]; exact fv3b_6
            have rf_59 : r_49.toInt = -6 := by rw [hx_52.1]; decide
            exact W.iret (v := r_49) hx hb hr (fun t ht hW => ⟨⟨r_49, S_50, rfl, ⟨hIS_50, X_53, ⟨by try clear fppb_6; try clear fSavb_6; try clear fLavb_6; try clear fy4avb_6; have kc0 : (0 : Int32).toInt = 0 := (by decide); have kc1 : (1 : Int32).toInt = 1 := (by decide); have kc2 : (2 : Int32).toInt = 2 := (by decide); (first | exact Or.inr (Or.inr (Or.inl ⟨by omega, by omega, by omega, by omega, by omega⟩)) | (unfold aRa; omega)), (Or.inl ⟨by omega, by rw [hx_52.1]; exact hx_52.2⟩)⟩⟩, ⟨by rw [ht]; exact hP, va_K.moved hW.alike hK, hD⟩⟩, hS.F ht⟩) hS.2.2 dX10_rations_70
          · have dc_47 := c_nlt (a := 99) (b := x3.toInt) (by decide) rfl c_47
            refine lv_aload hx hb dX10_rations_54 (lv_at hl 0 rfl) ?_
            refine va_get (D := (dC, dI)) (ci := 1) (v := .int (oI Z b_6 16)) (C := RX1) (T := TX1) (N := 18) hx hb hts in_wsX10_rations_X1 hown hK hP q_31 hq_31 rfl 16 (by decide) (hts (.fieldLink RX10 287 "ShipOffice$Agreement" "shortCount" "I") iw_X10_rations_2) (fun _ h9 => h9) rfl dX10_rations_56 ?_
            refine lv_topi (fun x_60 ex_60 => ?_)
            have hx_60 : 0 ≤ x_60.toInt ∧ x_60.toInt ≤ 20 := iv_of ex_60 (oInv.iv gI tb_6.2 rfl rfl)
            have gx_60 : x_60.toInt = (oI Z b_6 16).toInt := iv_to ex_60
            clear ex_60
            refine lv_bipush (v := 20) hx hb dX10_rations_59 (by decide) ?_
            refine lv_icmp_lt (tgt := 71) hx hb dX10_rations_61 (by decide) (fun c_61 => ?_) (fun c_61 => ?_)
            · have dc_61 := c_lt (a := x_60.toInt) (b := 20) rfl (by decide) c_61
              refine lv_aload hx hb dX10_rations_71 (lv_at hl 0 rfl) ?_
              refine lv_iload_n hx hb dX10_rations_73 rfl (lv_at hl 3 rfl) ?_
              refine lv_iload_n hx hb dX10_rations_74 rfl (lv_at hl 4 rfl) ?_
              refine lv_aload_n hx hb dX10_rations_75 rfl (lv_at hl 1 rfl) ?_
              refine va_get (D := (dC, dI)) (ci := 10) (v := .int (oI Z o 0)) (C := RX10) (T := TX10) (N := 16) hx hb hts in_wsX10_rations_X10 hown hK hP q_1 hq_1 rfl 0 (by decide) (hts (.fieldLink RX10 73 "ShipOffice" "now" "I") iw_X10_rations_3) (fun _ h9 => h9) rfl dX10_rations_76 ?_
              refine lv_topi (fun x_62 ex_62 => ?_)
              have hx_62 : 0 ≤ x_62.toInt ∧ x_62.toInt ≤ 3000 := iv_of ex_62 (oInv.iv gI to.2 rfl rfl)
              have gx_62 : x_62.toInt = (oI Z o 0).toInt := iv_to ex_62
              clear ex_62
              have hFc := o_free hD hS hA
              refine va_callv (va_runV (As := [.int x2, .int x3, .int x_62]) (rest := []) ⟨hx, hb, hml, hown, hts⟩ (c_X1_addShort_c l dC dI H.size cq Z gI b_6 tb_6 x2 x3 x_62 (by omega) (by omega)) (cwV 3 hts gX10_rations_X1_addShort rfl rfl rfl (by decide +kernel) ⟨(Nat.le_of_ble_eq_true rfl), (Nat.le_of_ble_eq_true rfl)⟩) (pr_V (r := (RX1, TX1, 18)) hP hK hD q_31 1 rfl hq_31) rfl rfl hl.1 rfl (lv_room (Nat.le_of_ble_eq_true rfl)) dX10_rations_79 ⟨(Nat.le_of_ble_eq_true rfl), (Nat.le_of_ble_eq_true rfl)⟩) hS (fun q _ h => hFc q h) hFc (fun u t H locs ht hvm w_63 hB hz1 hk1 hS => ?_)
              obtain ⟨S_65, rfl⟩ : ∃ z, z = u := ⟨_, rfl⟩
              obtain ⟨hP1, hK1, hD1⟩ := hB
              rw [ht] at hP1
              have hP : va_P (dC, dI) vwCl (oW cq S_65) H := hP1
              have hD : va_D A (oW cq S_65) := hD1.weaken (fun _ _ _ h => hFc _ h)
              clear hP1 hK1 hD1 hk1 hz1 hvm ht hFc
              obtain ⟨hIS_65, XS_65, hx_66⟩ := w_63
              have X_67 : oX [116, 117, 2064, 2107, 2120] Z S_65 := oX.st oX.rf XS_65 (by decide)
              have g_68 : (oI S_65 o 0).toInt = (oI Z o 0).toInt := by rw [oX.i XS_65 to (by decide)]
              have pk_69 : oP S_65 o 8 = some lw := by rw [oX.p XS_65 to (by decide)]; exact hlw0
              have pk_70 : oP S_65 b_6 0 = some amb_6 := by rw [oX.p XS_65 tb_6 (by decide)]; exact fm3b_6
              have pk_71 : oP S_65 b_6 1 = some avb_6 := by rw [oX.p XS_65 tb_6 (by decide)]; exact fv3b_6
              obtain ⟨y9, hy9, hra9⟩ := hx_66 (by omega)
              have h17 : (oI S_65 b_6 17).toInt = y9.toInt := by obtain ⟨c9, -, hu9⟩ := hra9; rw [hu9, setI_same]
              refine lv_aload hx hb dX10_rations_82 (lv_at hl 0 rfl) ?_
              have t_72 : oty S_65 b_6 1 := (oX.ty XS_65 tb_6)
              obtain ⟨q_73, hq_73⟩ := og (cq := cq) t_72.1 (oE_1 t_72.2)
              refine va_get (D := (dC, dI)) (ci := 1) (v := .int (oI S_65 b_6 17)) (C := RX1) (T := TX1) (N := 18) hx hb hts in_wsX10_rations_X1 hown hK hP q_73 hq_73 rfl 17 (by decide) (hts (.fieldLink RX10 284 "ShipOffice$Agreement" "shortDays" "I") iw_X10_rations_1) (fun _ h9 => h9) rfl dX10_rations_84 ?_
              refine lv_topi (fun x_74 ex_74 => ?_)
              have hx_74 : 0 ≤ x_74.toInt ∧ x_74.toInt ≤ 999 := iv_of ex_74 (by omega)
              have gx_74 : x_74.toInt = (oI S_65 b_6 17).toInt := iv_to ex_74
              clear ex_74
              exact W.iret (v := x_74) hx hb hr (fun t ht hW => ⟨⟨x_74, S_65, rfl, ⟨hIS_65, X_67, ⟨by try clear fppb_6; try clear fSavb_6; try clear fLavb_6; try clear fy4avb_6; have kc0 : (0 : Int32).toInt = 0 := (by decide); have kc1 : (1 : Int32).toInt = 1 := (by decide); have kc2 : (2 : Int32).toInt = 2 := (by decide); (first | exact Or.inr (Or.inr (Or.inr (⟨by omega, by omega, by omega, by omega, by omega, by omega, by omega⟩))) | (unfold aRa; omega)), Or.inr ⟨by try clear fppb_6; try clear fSavb_6; try clear fLavb_6; try clear fy4avb_6; have kc0 : (0 : Int32).toInt = 0 := (by decide); have kc1 : (1 : Int32).toInt = 1 := (by decide); have kc2 : (2 : Int32).toInt = 2 := (by decide); omega, (by rw [← ejb_6]; have q := hra9; rw [(show x_62 = oI Z o 0 from Int32.toInt_inj.mp (by omega)), (show y9 = x_74 from Int32.toInt_inj.mp (by omega))] at q; exact q)⟩⟩⟩, ⟨by rw [ht]; exact hP, va_K.moved hW.alike hK, hD⟩⟩, hS.F ht⟩) hS.2.2 dX10_rations_87
            · have dc_61 := c_nlt (a := x_60.toInt) (b := 20) rfl (by decide) c_61
              refine lv_aload_n hx hb dX10_rations_64 rfl (lv_at hl 1 rfl) ?_
              refine lv_bipush (v := (-6)) hx hb dX10_rations_65 (by decide) ?_
              have hFc := o_free hD hS hA
              refine va_calli (va_runV (As := [.int (-6)]) (rest := []) ⟨hx, hb, hml, hown, hts⟩ (c_X10_refuse_c l dC dI H.size cq Z gI o to (-6) (by decide)) (cwV 1 hts gX10_rations_X10_refuse rfl rfl rfl (by decide +kernel) ⟨(Nat.le_of_ble_eq_true rfl), (Nat.le_of_ble_eq_true rfl)⟩) (pr_V (r := (RX10, TX10, 16)) hP hK hD q_1 10 rfl hq_1) rfl rfl hl.1 rfl (lv_room (Nat.le_of_ble_eq_true rfl)) dX10_rations_67 ⟨(Nat.le_of_ble_eq_true rfl), (Nat.le_of_ble_eq_true rfl)⟩) hS (fun q _ h => hFc q h) hFc (fun r_76 u t H locs ht hvm w_75 hB hz1 hk1 hS => ?_)
              obtain ⟨S_77, rfl⟩ : ∃ z, z = u := ⟨_, rfl⟩
              obtain ⟨hP1, hK1, hD1⟩ := hB
              rw [ht] at hP1
              have hP : va_P (dC, dI) vwCl (oW cq S_77) H := hP1
              have hD : va_D A (oW cq S_77) := hD1.weaken (fun _ _ _ h => hFc _ h)
              clear hP1 hK1 hD1 hk1 hz1 hvm ht hFc
              obtain ⟨hIS_77, XS_77, hb_78, hx_79⟩ := w_75
              have X_80 : oX [116, 117, 2064, 2107, 2120] Z S_77 := oX.st oX.rf XS_77 (by decide)
              have g_81 : (oI S_77 b_6 16).toInt = (oI Z b_6 16).toInt := by rw [oX.i XS_77 tb_6 (by decide)]
              have g_82 : (oI S_77 b_6 17).toInt = (oI Z b_6 17).toInt := by rw [oX.i XS_77 tb_6 (by decide)]
              have g_83 : (oI S_77 o 0).toInt = (oI Z o 0).toInt := by rw [oX.i XS_77 to (by decide)]
              have pk_84 : oP S_77 o 8 = some lw := by rw [oX.p XS_77 to (by decide)]; exact hlw0
              have pk_85 : oP S_77 b_6 0 = some amb_6 := by rw [oX.p XS_77 tb_6 (by decide)]; exact fm3b_6
              have pk_86 : oP S_77 b_6 1 = some avb_6 := by rw [oX.p XS_77 tb_6 (by decide)]; exact fv3b_6
              have rf_87 : r_76.toInt = -6 := by rw [hx_79.1]; decide
              exact W.iret (v := r_76) hx hb hr (fun t ht hW => ⟨⟨r_76, S_77, rfl, ⟨hIS_77, X_80, ⟨by try clear fppb_6; try clear fSavb_6; try clear fLavb_6; try clear fy4avb_6; have kc0 : (0 : Int32).toInt = 0 := (by decide); have kc1 : (1 : Int32).toInt = 1 := (by decide); have kc2 : (2 : Int32).toInt = 2 := (by decide); (first | exact Or.inr (Or.inr (Or.inl ⟨by omega, by omega, by omega, by omega, by omega⟩)) | (unfold aRa; omega)), (Or.inl ⟨by omega, by rw [hx_79.1]; exact hx_79.2⟩)⟩⟩, ⟨by rw [ht]; exact hP, va_K.moved hW.alike hK, hD⟩⟩, hS.F ht⟩) hS.2.2 dX10_rations_70
      · have dc_30 := c_nle (a := 1) (b := x3.toInt) (by decide) rfl c_30
        refine lv_aload_n hx hb dX10_rations_28 rfl (lv_at hl 1 rfl) ?_
        refine lv_bipush (v := (-4)) hx hb dX10_rations_29 (by decide) ?_
        have hFc := o_free hD hS hA
        refine va_calli (va_runV (As := [.int (-4)]) (rest := []) ⟨hx, hb, hml, hown, hts⟩ (c_X10_refuse_c l dC dI H.size cq Z gI o to (-4) (by decide)) (cwV 1 hts gX10_rations_X10_refuse rfl rfl rfl (by decide +kernel) ⟨(Nat.le_of_ble_eq_true rfl), (Nat.le_of_ble_eq_true rfl)⟩) (pr_V (r := (RX10, TX10, 16)) hP hK hD q_1 10 rfl hq_1) rfl rfl hl.1 rfl (lv_room (Nat.le_of_ble_eq_true rfl)) dX10_rations_31 ⟨(Nat.le_of_ble_eq_true rfl), (Nat.le_of_ble_eq_true rfl)⟩) hS (fun q _ h => hFc q h) hFc (fun r_89 u t H locs ht hvm w_88 hB hz1 hk1 hS => ?_)
        obtain ⟨S_90, rfl⟩ : ∃ z, z = u := ⟨_, rfl⟩
        obtain ⟨hP1, hK1, hD1⟩ := hB
        rw [ht] at hP1
        have hP : va_P (dC, dI) vwCl (oW cq S_90) H := hP1
        have hD : va_D A (oW cq S_90) := hD1.weaken (fun _ _ _ h => hFc _ h)
        clear hP1 hK1 hD1 hk1 hz1 hvm ht hFc
        obtain ⟨hIS_90, XS_90, hb_91, hx_92⟩ := w_88
        have X_93 : oX [116, 117, 2064, 2107, 2120] Z S_90 := oX.st oX.rf XS_90 (by decide)
        have g_94 : (oI S_90 o 0).toInt = (oI Z o 0).toInt := by rw [oX.i XS_90 to (by decide)]
        have pk_95 : oP S_90 o 8 = some lw := by rw [oX.p XS_90 to (by decide)]; exact hlw0
        have pk_96 : oP S_90 b_6 0 = some amb_6 := by rw [oX.p XS_90 tb_6 (by decide)]; exact fm3b_6
        have pk_97 : oP S_90 b_6 1 = some avb_6 := by rw [oX.p XS_90 tb_6 (by decide)]; exact fv3b_6
        have rf_98 : r_89.toInt = -4 := by rw [hx_92.1]; decide
        exact W.iret (v := r_89) hx hb hr (fun t ht hW => ⟨⟨r_89, S_90, rfl, ⟨hIS_90, X_93, ⟨by try clear fppb_6; try clear fSavb_6; try clear fLavb_6; try clear fy4avb_6; have kc0 : (0 : Int32).toInt = 0 := (by decide); have kc1 : (1 : Int32).toInt = 1 := (by decide); have kc2 : (2 : Int32).toInt = 2 := (by decide); (first | exact Or.inr (Or.inl ⟨by omega, by omega, by omega⟩) | (unfold aRa; omega)), (Or.inl ⟨by omega, by rw [hx_92.1]; exact hx_92.2⟩)⟩⟩, ⟨by rw [ht]; exact hP, va_K.moved hW.alike hK, hD⟩⟩, hS.F ht⟩) hS.2.2 dX10_rations_34
