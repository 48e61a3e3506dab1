

/-- a happening is told: a new one stands ahead of the chain at place fi of th -/
def hapO (Z : oS) (o th fi : Nat) (kd dy wy pt r : Int32) (u : oS) : Prop := ∃ q S1, q ∉ oL Z ∧ oX [] Z S1 ∧ oty S1 q 3 ∧ (oI S1 q 0 = kd ∧ oI S1 q 1 = dy ∧ oI S1 q 2 = oI Z o 0 ∧ oI S1 q 3 = wy ∧ oI S1 q 4 = pt ∧ oP S1 q 5 = oP Z th fi) ∧ r.toInt = (oI Z o 7).toInt + 1 ∧ u = setI (setP S1 th fi (some q)) o 7 r
/-- a voyage more -/
def vyO (Z : oS) (o : Nat) (s p : Int32) (u : oS) : Prop := ∃ q S1 y, q ∉ oL Z ∧ oX [] Z S1 ∧ oty S1 q 9 ∧ (oI S1 q 0 = oI Z o 4 ∧ oI S1 q 1 = s ∧ oI S1 q 2 = p ∧ oI S1 q 3 = oI Z o 0 ∧ oI S1 q 4 = 0 ∧ oI S1 q 5 = 1000000 ∧ oI S1 q 6 = 1000000 ∧ oI S1 q 7 = 1000000 ∧ oI S1 q 8 = 1000000 ∧ oP S1 q 9 = none) ∧ y.toInt = (oI Z o 4).toInt + 1 ∧ u = setI (setP S1 (oQ Z o 3) (oI Z o 4).toNatClampNeg (some q)) o 4 y
/-- a ship sailed, a ship is lost: told now as of a day -/
def onO (Z : oS) (o b d t : Nat) (dy r : Int32) (u : oS) : Prop := r.toInt = (oI Z o 7).toInt + 1 ∧ u = setI (setI (setI Z b d dy) b t (oI Z o 0)) o 7 r
set_option maxHeartbeats 4000000 in
set_option maxRecDepth 100000 in
theorem c_X10_addTiding_c (l : Launch) (dC : Nat → ClassId) (dI : Nat → Nat → Nat) (sz : Nat) (cq : Nat → ClassId) (Z : oS) (gI : oInv Z) (o : Nat) (to : oty Z o 10) (a1 : Nat) (ta1 : oty Z a1 1) (x2 : Int32) (x3 : Int32) (x4 : Int32) (x5 : Int32) (hw : (x4.toInt = -9 ∨ (0 ≤ x5.toInt ∧ x5.toInt ≤ 9))) (hn : 0 ≤ (oI Z o 7).toInt ∧ (oI Z o 7).toInt ≤ 200) : Met l yX10_addTiding wsX10_addTiding ({ frames := 2, cells := 1, slots := 6, locals := 40 }) (va_Pc [.ref o, .ref a1, .int x2, .int x3, .int x4, .int x5] (pcW (dC, dI) (oT cq) (oW cq Z) sz)) (va_Qi (fun (r : Int32) (u : oS) => oInv u ∧ oX [108, 1007] Z u ∧ (hapO Z o a1 8 x2 x3 x4 x5 r u)) (fun u t => va_P (dC, dI) vwCl (oW cq u) t.heap ∧ va_K (dC, dI) vwCl (oT cq) t ∧ va_D (va_A (oW cq Z) sz) (oW cq u)) (va_A (oW cq Z) sz)) 1 6 (va_A (oW cq Z) sz) := by
  refine Met.ofW (cc := cX10_addTiding) (maxL := 6) (ret := (some .int)) (by decide +kernel) rfl ?_
  intro p e s m args below meth c s₁ B hml hv
  obtain ⟨rfl, hsz, hP, hK, hD0⟩ := hv
  have hx := B.exec
  have hb := B.bytes
  have hr := B.returns
  have hts := atoms_spec (ws := wsX10_addTiding) B.pre
  have hown : s.vm.findClass RX10 = some m.cls := findClass_of_methodNamed B.named
  have hlocks := B.notSynchronized
  subst hsz
  have hD := hD0.self (sz := s.heap.size)
  generalize hAe : va_A (oW cq Z) s.heap.size = A at hD ⊢
  have hA : ∀ q : Nat, s.heap.size ≤ q → A q := fun q h => by rw [← hAe]; exact Or.inr h
  have hS : va_S A s.heap s.heap [] := va_S.rf
  have hP : va_P (dC, dI) vwCl (oW cq Z) s.heap := hP
  have hl := lv_entry ([.ref o, .ref a1, .int x2, .int x3, .int x4, .int x5]) (n := 6) (Nat.le_of_ble_eq_true rfl)
  rw [lg_entry_eq]
  generalize (lg_sl ([.ref o, .ref a1, .int x2, .int x3, .int x4, .int x5]) ++ List.replicate (6 - (lg_sl ([.ref o, .ref a1, .int x2, .int x3, .int x4, .int x5])).length) Slot.unset).toArray = ls at hl ⊢
  have hl : lv_has ls 6 [(0, .ref o), (1, .ref a1), (2, .int x2), (3, .int x3), (4, .int x4), (5, .int x5)] := hl
  refine lv_aload_n hx hb dX10_addTiding_0 rfl (lv_at hl 1 rfl) ?_
  refine va_new (ci := 3) (fs := [.int 0, .int 0, .int 0, .int 0, .int 0, .null]) (C := RX3) (T := TX3) (N := 6) hx hb hts in_wsX10_addTiding_X3 tyX3 tyX3_ok hown (hts (.classLink RX10 142 RX3) iw_X10_addTiding_1) (hts (.instantiable RX3 6) iw_X10_addTiding_2) (hts (.initialized RX3) iw_X10_addTiding_3) hK hP hD hS hA rfl (fun j hj => by rcases (show j = 0 ∨ j = 1 ∨ j = 2 ∨ j = 3 ∨ j = 4 ∨ j = 5 by omega) with rfl | rfl | rfl | rfl | rfl | rfl <;> rfl) (Nat.le_of_ble_eq_true rfl) (Nat.le_of_ble_eq_true rfl) dX10_addTiding_1 (fun q_1 H hP1 hD1 hS => ?_)
  have hnq_1 := add_q hD1
  obtain ⟨S_2, eS_2⟩ : ∃ zq, zq = addO Z q_1 33 := ⟨_, rfl⟩
  have hP : va_P (dC, dI) vwCl (oW cq S_2) H := by rw [eS_2]; exact cP (onew hD1 (by rw [oE_33 add_K, add_I, add_P]; rfl)) hP1
  have hD : va_D A (oW cq S_2) := by rw [eS_2]; exact cD (onew hD1 (by rw [oE_33 add_K, add_I, add_P]; rfl)) hD1
  clear hP1 hD1
  have hIS_2 : oInv S_2 := by rw [eS_2]; exact oInv.add gI hnq_1 (by decide +kernel)
  have XS_2 : oX [] Z S_2 := by rw [eS_2]; exact oX.add hnq_1
  have nzq_1 : q_1 ∉ oL Z := hnq_1
  have g_3 : (oI S_2 o 0).toInt = (oI Z o 0).toInt := by rw [eS_2, add_In hnq_1 to.1]
  have g_4 : (oI S_2 o 7).toInt = (oI Z o 7).toInt := by rw [eS_2, add_In hnq_1 to.1]
  have X_5 : oX [108, 1007] Z S_2 := oX.st oX.rf XS_2 (by decide +kernel)
  have tq_1 : oty S_2 q_1 33 := by rw [eS_2]; exact add_ty
  refine W.widen (k := 1) (n := 6) (Nat.le_of_ble_eq_true rfl) (Nat.le_of_ble_eq_true rfl) ?_
  refine lv_dup hx hb dX10_addTiding_4 rfl ?_
  refine lv_iload_n hx hb dX10_addTiding_5 rfl (lv_at hl 2 rfl) ?_
  refine lv_iload_n hx hb dX10_addTiding_6 rfl (lv_at hl 3 rfl) ?_
  refine lv_aload_n hx hb dX10_addTiding_7 rfl (lv_at hl 0 rfl) ?_
  have t_6 : oty S_2 o 10 := (oX.ty XS_2 to)
  obtain ⟨q_7, hq_7⟩ := og (cq := cq) t_6.1 (oE_10 t_6.2)
  refine va_get (D := (dC, dI)) (ci := 10) (v := .int (oI S_2 o 0)) (C := RX10) (T := TX10) (N := 16) hx hb hts in_wsX10_addTiding_X10 hown hK hP q_7 hq_7 rfl 0 (by decide +kernel) (hts (.fieldLink RX10 73 "ShipOffice" "now" "I") iw_X10_addTiding_4) (fun _ h9 => h9) rfl dX10_addTiding_8 ?_
  refine lv_topi (fun x_8 ex_8 => ?_)
  have hx_8 : 0 ≤ x_8.toInt ∧ x_8.toInt ≤ 3000 := iv_of ex_8 (oInv.iv hIS_2 t_6.2 rfl rfl)
  have gx_8 : x_8.toInt = (oI S_2 o 0).toInt := iv_to ex_8
  clear ex_8
  refine lv_iload hx hb dX10_addTiding_11 (lv_at hl 4 rfl) ?_
  refine lv_iload hx hb dX10_addTiding_13 (lv_at hl 5 rfl) ?_
  refine lv_aload_n hx hb dX10_addTiding_15 rfl (lv_at hl 1 rfl) ?_
  have t_9 : oty S_2 a1 1 := (oX.ty XS_2 ta1)
  obtain ⟨q_10, hq_10⟩ := og (cq := cq) t_9.1 (oE_1 t_9.2)
  rcases hb_12 : oP S_2 a1 8 with _ | b_11
  · refine va_get (D := (dC, dI)) (ci := 1) (v := .null) (C := RX1) (T := TX1) (N := 18) hx hb hts in_wsX10_addTiding_X1 hown hK hP q_10 hq_10 rfl 8 (by decide +kernel) (hts (.fieldLink RX10 368 "ShipOffice$Agreement" "tidings" "LShipOffice$Happening;") iw_X10_addTiding_5) (fun _ h9 => h9) (o_rd hb_12) dX10_addTiding_16 ?_
    have hFc := o_free hD hS hA
    refine va_callv (va_runI (As := [.int x2, .int x3, .int x_8, .int x4, .int x5, .null]) (rest := [.ref q_1, .ref a1]) ⟨hx, hb, hml, hown, hts⟩ (c_X3_init_c l dC dI H.size cq S_2 hIS_2 q_1 tq_1 x2 x3 x_8 x4 x5 none (fun b h => by cases h) hw (fun b h => by cases h) (fun j => by rw [eS_2, add_I]) (fun j => by rw [eS_2, add_P])) (cwI 6 hts gX10_addTiding_X3_init rfl rfl rfl (hts (.initialized RX3) iw_X10_addTiding_3) (hts (.methodLink RX10 148 yX3_init) iw_X10_addTiding_6) (hts (.instanceMethod yX3_init) iw_X10_addTiding_7) rfl (by decide +kernel) ⟨(Nat.le_of_ble_eq_true rfl), (Nat.le_of_ble_eq_true rfl)⟩) (pr_S hP hK hD) rfl rfl hl.1 rfl (lv_room (Nat.le_of_ble_eq_true rfl)) dX10_addTiding_19 ⟨(Nat.le_of_ble_eq_true rfl), (Nat.le_of_ble_eq_true rfl)⟩) hS (fun q _ h => hFc q h) hFc (fun u t H locs ht hvm w_13 hB hz1 hk1 hS => ?_)
    obtain ⟨S_15, rfl⟩ : ∃ z, z = u := ⟨_, rfl⟩
    obtain ⟨hP1, hK1, hD1⟩ := hB
    rw [ht] at hP1
    have hP : va_P (dC, dI) vwCl (oW cq S_15) H := hP1
    have hD : va_D A (oW cq S_15) := hD1.weaken (fun _ _ _ h => hFc _ h)
    clear hP1 hK1 hD1 hk1 hz1 hvm ht hFc
    obtain ⟨hIS_15, XS_15, hx_16⟩ := w_13
    obtain ⟨hxS_15, hcS_15⟩ := hx_16
    have X_17 : oX [108, 1007] Z S_15 := oX.c X_5 XS_15 nzq_1 (by decide +kernel)
    have g_18 : (oI S_15 o 0).toInt = (oI S_2 o 0).toInt := by rw [oXc.i XS_15 (ty_ne t_6 tq_1 (by decide +kernel)) t_6 (by decide +kernel)]
    have g_19 : (oI S_15 o 7).toInt = (oI S_2 o 7).toInt := by rw [oXc.i XS_15 (ty_ne t_6 tq_1 (by decide +kernel)) t_6 (by decide +kernel)]
    have fzS_15 : oX [] Z S_15 := oX.c (W := []) (oX.st oX.rf XS_2 (by decide +kernel)) XS_15 nzq_1 (by decide +kernel)
    have t_20 : oty S_15 a1 1 := (oXc.ty XS_15 (ty_ne t_9 tq_1 (by decide +kernel)) t_9)
    obtain ⟨q_21, hq_21⟩ := og (cq := cq) t_20.1 (oE_1 t_20.2)
    refine va_put (D := (dC, dI)) (ci := 1) (v := .ref q_1) (ty := .object "ShipOffice$Happening") (C := RX1) (T := TX1) (N := 18) hx hb hts in_wsX10_addTiding_X1 tyX1 tyX1_ok nmX1 hown hK hP hD hS q_21 hq_21 rfl 8 (by decide +kernel) (hts (.fieldLink RX10 368 "ShipOffice$Agreement" "tidings" "LShipOffice$Happening;") iw_X10_addTiding_5) (fun _ h9 => h9) rfl (by decide +kernel) rfl rfl (Nat.le_of_ble_eq_true rfl) dX10_addTiding_22 (fun H locs hP1 hD1 hS => ?_)
    obtain ⟨S_22, eS_22⟩ : ∃ zq, zq = setP S_15 a1 8 (some q_1) := ⟨_, rfl⟩
    have hP : va_P (dC, dI) vwCl (oW cq S_22) H := by rw [eS_22]; exact cP (oset t_20.1 hq_21 hD rfl (he_1_8 t_20.2) neP) hP1
    have hD : va_D A (oW cq S_22) := by rw [eS_22]; exact cD (oset t_20.1 hq_21 hD rfl (he_1_8 t_20.2) neP) hD1
    clear hP1 hD1
    have hIS_22 : oInv S_22 := by rw [eS_22]; exact oInv.P (k := 1) hIS_15 t_20.2 (by decide +kernel) rfl (by decide +kernel) hxS_15 (by decide +kernel)
    have XS_22 : oX [108] S_15 S_22 := by rw [eS_22]; exact oX.P (k := 1) (key := 108) t_20.2 rfl (List.mem_singleton.mpr rfl)
    have X_23 : oX [108, 1007] Z S_22 := oX.st X_17 XS_22 (by decide +kernel)
    have g_24 : (oI S_22 o 0).toInt = (oI S_15 o 0).toInt := by rw [eS_22]; rfl
    have g_25 : (oI S_22 o 7).toInt = (oI S_15 o 7).toInt := by rw [eS_22]; rfl
    refine lv_aload_n hx hb dX10_addTiding_25 rfl (lv_at hl 0 rfl) ?_
    refine lv_dup hx hb dX10_addTiding_26 rfl ?_
    have t_26 : oty S_22 o 10 := (oX.ty XS_22 (oXc.ty XS_15 (ty_ne t_6 tq_1 (by decide +kernel)) t_6))
    obtain ⟨q_27, hq_27⟩ := og (cq := cq) t_26.1 (oE_10 t_26.2)
    refine va_get (D := (dC, dI)) (ci := 10) (v := .int (oI S_22 o 7)) (C := RX10) (T := TX10) (N := 16) hx hb hts in_wsX10_addTiding_X10 hown hK hP q_27 hq_27 rfl 7 (by decide +kernel) (hts (.fieldLink RX10 139 "ShipOffice" "happeningCount" "I") iw_X10_addTiding_8) (fun _ h9 => h9) rfl dX10_addTiding_27 ?_
    refine lv_topi (fun x_28 ex_28 => ?_)
    have hx_28 : 0 ≤ x_28.toInt ∧ x_28.toInt ≤ 201 := iv_of ex_28 (by omega)
    have gx_28 : x_28.toInt = (oI S_22 o 7).toInt := iv_to ex_28
    clear ex_28
    refine lv_iconst (v := 1) hx hb dX10_addTiding_30 (by decide +kernel) ?_
    refine lv_iadd hx hb dX10_addTiding_31 ?_
    refine lv_topi (fun x_29 ex_29 => ?_)
    have hx_29 : x_29.toInt = x_28.toInt + 1 := (iv_to ex_29).trans (ad_i rfl (by decide +kernel) (by omega) (by omega))
    clear ex_29
    refine va_put (D := (dC, dI)) (ci := 10) (v := .int x_29) (ty := .int) (C := RX10) (T := TX10) (N := 16) hx hb hts in_wsX10_addTiding_X10 tyX10 tyX10_ok nmX10 hown hK hP hD hS q_27 hq_27 rfl 7 (by decide +kernel) (hts (.fieldLink RX10 139 "ShipOffice" "happeningCount" "I") iw_X10_addTiding_8) (fun _ h9 => h9) rfl (by decide +kernel) rfl rfl (Nat.le_of_ble_eq_true rfl) dX10_addTiding_32 (fun H locs hP1 hD1 hS => ?_)
    obtain ⟨S_30, eS_30⟩ : ∃ zq, zq = setI S_22 o 7 x_29 := ⟨_, rfl⟩
    have hP : va_P (dC, dI) vwCl (oW cq S_30) H := by rw [eS_30]; exact cP (oset t_26.1 hq_27 hD rfl (he_10_7 t_26.2) neI) hP1
    have hD : va_D A (oW cq S_30) := by rw [eS_30]; exact cD (oset t_26.1 hq_27 hD rfl (he_10_7 t_26.2) neI) hD1
    clear hP1 hD1
    have hIS_30 : oInv S_30 := by rw [eS_30]; exact oInv.I0 (k := 10) (lo := -2147483648) (hi := 2147483647) hIS_22 t_26.2 (by decide +kernel) rfl rfl rfl (iv_all _)
    have XS_30 : oX [1007] S_22 S_30 := by rw [eS_30]; exact oX.I (k := 10) (key := 1007) t_26.2 rfl (List.mem_singleton.mpr rfl)
    have X_31 : oX [108, 1007] Z S_30 := oX.st X_23 XS_30 (by decide +kernel)
    have g_32 : (oI S_30 o 0).toInt = (oI S_22 o 0).toInt := by rw [eS_30, setI_ne (by decide +kernel)]
    have g_33 : (oI S_30 o 7).toInt = x_29.toInt := by rw [eS_30, setI_same]
    refine lv_aload_n hx hb dX10_addTiding_35 rfl (lv_at hl 0 rfl) ?_
    have t_34 : oty S_30 o 10 := (oX.ty XS_30 t_26)
    obtain ⟨q_35, hq_35⟩ := og (cq := cq) t_34.1 (oE_10 t_34.2)
    refine va_get (D := (dC, dI)) (ci := 10) (v := .int (oI S_30 o 7)) (C := RX10) (T := TX10) (N := 16) hx hb hts in_wsX10_addTiding_X10 hown hK hP q_35 hq_35 rfl 7 (by decide +kernel) (hts (.fieldLink RX10 139 "ShipOffice" "happeningCount" "I") iw_X10_addTiding_8) (fun _ h9 => h9) rfl dX10_addTiding_36 ?_
    refine lv_topi (fun x_36 ex_36 => ?_)
    have hx_36 : 0 ≤ x_36.toInt ∧ x_36.toInt ≤ 201 := iv_of ex_36 (by omega)
    have gx_36 : x_36.toInt = (oI S_30 o 7).toInt := iv_to ex_36
    clear ex_36
    exact W.iret (v := x_36) hx hb hr (fun t ht hW => ⟨⟨x_36, S_30, rfl, ⟨hIS_30, X_31, ⟨q_1, S_15, nzq_1, fzS_15, hxS_15, (by obtain ⟨h1, h2, h3, h4, h5, h6⟩ := hcS_15; exact ⟨h1, h2, h3.trans (Int32.toInt_inj.mp (by omega)), h4, h5, h6.trans (hb_12.symm.trans (oX.p XS_2 ta1 (by decide +kernel)))⟩), by omega, by rw [eS_30, eS_22, (show x_29 = x_36 from Int32.toInt_inj.mp (by omega))]⟩⟩, ⟨by rw [ht]; exact hP, va_K.moved hW.alike hK, hD⟩⟩, hS.F ht⟩) hS.2.2 dX10_addTiding_39
  · refine va_get (D := (dC, dI)) (ci := 1) (v := .ref b_11) (C := RX1) (T := TX1) (N := 18) hx hb hts in_wsX10_addTiding_X1 hown hK hP q_10 hq_10 rfl 8 (by decide +kernel) (hts (.fieldLink RX10 368 "ShipOffice$Agreement" "tidings" "LShipOffice$Happening;") iw_X10_addTiding_5) (fun _ h9 => h9) (o_rd hb_12) dX10_addTiding_16 ?_
    have tb_11 : oty S_2 b_11 3 := oInv.rd hIS_2 t_9.2 hb_12 rfl rfl
    have hFc := o_free hD hS hA
    refine va_callv (va_runI (As := [.int x2, .int x3, .int x_8, .int x4, .int x5, .ref b_11]) (rest := [.ref q_1, .ref a1]) ⟨hx, hb, hml, hown, hts⟩ (c_X3_init_c l dC dI H.size cq S_2 hIS_2 q_1 tq_1 x2 x3 x_8 x4 x5 (some b_11) (fun b h => by cases h; exact tb_11) hw (fun b h => by cases h; have hm := tb_11.1; have nb := ty_ne tb_11 tq_1 (by decide +kernel); rw [eS_2] at hm ⊢; exact add_G2 hnq_1 hm nb) (fun j => by rw [eS_2, add_I]) (fun j => by rw [eS_2, add_P])) (cwI 6 hts gX10_addTiding_X3_init rfl rfl rfl (hts (.initialized RX3) iw_X10_addTiding_3) (hts (.methodLink RX10 148 yX3_init) iw_X10_addTiding_6) (hts (.instanceMethod yX3_init) iw_X10_addTiding_7) rfl (by decide +kernel) ⟨(Nat.le_of_ble_eq_true rfl), (Nat.le_of_ble_eq_true rfl)⟩) (pr_S hP hK hD) rfl rfl hl.1 rfl (lv_room (Nat.le_of_ble_eq_true rfl)) dX10_addTiding_19 ⟨(Nat.le_of_ble_eq_true rfl), (Nat.le_of_ble_eq_true rfl)⟩) hS (fun q _ h => hFc q h) hFc (fun u t H locs ht hvm w_37 hB hz1 hk1 hS => ?_)
    obtain ⟨S_39, rfl⟩ : ∃ z, z = u := ⟨_, rfl⟩
    obtain ⟨hP1, hK1, hD1⟩ := hB
    rw [ht] at hP1
    have hP : va_P (dC, dI) vwCl (oW cq S_39) H := hP1
    have hD : va_D A (oW cq S_39) := hD1.weaken (fun _ _ _ h => hFc _ h)
    clear hP1 hK1 hD1 hk1 hz1 hvm ht hFc
    obtain ⟨hIS_39, XS_39, hx_40⟩ := w_37
    obtain ⟨hxS_39, hcS_39⟩ := hx_40
    have X_41 : oX [108, 1007] Z S_39 := oX.c X_5 XS_39 nzq_1 (by decide +kernel)
    have g_42 : (oI S_39 o 0).toInt = (oI S_2 o 0).toInt := by rw [oXc.i XS_39 (ty_ne t_6 tq_1 (by decide +kernel)) t_6 (by decide +kernel)]
    have g_43 : (oI S_39 o 7).toInt = (oI S_2 o 7).toInt := by rw [oXc.i XS_39 (ty_ne t_6 tq_1 (by decide +kernel)) t_6 (by decide +kernel)]
    have fzS_39 : oX [] Z S_39 := oX.c (W := []) (oX.st oX.rf XS_2 (by decide +kernel)) XS_39 nzq_1 (by decide +kernel)
    have t_44 : oty S_39 a1 1 := (oXc.ty XS_39 (ty_ne t_9 tq_1 (by decide +kernel)) t_9)
    obtain ⟨q_45, hq_45⟩ := og (cq := cq) t_44.1 (oE_1 t_44.2)
    refine va_put (D := (dC, dI)) (ci := 1) (v := .ref q_1) (ty := .object "ShipOffice$Happening") (C := RX1) (T := TX1) (N := 18) hx hb hts in_wsX10_addTiding_X1 tyX1 tyX1_ok nmX1 hown hK hP hD hS q_45 hq_45 rfl 8 (by decide +kernel) (hts (.fieldLink RX10 368 "ShipOffice$Agreement" "tidings" "LShipOffice$Happening;") iw_X10_addTiding_5) (fun _ h9 => h9) rfl (by decide +kernel) rfl rfl (Nat.le_of_ble_eq_true rfl) dX10_addTiding_22 (fun H locs hP1 hD1 hS => ?_)
    obtain ⟨S_46, eS_46⟩ : ∃ zq, zq = setP S_39 a1 8 (some q_1) := ⟨_, rfl⟩
    have hP : va_P (dC, dI) vwCl (oW cq S_46) H := by rw [eS_46]; exact cP (oset t_44.1 hq_45 hD rfl (he_1_8 t_44.2) neP) hP1
    have hD : va_D A (oW cq S_46) := by rw [eS_46]; exact cD (oset t_44.1 hq_45 hD rfl (he_1_8 t_44.2) neP) hD1
    clear hP1 hD1
    have hIS_46 : oInv S_46 := by rw [eS_46]; exact oInv.P (k := 1) hIS_39 t_44.2 (by decide +kernel) rfl (by decide +kernel) hxS_39 (by decide +kernel)
    have XS_46 : oX [108] S_39 S_46 := by rw [eS_46]; exact oX.P (k := 1) (key := 108) t_44.2 rfl (List.mem_singleton.mpr rfl)
    have X_47 : oX [108, 1007] Z S_46 := oX.st X_41 XS_46 (by decide +kernel)
    have g_48 : (oI S_46 o 0).toInt = (oI S_39 o 0).toInt := by rw [eS_46]; rfl
    have g_49 : (oI S_46 o 7).toInt = (oI S_39 o 7).toInt := by rw [eS_46]; rfl
    refine lv_aload_n hx hb dX10_addTiding_25 rfl (lv_at hl 0 rfl) ?_
    refine lv_dup hx hb dX10_addTiding_26 rfl ?_
    have t_50 : oty S_46 o 10 := (oX.ty XS_46 (oXc.ty XS_39 (ty_ne t_6 tq_1 (by decide +kernel)) t_6))
    obtain ⟨q_51, hq_51⟩ := og (cq := cq) t_50.1 (oE_10 t_50.2)
    refine va_get (D := (dC, dI)) (ci := 10) (v := .int (oI S_46 o 7)) (C := RX10) (T := TX10) (N := 16) hx hb hts in_wsX10_addTiding_X10 hown hK hP q_51 hq_51 rfl 7 (by decide +kernel) (hts (.fieldLink RX10 139 "ShipOffice" "happeningCount" "I") iw_X10_addTiding_8) (fun _ h9 => h9) rfl dX10_addTiding_27 ?_
    refine lv_topi (fun x_52 ex_52 => ?_)
    have hx_52 : 0 ≤ x_52.toInt ∧ x_52.toInt ≤ 201 := iv_of ex_52 (by omega)
    have gx_52 : x_52.toInt = (oI S_46 o 7).toInt := iv_to ex_52
    clear ex_52
    refine lv_iconst (v := 1) hx hb dX10_addTiding_30 (by decide +kernel) ?_
    refine lv_iadd hx hb dX10_addTiding_31 ?_
    refine lv_topi (fun x_53 ex_53 => ?_)
    have hx_53 : x_53.toInt = x_52.toInt + 1 := (iv_to ex_53).trans (ad_i rfl (by decide +kernel) (by omega) (by omega))
    clear ex_53
    refine va_put (D := (dC, dI)) (ci := 10) (v := .int x_53) (ty := .int) (C := RX10) (T := TX10) (N := 16) hx hb hts in_wsX10_addTiding_X10 tyX10 tyX10_ok nmX10 hown hK hP hD hS q_51 hq_51 rfl 7 (by decide +kernel) (hts (.fieldLink RX10 139 "ShipOffice" "happeningCount" "I") iw_X10_addTiding_8) (fun _ h9 => h9) rfl (by decide +kernel) rfl rfl (Nat.le_of_ble_eq_true rfl) dX10_addTiding_32 (fun H locs hP1 hD1 hS => ?_)
    obtain ⟨S_54, eS_54⟩ : ∃ zq, zq = setI S_46 o 7 x_53 := ⟨_, rfl⟩
    have hP : va_P (dC, dI) vwCl (oW cq S_54) H := by rw [eS_54]; exact cP (oset t_50.1 hq_51 hD rfl (he_10_7 t_50.2) neI) hP1
    have hD : va_D A (oW cq S_54) := by rw [eS_54]; exact cD (oset t_50.1 hq_51 hD rfl (he_10_7 t_50.2) neI) hD1
    clear hP1 hD1
    have hIS_54 : oInv S_54 := by rw [eS_54]; exact oInv.I0 (k := 10) (lo := -2147483648) (hi := 2147483647) hIS_46 t_50.2 (by decide +kernel) rfl rfl rfl (iv_all _)
    have XS_54 : oX [1007] S_46 S_54 := by rw [eS_54]; exact oX.I (k := 10) (key := 1007) t_50.2 rfl (List.mem_singleton.mpr rfl)
    have X_55 : oX [108, 1007] Z S_54 := oX.st X_47 XS_54 (by decide +kernel)
    have g_56 : (oI S_54 o 0).toInt = (oI S_46 o 0).toInt := by rw [eS_54, setI_ne (by decide +kernel)]
    have g_57 : (oI S_54 o 7).toInt = x_53.toInt := by rw [eS_54, setI_same]
    refine lv_aload_n hx hb dX10_addTiding_35 rfl (lv_at hl 0 rfl) ?_
    have t_58 : oty S_54 o 10 := (oX.ty XS_54 t_50)
    obtain ⟨q_59, hq_59⟩ := og (cq := cq) t_58.1 (oE_10 t_58.2)
    refine va_get (D := (dC, dI)) (ci := 10) (v := .int (oI S_54 o 7)) (C := RX10) (T := TX10) (N := 16) hx hb hts in_wsX10_addTiding_X10 hown hK hP q_59 hq_59 rfl 7 (by decide +kernel) (hts (.fieldLink RX10 139 "ShipOffice" "happeningCount" "I") iw_X10_addTiding_8) (fun _ h9 => h9) rfl dX10_addTiding_36 ?_
    refine lv_topi (fun x_60 ex_60 => ?_)
    have hx_60 : 0 ≤ x_60.toInt ∧ x_60.toInt ≤ 201 := iv_of ex_60 (by omega)
    have gx_60 : x_60.toInt = (oI S_54 o 7).toInt := iv_to ex_60
    clear ex_60
    exact W.iret (v := x_60) hx hb hr (fun t ht hW => ⟨⟨x_60, S_54, rfl, ⟨hIS_54, X_55, ⟨q_1, S_39, nzq_1, fzS_39, hxS_39, (by obtain ⟨h1, h2, h3, h4, h5, h6⟩ := hcS_39; exact ⟨h1, h2, h3.trans (Int32.toInt_inj.mp (by omega)), h4, h5, h6.trans (hb_12.symm.trans (oX.p XS_2 ta1 (by decide +kernel)))⟩), by omega, by rw [eS_54, eS_46, (show x_53 = x_60 from Int32.toInt_inj.mp (by omega))]⟩⟩, ⟨by rw [ht]; exact hP, va_K.moved hW.alike hK, hD⟩⟩, hS.F ht⟩) hS.2.2 dX10_addTiding_39
