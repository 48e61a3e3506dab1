


set_option maxHeartbeats 4000000 in
set_option maxRecDepth 100000 in
theorem c_X10_sailed_c (l : Launch) (dC : Nat → ClassId) (dI : Nat → Nat → Nat) (sz : Nat) (cq : Nat → ClassId) (Z : oS) (gI : oInv Z) (o : Nat) (to : oty Z o 10) (x1 : Int32) (x2 : Int32) (v : Nat → Int32) (fa : Nat → Nat → Int32) (hR : RC Z o v fa) : Met l yX10_sailed wsX10_sailed ({ frames := 1, cells := 0, slots := 0, locals := 23 }) (va_Pc [.ref o, .int x1, .int x2] (pcW (dC, dI) (oT cq) (oW cq Z) sz)) (va_Qi (fun (r : Int32) (u : oS) => oInv u ∧ oX [905, 906, 1007, 2107] Z u ∧ (aHt x1.toInt (v 40).toInt (fa 9 x1.toNatClampNeg).toInt (tldI v fa 0 x1.toInt) (fa 7 x1.toNatClampNeg).toInt x2.toInt (v 38).toInt (v 41).toInt r.toInt ∧ rOo Z o u r (onO Z o (voA Z o x1.toNatClampNeg) 5 6 x2 r u))) (fun u t => va_P (dC, dI) vwCl (oW cq u) t.heap ∧ va_K (dC, dI) vwCl (oT cq) t ∧ va_D (va_A (oW cq Z) sz) (oW cq u)) (va_A (oW cq Z) sz)) 0 0 (va_A (oW cq Z) sz) := by
  refine Met.ofW (cc := cX10_sailed) (maxL := 5) (ret := (some .int)) (by decide +kernel) rfl ?_
  intro p e s m args below meth c s₁ B hml hv
  obtain ⟨rfl, hsz, hP, hK, hD0⟩ := hv
  have hx := B.exec
  have hb := B.bytes
  have hr := B.returns
  have hts := atoms_spec (ws := wsX10_sailed) B.pre
  have hown : s.vm.findClass RX10 = some m.cls := findClass_of_methodNamed B.named
  have hlocks := B.notSynchronized
  subst hsz
  have hD := hD0.self (sz := s.heap.size)
  generalize hAe : va_A (oW cq Z) s.heap.size = A at hD ⊢
  have hA : ∀ q : Nat, s.heap.size ≤ q → A q := fun q h => by rw [← hAe]; exact Or.inr h
  have hS : va_S A s.heap s.heap [] := va_S.rf
  have hP : va_P (dC, dI) vwCl (oW cq Z) s.heap := hP
  have hl := lv_entry ([.ref o, .int x1, .int x2]) (n := 5) (Nat.le_of_ble_eq_true rfl)
  rw [lg_entry_eq]
  generalize (lg_sl ([.ref o, .int x1, .int x2]) ++ List.replicate (5 - (lg_sl ([.ref o, .int x1, .int x2])).length) Slot.unset).toArray = ls at hl ⊢
  have hl : lv_has ls 5 [(0, .ref o), (1, .int x1), (2, .int x2)] := hl
  obtain ⟨fn0, fn1, fn2, fn3, fn4⟩ := RC.n hR
  have fb38 : 0 ≤ (v 38).toInt ∧ (v 38).toInt ≤ 3000 := RC.V hR 38
  have fb39 : 0 ≤ (v 39).toInt ∧ (v 39).toInt ≤ 40 := RC.V hR 39
  have fb40 : 0 ≤ (v 40).toInt ∧ (v 40).toInt ≤ 20 := RC.V hR 40
  have fb43 : 0 ≤ (v 43).toInt ∧ (v 43).toInt ≤ 60 := RC.V hR 43
  have fb41 : 0 ≤ (v 41).toInt ∧ (v 41).toInt ≤ 200 := RC.V hR 41
  refine lv_aload_n hx hb dX10_sailed_0 rfl (lv_at hl 0 rfl) ?_
  refine lv_iload_n hx hb dX10_sailed_1 rfl (lv_at hl 1 rfl) ?_
  have hFc : ∀ q, va_A [] s.heap.size q → A q := pu_free hS hA
  obtain ⟨q_1, hq_1⟩ := og (cq := cq) to.1 (oE_10 to.2)
  refine va_callq (va_runV (As := [.int x1]) (rest := []) ⟨hx, hb, hml, hown, hts⟩ (c_X10_voyageAt_c l dC dI s.heap.size cq Z gI o to x1 v fa hR) (cwV 1 hts gX10_sailed_X10_voyageAt rfl rfl rfl (by decide +kernel) ⟨(Nat.le_of_ble_eq_true rfl), (Nat.le_of_ble_eq_true rfl)⟩) (pr_V (r := (RX10, TX10, 16)) hP hK hD q_1 10 rfl hq_1) rfl rfl hl.1 rfl (lv_room (Nat.le_of_ble_eq_true rfl)) dX10_sailed_2 ⟨(Nat.le_of_ble_eq_true rfl), (Nat.le_of_ble_eq_true rfl)⟩) hS (fun q _ h => hFc q h) hFc (fun r_3 u t H locs ht hvm w_2 hB hz1 hk1 hS => ?_)
  have hP := pu_keep hP hk1
  clear hk1 hz1 hvm hB ht hFc
  obtain ⟨hk_4, hx_5⟩ := w_2
  rcases r_3 with _ | b_6
  · refine W.eq (g2 := F0 m 5 ls [.null]) rfl ?_
    have hnr_3 := atF_n hx_5
    refine lv_astore_nN (lv' := [(3, .null), (0, .ref o), (1, .int x1), (2, .int x2)]) hx hb dX10_sailed_5 rfl hl (by decide +kernel) rfl (fun ls hl => ?_)
    refine lv_aload_nN hx hb dX10_sailed_6 rfl (lv_at hl 0 rfl) ?_
    refine lv_ifnonnullN hx hb dX10_sailed_7 ?_
    refine lv_aload_n hx hb dX10_sailed_10 rfl (lv_at hl 1 rfl) ?_
    refine lv_iconst (v := (-1)) hx hb dX10_sailed_11 (by decide +kernel) ?_
    have hFc := o_free hD hS hA
    refine va_calli (va_runV (As := [.int (-1)]) (rest := []) ⟨hx, hb, hml, hown, hts⟩ (c_X10_refuse_c l dC dI H.size cq Z gI o to (-1) (by decide +kernel)) (cwV 1 hts gX10_sailed_X10_refuse rfl rfl rfl (by decide +kernel) ⟨(Nat.le_of_ble_eq_true rfl), (Nat.le_of_ble_eq_true rfl)⟩) (pr_V (r := (RX10, TX10, 16)) hP hK hD q_1 10 rfl hq_1) rfl rfl hl.1 rfl (lv_room (Nat.le_of_ble_eq_true rfl)) dX10_sailed_12 ⟨(Nat.le_of_ble_eq_true rfl), (Nat.le_of_ble_eq_true rfl)⟩) hS (fun q _ h => hFc q h) hFc (fun r_8 u t H locs ht hvm w_7 hB hz1 hk1 hS => ?_)
    obtain ⟨S_9, rfl⟩ : ∃ z, z = u := ⟨_, rfl⟩
    obtain ⟨hP1, hK1, hD1⟩ := hB
    rw [ht] at hP1
    have hP : va_P (dC, dI) vwCl (oW cq S_9) H := hP1
    have hD : va_D A (oW cq S_9) := hD1.weaken (fun _ _ _ h => hFc _ h)
    clear hP1 hK1 hD1 hk1 hz1 hvm ht hFc
    obtain ⟨hIS_9, XS_9, hb_10, hx_11⟩ := w_7
    have X_12 : oX [905, 906, 1007, 2107] Z S_9 := oX.st oX.rf XS_9 (by decide +kernel)
    have g_13 : (oI S_9 o 0).toInt = (oI Z o 0).toInt := by rw [oX.i XS_9 to (by decide +kernel)]
    have g_14 : (oI S_9 o 7).toInt = (oI Z o 7).toInt := by rw [oX.i XS_9 to (by decide +kernel)]
    have rf_15 : r_8.toInt = -1 := by rw [hx_11.1]; decide
    exact W.iret (v := r_8) hx hb hr (fun t ht hW => ⟨⟨r_8, S_9, rfl, ⟨hIS_9, X_12, ⟨by have kc0 : (0 : Int32).toInt = 0 := (by decide +kernel); have kc1 : (1 : Int32).toInt = 1 := (by decide +kernel); have kc2 : (2 : Int32).toInt = 2 := (by decide +kernel); (first | exact Or.inl ⟨by omega, by omega⟩ | (unfold aHt aHp; omega)), (Or.inl ⟨by omega, by rw [hx_11.1]; exact hx_11.2⟩)⟩⟩, ⟨by rw [ht]; exact hP, va_K.moved hW.alike hK, hD⟩⟩, hS.F ht⟩) hS.2.2 dX10_sailed_15
  · refine W.eq (g2 := F0 m 5 ls [.ref b_6]) rfl ?_
    have tb_6 : oty Z b_6 9 := hk_4 b_6 rfl
    obtain ⟨hjb_6, ejb_6⟩ := atF_s hx_5
    have ljb_6 := ni_lt hjb_6.1 hjb_6.2
    have njb_6 := tn_i hjb_6.1
    have fVb_6 := RC.vo hR ljb_6
    rw [← ejb_6] at fVb_6
    obtain ⟨fy0b_6, fy1b_6, fy2b_6, fy3b_6, fy4b_6, fySb_6, fyLb_6, fyhb_6⟩ := fVb_6
    have fBb_6 : 0 ≤ (fa 7 x1.toNatClampNeg).toInt ∧ (fa 7 x1.toNatClampNeg).toInt ≤ 3000 := RC.A hR 7 _
    have fSb_6 := onc_i fySb_6
    have fLb_6 := onc_i fyLb_6
    rw [njb_6] at fy0b_6 fSb_6 fLb_6
    refine lv_astore_n (lv' := [(3, .ref b_6), (0, .ref o), (1, .int x1), (2, .int x2)]) hx hb dX10_sailed_5 rfl hl (by decide +kernel) rfl (fun ls hl => ?_)
    refine lv_aload_n hx hb dX10_sailed_6 rfl (lv_at hl 0 rfl) ?_
    refine lv_ifnonnull (tgt := 16) hx hb dX10_sailed_7 (by decide +kernel) ?_
    refine lv_aload_n hx hb dX10_sailed_16 rfl (lv_at hl 1 rfl) ?_
    refine lv_aload_n hx hb dX10_sailed_17 rfl (lv_at hl 0 rfl) ?_
    refine lv_iload_n hx hb dX10_sailed_18 rfl (lv_at hl 3 rfl) ?_
    refine lv_aload_n hx hb dX10_sailed_19 rfl (lv_at hl 0 rfl) ?_
    obtain ⟨q_16, hq_16⟩ := og (cq := cq) tb_6.1 (oE_9 tb_6.2)
    refine va_get (D := (dC, dI)) (ci := 9) (v := .int (oI Z b_6 6)) (C := RX9) (T := TX9) (N := 10) hx hb hts in_wsX10_sailed_X9 hown hK hP q_16 hq_16 rfl 6 (by decide +kernel) (hts (.fieldLink RX10 129 "ShipOffice$Voyage" "sailedTold" "I") iw_X10_sailed_1) (fun _ h9 => h9) rfl dX10_sailed_20 ?_
    refine lv_topi (fun x_17 ex_17 => ?_)
    have gx_17 : x_17.toInt = (oI Z b_6 6).toInt := iv_to ex_17
    clear ex_17
    refine lv_ldc (v := 1000000) hx hb hown (hts (.constant RX10 114 (1000000)) (by decide +kernel)) dX10_sailed_23 ?_
    refine lv_icmp_eq (tgt := 32) hx hb dX10_sailed_25 (by decide +kernel) (fun c_18 => ?_) (fun c_18 => ?_)
    · have dc_18 := c_eq (a := x_17.toInt) (b := 1000000) rfl (by decide +kernel) c_18
      refine lv_iconst (v := 0) hx hb dX10_sailed_32 (by decide +kernel) ?_
      have hFc : ∀ q, va_A [] H.size q → A q := pu_free hS hA
      refine va_calli (va_runV (As := [.ref b_6, .int x2, .int 0]) (rest := []) ⟨hx, hb, hml, hown, hts⟩ (c_X10_voyageRefusal_c l dC dI H.size cq Z gI o to b_6 tb_6 x2 0) (cwV 3 hts gX10_sailed_X10_voyageRefusal rfl rfl rfl (by decide +kernel) ⟨(Nat.le_of_ble_eq_true rfl), (Nat.le_of_ble_eq_true rfl)⟩) (pr_V (r := (RX10, TX10, 16)) hP hK hD q_1 10 rfl hq_1) rfl rfl hl.1 rfl (lv_room (Nat.le_of_ble_eq_true rfl)) dX10_sailed_33 ⟨(Nat.le_of_ble_eq_true rfl), (Nat.le_of_ble_eq_true rfl)⟩) hS (fun q _ h => hFc q h) hFc (fun r_20 u t H locs ht hvm w_19 hB hz1 hk1 hS => ?_)
      have hP := pu_keep hP hk1
      clear hk1 hz1 hvm hB ht hFc
      obtain ⟨hb_21, hx_22⟩ := w_19
      have uN_23 := hx_22
      unfold vRf at uN_23
      refine lv_istore (lv' := [(4, .int r_20), (3, .ref b_6), (0, .ref o), (1, .int x1), (2, .int x2)]) hx hb dX10_sailed_36 hl (by decide +kernel) rfl (fun ls hl => ?_)
      refine lv_iload hx hb dX10_sailed_38 (lv_at hl 0 rfl) ?_
      refine lv_if_eq (tgt := 50) hx hb dX10_sailed_40 (by decide +kernel) (fun c_24 => ?_) (fun c_24 => ?_)
      · have dc_24 := c_eq (a := r_20.toInt) (b := 0) rfl (by decide +kernel) c_24
        refine lv_aload_n hx hb dX10_sailed_50 rfl (lv_at hl 1 rfl) ?_
        refine lv_iload_n hx hb dX10_sailed_51 rfl (lv_at hl 4 rfl) ?_
        refine va_put (D := (dC, dI)) (ci := 9) (v := .int x2) (ty := .int) (C := RX9) (T := TX9) (N := 10) hx hb hts in_wsX10_sailed_X9 tyX9 tyX9_ok nmX9 hown hK hP hD hS q_16 hq_16 rfl 5 (by decide +kernel) (hts (.fieldLink RX10 136 "ShipOffice$Voyage" "sailedDay" "I") iw_X10_sailed_2) (fun _ h9 => h9) rfl (by decide +kernel) rfl rfl (Nat.le_of_ble_eq_true rfl) dX10_sailed_52 (fun H locs hP1 hD1 hS => ?_)
        obtain ⟨S_25, eS_25⟩ : ∃ zq, zq = setI Z b_6 5 x2 := ⟨_, rfl⟩
        have hP : va_P (dC, dI) vwCl (oW cq S_25) H := by rw [eS_25]; exact cP (oset tb_6.1 hq_16 hD rfl (he_9_5 tb_6.2) neI) hP1
        have hD : va_D A (oW cq S_25) := by rw [eS_25]; exact cD (oset tb_6.1 hq_16 hD rfl (he_9_5 tb_6.2) neI) hD1
        clear hP1 hD1
        have hIS_25 : oInv S_25 := by rw [eS_25]; exact oInv.I0 (k := 9) (lo := 0) (hi := 1000000) gI tb_6.2 (by decide +kernel) rfl rfl rfl (by omega)
        have XS_25 : oX [905] Z S_25 := by rw [eS_25]; exact oX.I (k := 9) (key := 905) tb_6.2 rfl (List.mem_singleton.mpr rfl)
        have X_26 : oX [905, 906, 1007, 2107] Z S_25 := oX.st oX.rf XS_25 (by decide +kernel)
        have g_27 : (oI S_25 b_6 6).toInt = (oI Z b_6 6).toInt := by rw [eS_25, setI_ne (by decide +kernel)]
        have g_28 : (oI S_25 o 0).toInt = (oI Z o 0).toInt := by rw [eS_25, setI_oth (ty_ne to tb_6 (by decide +kernel))]
        have g_29 : (oI S_25 o 7).toInt = (oI Z o 7).toInt := by rw [eS_25, setI_oth (ty_ne to tb_6 (by decide +kernel))]
        refine lv_aload_n hx hb dX10_sailed_55 rfl (lv_at hl 1 rfl) ?_
        refine lv_aload_n hx hb dX10_sailed_56 rfl (lv_at hl 2 rfl) ?_
        have t_30 : oty S_25 o 10 := (oX.ty XS_25 to)
        obtain ⟨q_31, hq_31⟩ := og (cq := cq) t_30.1 (oE_10 t_30.2)
        refine va_get (D := (dC, dI)) (ci := 10) (v := .int (oI S_25 o 0)) (C := RX10) (T := TX10) (N := 16) hx hb hts in_wsX10_sailed_X10 hown hK hP q_31 hq_31 rfl 0 (by decide +kernel) (hts (.fieldLink RX10 73 "ShipOffice" "now" "I") iw_X10_sailed_3) (fun _ h9 => h9) rfl dX10_sailed_57 ?_
        refine lv_topi (fun x_32 ex_32 => ?_)
        have hx_32 : 0 ≤ x_32.toInt ∧ x_32.toInt ≤ 3000 := iv_of ex_32 (oInv.iv hIS_25 t_30.2 rfl rfl)
        have gx_32 : x_32.toInt = (oI S_25 o 0).toInt := iv_to ex_32
        clear ex_32
        have t_33 : oty S_25 b_6 9 := (oX.ty XS_25 tb_6)
        obtain ⟨q_34, hq_34⟩ := og (cq := cq) t_33.1 (oE_9 t_33.2)
        refine va_put (D := (dC, dI)) (ci := 9) (v := .int x_32) (ty := .int) (C := RX9) (T := TX9) (N := 10) hx hb hts in_wsX10_sailed_X9 tyX9 tyX9_ok nmX9 hown hK hP hD hS q_34 hq_34 rfl 6 (by decide +kernel) (hts (.fieldLink RX10 129 "ShipOffice$Voyage" "sailedTold" "I") iw_X10_sailed_1) (fun _ h9 => h9) rfl (by decide +kernel) rfl rfl (Nat.le_of_ble_eq_true rfl) dX10_sailed_60 (fun H locs hP1 hD1 hS => ?_)
        obtain ⟨S_35, eS_35⟩ : ∃ zq, zq = setI S_25 b_6 6 x_32 := ⟨_, rfl⟩
        have hP : va_P (dC, dI) vwCl (oW cq S_35) H := by rw [eS_35]; exact cP (oset t_33.1 hq_34 hD rfl (he_9_6 t_33.2) neI) hP1
        have hD : va_D A (oW cq S_35) := by rw [eS_35]; exact cD (oset t_33.1 hq_34 hD rfl (he_9_6 t_33.2) neI) hD1
        clear hP1 hD1
        have hIS_35 : oInv S_35 := by rw [eS_35]; exact oInv.I0 (k := 9) (lo := -2147483648) (hi := 2147483647) hIS_25 t_33.2 (by decide +kernel) rfl rfl rfl (iv_all _)
        have XS_35 : oX [906] S_25 S_35 := by rw [eS_35]; exact oX.I (k := 9) (key := 906) t_33.2 rfl (List.mem_singleton.mpr rfl)
        have X_36 : oX [905, 906, 1007, 2107] Z S_35 := oX.st X_26 XS_35 (by decide +kernel)
        have g_37 : (oI S_35 b_6 6).toInt = x_32.toInt := by rw [eS_35, setI_same]
        have g_38 : (oI S_35 o 0).toInt = (oI S_25 o 0).toInt := by rw [eS_35, setI_oth (ty_ne t_30 t_33 (by decide +kernel))]
        have g_39 : (oI S_35 o 7).toInt = (oI S_25 o 7).toInt := by rw [eS_35, setI_oth (ty_ne t_30 t_33 (by decide +kernel))]
        refine lv_aload_n hx hb dX10_sailed_63 rfl (lv_at hl 2 rfl) ?_
        refine lv_dup hx hb dX10_sailed_64 rfl ?_
        have t_40 : oty S_35 o 10 := (oX.ty XS_35 t_30)
        obtain ⟨q_41, hq_41⟩ := og (cq := cq) t_40.1 (oE_10 t_40.2)
        refine va_get (D := (dC, dI)) (ci := 10) (v := .int (oI S_35 o 7)) (C := RX10) (T := TX10) (N := 16) hx hb hts in_wsX10_sailed_X10 hown hK hP q_41 hq_41 rfl 7 (by decide +kernel) (hts (.fieldLink RX10 139 "ShipOffice" "happeningCount" "I") iw_X10_sailed_4) (fun _ h9 => h9) rfl dX10_sailed_65 ?_
        refine lv_topi (fun x_42 ex_42 => ?_)
        have hx_42 : 0 ≤ x_42.toInt ∧ x_42.toInt ≤ 201 := iv_of ex_42 (by omega)
        have gx_42 : x_42.toInt = (oI S_35 o 7).toInt := iv_to ex_42
        clear ex_42
        refine lv_iconst (v := 1) hx hb dX10_sailed_68 (by decide +kernel) ?_
        refine lv_iadd hx hb dX10_sailed_69 ?_
        refine lv_topi (fun x_43 ex_43 => ?_)
        have hx_43 : x_43.toInt = x_42.toInt + 1 := (iv_to ex_43).trans (ad_i rfl (by decide +kernel) (by omega) (by omega))
        clear ex_43
        refine va_put (D := (dC, dI)) (ci := 10) (v := .int x_43) (ty := .int) (C := RX10) (T := TX10) (N := 16) hx hb hts in_wsX10_sailed_X10 tyX10 tyX10_ok nmX10 hown hK hP hD hS q_41 hq_41 rfl 7 (by decide +kernel) (hts (.fieldLink RX10 139 "ShipOffice" "happeningCount" "I") iw_X10_sailed_4) (fun _ h9 => h9) rfl (by decide +kernel) rfl rfl (Nat.le_of_ble_eq_true rfl) dX10_sailed_70 (fun H locs hP1 hD1 hS => ?_)
        obtain ⟨S_44, eS_44⟩ : ∃ zq, zq = setI S_35 o 7 x_43 := ⟨_, rfl⟩
        have hP : va_P (dC, dI) vwCl (oW cq S_44) H := by rw [eS_44]; exact cP (oset t_40.1 hq_41 hD rfl (he_10_7 t_40.2) neI) hP1
        have hD : va_D A (oW cq S_44) := by rw [eS_44]; exact cD (oset t_40.1 hq_41 hD rfl (he_10_7 t_40.2) neI) hD1
        clear hP1 hD1
        have hIS_44 : oInv S_44 := by rw [eS_44]; exact oInv.I0 (k := 10) (lo := -2147483648) (hi := 2147483647) hIS_35 t_40.2 (by decide +kernel) rfl rfl rfl (iv_all _)
        have XS_44 : oX [1007] S_35 S_44 := by rw [eS_44]; exact oX.I (k := 10) (key := 1007) t_40.2 rfl (List.mem_singleton.mpr rfl)
        have X_45 : oX [905, 906, 1007, 2107] Z S_44 := oX.st X_36 XS_44 (by decide +kernel)
        have g_46 : (oI S_44 b_6 6).toInt = (oI S_35 b_6 6).toInt := by rw [eS_44, setI_oth (ty_ne (oX.ty XS_35 t_33) t_40 (by decide +kernel))]
        have g_47 : (oI S_44 o 0).toInt = (oI S_35 o 0).toInt := by rw [eS_44, setI_ne (by decide +kernel)]
        have g_48 : (oI S_44 o 7).toInt = x_43.toInt := by rw [eS_44, setI_same]
        refine lv_aload_n hx hb dX10_sailed_73 rfl (lv_at hl 2 rfl) ?_
        have t_49 : oty S_44 o 10 := (oX.ty XS_44 t_40)
        obtain ⟨q_50, hq_50⟩ := og (cq := cq) t_49.1 (oE_10 t_49.2)
        refine va_get (D := (dC, dI)) (ci := 10) (v := .int (oI S_44 o 7)) (C := RX10) (T := TX10) (N := 16) hx hb hts in_wsX10_sailed_X10 hown hK hP q_50 hq_50 rfl 7 (by decide +kernel) (hts (.fieldLink RX10 139 "ShipOffice" "happeningCount" "I") iw_X10_sailed_4) (fun _ h9 => h9) rfl dX10_sailed_74 ?_
        refine lv_topi (fun x_51 ex_51 => ?_)
        have hx_51 : 0 ≤ x_51.toInt ∧ x_51.toInt ≤ 201 := iv_of ex_51 (by omega)
        have gx_51 : x_51.toInt = (oI S_44 o 7).toInt := iv_to ex_51
        clear ex_51
        exact W.iret (v := x_51) hx hb hr (fun t ht hW => ⟨⟨x_51, S_44, rfl, ⟨hIS_44, X_45, ⟨by try clear fLb_6; have kc0 : (0 : Int32).toInt = 0 := (by decide +kernel); have kc1 : (1 : Int32).toInt = 1 := (by decide +kernel); have kc2 : (2 : Int32).toInt = 2 := (by decide +kernel); have hq_ := hx_22; unfold vRf at hq_; rcases hq_ with hq_ | hq_ | hq_ | hq_; (first | (exfalso; omega) | (unfold aHt aHp; omega)); (first | (exfalso; omega) | (unfold aHt aHp; omega)); (first | (exfalso; omega) | (unfold aHt aHp; omega)); (first | exact Or.inr (Or.inr (⟨by omega, by omega, by omega, Or.inr (Or.inr (⟨by omega, by omega, by omega, by omega⟩))⟩)) | (unfold aHt aHp; omega)), Or.inr ⟨by try clear fLb_6; have kc0 : (0 : Int32).toInt = 0 := (by decide +kernel); have kc1 : (1 : Int32).toInt = 1 := (by decide +kernel); have kc2 : (2 : Int32).toInt = 2 := (by decide +kernel); have hq_ := hx_22; unfold vRf at hq_; omega, (by exact ⟨by omega, by rw [← ejb_6, eS_44, eS_35, eS_25, (show x_32 = oI Z o 0 from Int32.toInt_inj.mp (by omega)), (show x_43 = x_51 from Int32.toInt_inj.mp (by omega))]⟩)⟩⟩⟩, ⟨by rw [ht]; exact hP, va_K.moved hW.alike hK, hD⟩⟩, hS.F ht⟩) hS.2.2 dX10_sailed_77
      · have dc_24 := c_ne (a := r_20.toInt) (b := 0) rfl (by decide +kernel) c_24
        refine lv_aload_n hx hb dX10_sailed_43 rfl (lv_at hl 2 rfl) ?_
        refine lv_iload hx hb dX10_sailed_44 (lv_at hl 0 rfl) ?_
        have hFc := o_free hD hS hA
        refine va_calli (va_runV (As := [.int r_20]) (rest := []) ⟨hx, hb, hml, hown, hts⟩ (c_X10_refuse_c l dC dI H.size cq Z gI o to r_20 (by omega)) (cwV 1 hts gX10_sailed_X10_refuse rfl rfl rfl (by decide +kernel) ⟨(Nat.le_of_ble_eq_true rfl), (Nat.le_of_ble_eq_true rfl)⟩) (pr_V (r := (RX10, TX10, 16)) hP hK hD q_1 10 rfl hq_1) rfl rfl hl.1 rfl (lv_room (Nat.le_of_ble_eq_true rfl)) dX10_sailed_46 ⟨(Nat.le_of_ble_eq_true rfl), (Nat.le_of_ble_eq_true rfl)⟩) hS (fun q _ h => hFc q h) hFc (fun r_53 u t H locs ht hvm w_52 hB hz1 hk1 hS => ?_)
        obtain ⟨S_54, rfl⟩ : ∃ z, z = u := ⟨_, rfl⟩
        obtain ⟨hP1, hK1, hD1⟩ := hB
        rw [ht] at hP1
        have hP : va_P (dC, dI) vwCl (oW cq S_54) H := hP1
        have hD : va_D A (oW cq S_54) := hD1.weaken (fun _ _ _ h => hFc _ h)
        clear hP1 hK1 hD1 hk1 hz1 hvm ht hFc
        obtain ⟨hIS_54, XS_54, hb_55, hx_56⟩ := w_52
        have X_57 : oX [905, 906, 1007, 2107] Z S_54 := oX.st oX.rf XS_54 (by decide +kernel)
        have g_58 : (oI S_54 b_6 6).toInt = (oI Z b_6 6).toInt := by rw [oX.i XS_54 tb_6 (by decide +kernel)]
        have g_59 : (oI S_54 o 0).toInt = (oI Z o 0).toInt := by rw [oX.i XS_54 to (by decide +kernel)]
        have g_60 : (oI S_54 o 7).toInt = (oI Z o 7).toInt := by rw [oX.i XS_54 to (by decide +kernel)]
        have rf_61 : r_53.toInt = r_20.toInt := by rw [hx_56.1]
        exact W.iret (v := r_53) hx hb hr (fun t ht hW => ⟨⟨r_53, S_54, rfl, ⟨hIS_54, X_57, ⟨by try clear fLb_6; have kc0 : (0 : Int32).toInt = 0 := (by decide +kernel); have kc1 : (1 : Int32).toInt = 1 := (by decide +kernel); have kc2 : (2 : Int32).toInt = 2 := (by decide +kernel); have hq_ := hx_22; unfold vRf at hq_; rcases hq_ with hq_ | hq_ | hq_ | hq_; (first | exact Or.inr (Or.inl ⟨by omega, by omega, by omega⟩) | (unfold aHt aHp; omega)); (first | exact Or.inr (Or.inr (⟨by omega, by omega, by omega, Or.inl ⟨by omega, by omega⟩⟩)) | (unfold aHt aHp; omega)); (first | exact Or.inr (Or.inr (⟨by omega, by omega, by omega, Or.inr (Or.inl ⟨by omega, by omega, by omega⟩)⟩)) | (unfold aHt aHp; omega)); (first | (exfalso; omega) | (unfold aHt aHp; omega)), (Or.inl ⟨by omega, by rw [hx_56.1]; exact hx_56.2⟩)⟩⟩, ⟨by rw [ht]; exact hP, va_K.moved hW.alike hK, hD⟩⟩, hS.F ht⟩) hS.2.2 dX10_sailed_49
    · have dc_18 := c_ne (a := x_17.toInt) (b := 1000000) rfl (by decide +kernel) c_18
      refine lv_iconst (v := 1) hx hb dX10_sailed_28 (by decide +kernel) ?_
      refine lv_goto (tgt := 33) hx hb dX10_sailed_29 (by decide +kernel) ?_
      have hFc : ∀ q, va_A [] H.size q → A q := pu_free hS hA
      refine va_calli (va_runV (As := [.ref b_6, .int x2, .int 1]) (rest := []) ⟨hx, hb, hml, hown, hts⟩ (c_X10_voyageRefusal_c l dC dI H.size cq Z gI o to b_6 tb_6 x2 1) (cwV 3 hts gX10_sailed_X10_voyageRefusal rfl rfl rfl (by decide +kernel) ⟨(Nat.le_of_ble_eq_true rfl), (Nat.le_of_ble_eq_true rfl)⟩) (pr_V (r := (RX10, TX10, 16)) hP hK hD q_1 10 rfl hq_1) rfl rfl hl.1 rfl (lv_room (Nat.le_of_ble_eq_true rfl)) dX10_sailed_33 ⟨(Nat.le_of_ble_eq_true rfl), (Nat.le_of_ble_eq_true rfl)⟩) hS (fun q _ h => hFc q h) hFc (fun r_63 u t H locs ht hvm w_62 hB hz1 hk1 hS => ?_)
      have hP := pu_keep hP hk1
      clear hk1 hz1 hvm hB ht hFc
      obtain ⟨hb_64, hx_65⟩ := w_62
      have uN_66 := hx_65
      unfold vRf at uN_66
      refine lv_istore (lv' := [(4, .int r_63), (3, .ref b_6), (0, .ref o), (1, .int x1), (2, .int x2)]) hx hb dX10_sailed_36 hl (by decide +kernel) rfl (fun ls hl => ?_)
      refine lv_iload hx hb dX10_sailed_38 (lv_at hl 0 rfl) ?_
      refine lv_if_eq (tgt := 50) hx hb dX10_sailed_40 (by decide +kernel) (fun c_67 => ?_) (fun c_67 => ?_)
      · have dc_67 := c_eq (a := r_63.toInt) (b := 0) rfl (by decide +kernel) c_67
        refine lv_aload_n hx hb dX10_sailed_50 rfl (lv_at hl 1 rfl) ?_
        refine lv_iload_n hx hb dX10_sailed_51 rfl (lv_at hl 4 rfl) ?_
        refine va_put (D := (dC, dI)) (ci := 9) (v := .int x2) (ty := .int) (C := RX9) (T := TX9) (N := 10) hx hb hts in_wsX10_sailed_X9 tyX9 tyX9_ok nmX9 hown hK hP hD hS q_16 hq_16 rfl 5 (by decide +kernel) (hts (.fieldLink RX10 136 "ShipOffice$Voyage" "sailedDay" "I") iw_X10_sailed_2) (fun _ h9 => h9) rfl (by decide +kernel) rfl rfl (Nat.le_of_ble_eq_true rfl) dX10_sailed_52 (fun H locs hP1 hD1 hS => ?_)
        obtain ⟨S_68, eS_68⟩ : ∃ zq, zq = setI Z b_6 5 x2 := ⟨_, rfl⟩
        have hP : va_P (dC, dI) vwCl (oW cq S_68) H := by rw [eS_68]; exact cP (oset tb_6.1 hq_16 hD rfl (he_9_5 tb_6.2) neI) hP1
        have hD : va_D A (oW cq S_68) := by rw [eS_68]; exact cD (oset tb_6.1 hq_16 hD rfl (he_9_5 tb_6.2) neI) hD1
        clear hP1 hD1
        have hIS_68 : oInv S_68 := by rw [eS_68]; exact oInv.I0 (k := 9) (lo := 0) (hi := 1000000) gI tb_6.2 (by decide +kernel) rfl rfl rfl (by omega)
        have XS_68 : oX [905] Z S_68 := by rw [eS_68]; exact oX.I (k := 9) (key := 905) tb_6.2 rfl (List.mem_singleton.mpr rfl)
        have X_69 : oX [905, 906, 1007, 2107] Z S_68 := oX.st oX.rf XS_68 (by decide +kernel)
        have g_70 : (oI S_68 b_6 6).toInt = (oI Z b_6 6).toInt := by rw [eS_68, setI_ne (by decide +kernel)]
        have g_71 : (oI S_68 o 0).toInt = (oI Z o 0).toInt := by rw [eS_68, setI_oth (ty_ne to tb_6 (by decide +kernel))]
        have g_72 : (oI S_68 o 7).toInt = (oI Z o 7).toInt := by rw [eS_68, setI_oth (ty_ne to tb_6 (by decide +kernel))]
        refine lv_aload_n hx hb dX10_sailed_55 rfl (lv_at hl 1 rfl) ?_
        refine lv_aload_n hx hb dX10_sailed_56 rfl (lv_at hl 2 rfl) ?_
        have t_73 : oty S_68 o 10 := (oX.ty XS_68 to)
        obtain ⟨q_74, hq_74⟩ := og (cq := cq) t_73.1 (oE_10 t_73.2)
        refine va_get (D := (dC, dI)) (ci := 10) (v := .int (oI S_68 o 0)) (C := RX10) (T := TX10) (N := 16) hx hb hts in_wsX10_sailed_X10 hown hK hP q_74 hq_74 rfl 0 (by decide +kernel) (hts (.fieldLink RX10 73 "ShipOffice" "now" "I") iw_X10_sailed_3) (fun _ h9 => h9) rfl dX10_sailed_57 ?_
        refine lv_topi (fun x_75 ex_75 => ?_)
        have hx_75 : 0 ≤ x_75.toInt ∧ x_75.toInt ≤ 3000 := iv_of ex_75 (oInv.iv hIS_68 t_73.2 rfl rfl)
        have gx_75 : x_75.toInt = (oI S_68 o 0).toInt := iv_to ex_75
        clear ex_75
        have t_76 : oty S_68 b_6 9 := (oX.ty XS_68 tb_6)
        obtain ⟨q_77, hq_77⟩ := og (cq := cq) t_76.1 (oE_9 t_76.2)
        refine va_put (D := (dC, dI)) (ci := 9) (v := .int x_75) (ty := .int) (C := RX9) (T := TX9) (N := 10) hx hb hts in_wsX10_sailed_X9 tyX9 tyX9_ok nmX9 hown hK hP hD hS q_77 hq_77 rfl 6 (by decide +kernel) (hts (.fieldLink RX10 129 "ShipOffice$Voyage" "sailedTold" "I") iw_X10_sailed_1) (fun _ h9 => h9) rfl (by decide +kernel) rfl rfl (Nat.le_of_ble_eq_true rfl) dX10_sailed_60 (fun H locs hP1 hD1 hS => ?_)
        obtain ⟨S_78, eS_78⟩ : ∃ zq, zq = setI S_68 b_6 6 x_75 := ⟨_, rfl⟩
        have hP : va_P (dC, dI) vwCl (oW cq S_78) H := by rw [eS_78]; exact cP (oset t_76.1 hq_77 hD rfl (he_9_6 t_76.2) neI) hP1
        have hD : va_D A (oW cq S_78) := by rw [eS_78]; exact cD (oset t_76.1 hq_77 hD rfl (he_9_6 t_76.2) neI) hD1
        clear hP1 hD1
        have hIS_78 : oInv S_78 := by rw [eS_78]; exact oInv.I0 (k := 9) (lo := -2147483648) (hi := 2147483647) hIS_68 t_76.2 (by decide +kernel) rfl rfl rfl (iv_all _)
        have XS_78 : oX [906] S_68 S_78 := by rw [eS_78]; exact oX.I (k := 9) (key := 906) t_76.2 rfl (List.mem_singleton.mpr rfl)
        have X_79 : oX [905, 906, 1007, 2107] Z S_78 := oX.st X_69 XS_78 (by decide +kernel)
        have g_80 : (oI S_78 b_6 6).toInt = x_75.toInt := by rw [eS_78, setI_same]
        have g_81 : (oI S_78 o 0).toInt = (oI S_68 o 0).toInt := by rw [eS_78, setI_oth (ty_ne t_73 t_76 (by decide +kernel))]
        have g_82 : (oI S_78 o 7).toInt = (oI S_68 o 7).toInt := by rw [eS_78, setI_oth (ty_ne t_73 t_76 (by decide +kernel))]
        refine lv_aload_n hx hb dX10_sailed_63 rfl (lv_at hl 2 rfl) ?_
        refine lv_dup hx hb dX10_sailed_64 rfl ?_
        have t_83 : oty S_78 o 10 := (oX.ty XS_78 t_73)
        obtain ⟨q_84, hq_84⟩ := og (cq := cq) t_83.1 (oE_10 t_83.2)
        refine va_get (D := (dC, dI)) (ci := 10) (v := .int (oI S_78 o 7)) (C := RX10) (T := TX10) (N := 16) hx hb hts in_wsX10_sailed_X10 hown hK hP q_84 hq_84 rfl 7 (by decide +kernel) (hts (.fieldLink RX10 139 "ShipOffice" "happeningCount" "I") iw_X10_sailed_4) (fun _ h9 => h9) rfl dX10_sailed_65 ?_
        refine lv_topi (fun x_85 ex_85 => ?_)
        have hx_85 : 0 ≤ x_85.toInt ∧ x_85.toInt ≤ 201 := iv_of ex_85 (by omega)
        have gx_85 : x_85.toInt = (oI S_78 o 7).toInt := iv_to ex_85
        clear ex_85
        refine lv_iconst (v := 1) hx hb dX10_sailed_68 (by decide +kernel) ?_
        refine lv_iadd hx hb dX10_sailed_69 ?_
        refine lv_topi (fun x_86 ex_86 => ?_)
        have hx_86 : x_86.toInt = x_85.toInt + 1 := (iv_to ex_86).trans (ad_i rfl (by decide +kernel) (by omega) (by omega))
        clear ex_86
        refine va_put (D := (dC, dI)) (ci := 10) (v := .int x_86) (ty := .int) (C := RX10) (T := TX10) (N := 16) hx hb hts in_wsX10_sailed_X10 tyX10 tyX10_ok nmX10 hown hK hP hD hS q_84 hq_84 rfl 7 (by decide +kernel) (hts (.fieldLink RX10 139 "ShipOffice" "happeningCount" "I") iw_X10_sailed_4) (fun _ h9 => h9) rfl (by decide +kernel) rfl rfl (Nat.le_of_ble_eq_true rfl) dX10_sailed_70 (fun H locs hP1 hD1 hS => ?_)
        obtain ⟨S_87, eS_87⟩ : ∃ zq, zq = setI S_78 o 7 x_86 := ⟨_, rfl⟩
        have hP : va_P (dC, dI) vwCl (oW cq S_87) H := by rw [eS_87]; exact cP (oset t_83.1 hq_84 hD rfl (he_10_7 t_83.2) neI) hP1
        have hD : va_D A (oW cq S_87) := by rw [eS_87]; exact cD (oset t_83.1 hq_84 hD rfl (he_10_7 t_83.2) neI) hD1
        clear hP1 hD1
        have hIS_87 : oInv S_87 := by rw [eS_87]; exact oInv.I0 (k := 10) (lo := -2147483648) (hi := 2147483647) hIS_78 t_83.2 (by decide +kernel) rfl rfl rfl (iv_all _)
        have XS_87 : oX [1007] S_78 S_87 := by rw [eS_87]; exact oX.I (k := 10) (key := 1007) t_83.2 rfl (List.mem_singleton.mpr rfl)
        have X_88 : oX [905, 906, 1007, 2107] Z S_87 := oX.st X_79 XS_87 (by decide +kernel)
        have g_89 : (oI S_87 b_6 6).toInt = (oI S_78 b_6 6).toInt := by rw [eS_87, setI_oth (ty_ne (oX.ty XS_78 t_76) t_83 (by decide +kernel))]
        have g_90 : (oI S_87 o 0).toInt = (oI S_78 o 0).toInt := by rw [eS_87, setI_ne (by decide +kernel)]
        have g_91 : (oI S_87 o 7).toInt = x_86.toInt := by rw [eS_87, setI_same]
        refine lv_aload_n hx hb dX10_sailed_73 rfl (lv_at hl 2 rfl) ?_
        have t_92 : oty S_87 o 10 := (oX.ty XS_87 t_83)
        obtain ⟨q_93, hq_93⟩ := og (cq := cq) t_92.1 (oE_10 t_92.2)
        refine va_get (D := (dC, dI)) (ci := 10) (v := .int (oI S_87 o 7)) (C := RX10) (T := TX10) (N := 16) hx hb hts in_wsX10_sailed_X10 hown hK hP q_93 hq_93 rfl 7 (by decide +kernel) (hts (.fieldLink RX10 139 "ShipOffice" "happeningCount" "I") iw_X10_sailed_4) (fun _ h9 => h9) rfl dX10_sailed_74 ?_
        refine lv_topi (fun x_94 ex_94 => ?_)
        have hx_94 : 0 ≤ x_94.toInt ∧ x_94.toInt ≤ 201 := iv_of ex_94 (by omega)
        have gx_94 : x_94.toInt = (oI S_87 o 7).toInt := iv_to ex_94
        clear ex_94
        exact W.iret (v := x_94) hx hb hr (fun t ht hW => ⟨⟨x_94, S_87, rfl, ⟨hIS_87, X_88, ⟨by try clear fLb_6; have kc0 : (0 : Int32).toInt = 0 := (by decide +kernel); have kc1 : (1 : Int32).toInt = 1 := (by decide +kernel); have kc2 : (2 : Int32).toInt = 2 := (by decide +kernel); have hq_ := hx_65; unfold vRf at hq_; rcases hq_ with hq_ | hq_ | hq_ | hq_; (first | (exfalso; omega) | (unfold aHt aHp; omega)); (first | (exfalso; omega) | (unfold aHt aHp; omega)); (first | (exfalso; omega) | (unfold aHt aHp; omega)); (first | exact Or.inr (Or.inr (⟨by omega, by omega, by omega, Or.inr (Or.inr (⟨by omega, by omega, by omega, by omega⟩))⟩)) | (unfold aHt aHp; omega)), Or.inr ⟨by try clear fLb_6; have kc0 : (0 : Int32).toInt = 0 := (by decide +kernel); have kc1 : (1 : Int32).toInt = 1 := (by decide +kernel); have kc2 : (2 : Int32).toInt = 2 := (by decide +kernel); have hq_ := hx_65; unfold vRf at hq_; omega, (by exact ⟨by omega, by rw [← ejb_6, eS_87, eS_78, eS_68, (show x_75 = oI Z o 0 from Int32.toInt_inj.mp (by omega)), (show x_86 = x_94 from Int32.toInt_inj.mp (by omega))]⟩)⟩⟩⟩, ⟨by rw [ht]; exact hP, va_K.moved hW.alike hK, hD⟩⟩, hS.F ht⟩) hS.2.2 dX10_sailed_77
      · have dc_67 := c_ne (a := r_63.toInt) (b := 0) rfl (by decide +kernel) c_67
        refine lv_aload_n hx hb dX10_sailed_43 rfl (lv_at hl 2 rfl) ?_
        refine lv_iload hx hb dX10_sailed_44 (lv_at hl 0 rfl) ?_
        have hFc := o_free hD hS hA
        refine va_calli (va_runV (As := [.int r_63]) (rest := []) ⟨hx, hb, hml, hown, hts⟩ (c_X10_refuse_c l dC dI H.size cq Z gI o to r_63 (by omega)) (cwV 1 hts gX10_sailed_X10_refuse rfl rfl rfl (by decide +kernel) ⟨(Nat.le_of_ble_eq_true rfl), (Nat.le_of_ble_eq_true rfl)⟩) (pr_V (r := (RX10, TX10, 16)) hP hK hD q_1 10 rfl hq_1) rfl rfl hl.1 rfl (lv_room (Nat.le_of_ble_eq_true rfl)) dX10_sailed_46 ⟨(Nat.le_of_ble_eq_true rfl), (Nat.le_of_ble_eq_true rfl)⟩) hS (fun q _ h => hFc q h) hFc (fun r_96 u t H locs ht hvm w_95 hB hz1 hk1 hS => ?_)
        obtain ⟨S_97, rfl⟩ : ∃ z, z = u := ⟨_, rfl⟩
        obtain ⟨hP1, hK1, hD1⟩ := hB
        rw [ht] at hP1
        have hP : va_P (dC, dI) vwCl (oW cq S_97) H := hP1
        have hD : va_D A (oW cq S_97) := hD1.weaken (fun _ _ _ h => hFc _ h)
        clear hP1 hK1 hD1 hk1 hz1 hvm ht hFc
        obtain ⟨hIS_97, XS_97, hb_98, hx_99⟩ := w_95
        have X_100 : oX [905, 906, 1007, 2107] Z S_97 := oX.st oX.rf XS_97 (by decide +kernel)
        have g_101 : (oI S_97 b_6 6).toInt = (oI Z b_6 6).toInt := by rw [oX.i XS_97 tb_6 (by decide +kernel)]
        have g_102 : (oI S_97 o 0).toInt = (oI Z o 0).toInt := by rw [oX.i XS_97 to (by decide +kernel)]
        have g_103 : (oI S_97 o 7).toInt = (oI Z o 7).toInt := by rw [oX.i XS_97 to (by decide +kernel)]
        have rf_104 : r_96.toInt = r_63.toInt := by rw [hx_99.1]
        exact W.iret (v := r_96) hx hb hr (fun t ht hW => ⟨⟨r_96, S_97, rfl, ⟨hIS_97, X_100, ⟨by try clear fLb_6; have kc0 : (0 : Int32).toInt = 0 := (by decide +kernel); have kc1 : (1 : Int32).toInt = 1 := (by decide +kernel); have kc2 : (2 : Int32).toInt = 2 := (by decide +kernel); have hq_ := hx_65; unfold vRf at hq_; rcases hq_ with hq_ | hq_ | hq_ | hq_; (first | exact Or.inr (Or.inl ⟨by omega, by omega, by omega⟩) | (unfold aHt aHp; omega)); (first | exact Or.inr (Or.inr (⟨by omega, by omega, by omega, Or.inl ⟨by omega, by omega⟩⟩)) | (unfold aHt aHp; omega)); (first | exact Or.inr (Or.inr (⟨by omega, by omega, by omega, Or.inr (Or.inl ⟨by omega, by omega, by omega⟩)⟩)) | (unfold aHt aHp; omega)); (first | (exfalso; omega) | (unfold aHt aHp; omega)), (Or.inl ⟨by omega, by rw [hx_99.1]; exact hx_99.2⟩)⟩⟩, ⟨by rw [ht]; exact hP, va_K.moved hW.alike hK, hD⟩⟩, hS.F ht⟩) hS.2.2 dX10_sailed_49
set_option maxHeartbeats 4000000 in
set_option maxRecDepth 100000 in
theorem c_X10_lost_c (l : Launch) (dC : Nat → ClassId) (dI : Nat → Nat → Nat) (sz : Nat) (cq : Nat → ClassId) (Z : oS) (gI : oInv Z) (o : Nat) (to : oty Z o 10) (x1 : Int32) (x2 : Int32) (v : Nat → Int32) (fa : Nat → Nat → Int32) (hR : RC Z o v fa) : Met l yX10_lost wsX10_lost ({ frames := 1, cells := 0, slots := 0, locals := 23 }) (va_Pc [.ref o, .int x1, .int x2] (pcW (dC, dI) (oT cq) (oW cq Z) sz)) (va_Qi (fun (r : Int32) (u : oS) => oInv u ∧ oX [907, 908, 1007, 2107] Z u ∧ (aHt x1.toInt (v 40).toInt (fa 9 x1.toNatClampNeg).toInt (tldI v fa 2 x1.toInt) (fa 7 x1.toNatClampNeg).toInt x2.toInt (v 38).toInt (v 41).toInt r.toInt ∧ rOo Z o u r (onO Z o (voA Z o x1.toNatClampNeg) 7 8 x2 r u))) (fun u t => va_P (dC, dI) vwCl (oW cq u) t.heap ∧ va_K (dC, dI) vwCl (oT cq) t ∧ va_D (va_A (oW cq Z) sz) (oW cq u)) (va_A (oW cq Z) sz)) 0 0 (va_A (oW cq Z) sz) := by
  refine Met.ofW (cc := cX10_lost) (maxL := 5) (ret := (some .int)) (by decide +kernel) rfl ?_
  intro p e s m args below meth c s₁ B hml hv
  obtain ⟨rfl, hsz, hP, hK, hD0⟩ := hv
  have hx := B.exec
  have hb := B.bytes
  have hr := B.returns
  have hts := atoms_spec (ws := wsX10_lost) B.pre
  have hown : s.vm.findClass RX10 = some m.cls := findClass_of_methodNamed B.named
  have hlocks := B.notSynchronized
  subst hsz
  have hD := hD0.self (sz := s.heap.size)
  generalize hAe : va_A (oW cq Z) s.heap.size = A at hD ⊢
  have hA : ∀ q : Nat, s.heap.size ≤ q → A q := fun q h => by rw [← hAe]; exact Or.inr h
  have hS : va_S A s.heap s.heap [] := va_S.rf
  have hP : va_P (dC, dI) vwCl (oW cq Z) s.heap := hP
  have hl := lv_entry ([.ref o, .int x1, .int x2]) (n := 5) (Nat.le_of_ble_eq_true rfl)
  rw [lg_entry_eq]
  generalize (lg_sl ([.ref o, .int x1, .int x2]) ++ List.replicate (5 - (lg_sl ([.ref o, .int x1, .int x2])).length) Slot.unset).toArray = ls at hl ⊢
  have hl : lv_has ls 5 [(0, .ref o), (1, .int x1), (2, .int x2)] := hl
  obtain ⟨fn0, fn1, fn2, fn3, fn4⟩ := RC.n hR
  have fb38 : 0 ≤ (v 38).toInt ∧ (v 38).toInt ≤ 3000 := RC.V hR 38
  have fb39 : 0 ≤ (v 39).toInt ∧ (v 39).toInt ≤ 40 := RC.V hR 39
  have fb40 : 0 ≤ (v 40).toInt ∧ (v 40).toInt ≤ 20 := RC.V hR 40
  have fb43 : 0 ≤ (v 43).toInt ∧ (v 43).toInt ≤ 60 := RC.V hR 43
  have fb41 : 0 ≤ (v 41).toInt ∧ (v 41).toInt ≤ 200 := RC.V hR 41
  refine lv_aload_n hx hb dX10_lost_0 rfl (lv_at hl 0 rfl) ?_
  refine lv_iload_n hx hb dX10_lost_1 rfl (lv_at hl 1 rfl) ?_
  have hFc : ∀ q, va_A [] s.heap.size q → A q := pu_free hS hA
  obtain ⟨q_1, hq_1⟩ := og (cq := cq) to.1 (oE_10 to.2)
  refine va_callq (va_runV (As := [.int x1]) (rest := []) ⟨hx, hb, hml, hown, hts⟩ (c_X10_voyageAt_c l dC dI s.heap.size cq Z gI o to x1 v fa hR) (cwV 1 hts gX10_lost_X10_voyageAt rfl rfl rfl (by decide +kernel) ⟨(Nat.le_of_ble_eq_true rfl), (Nat.le_of_ble_eq_true rfl)⟩) (pr_V (r := (RX10, TX10, 16)) hP hK hD q_1 10 rfl hq_1) rfl rfl hl.1 rfl (lv_room (Nat.le_of_ble_eq_true rfl)) dX10_lost_2 ⟨(Nat.le_of_ble_eq_true rfl), (Nat.le_of_ble_eq_true rfl)⟩) hS (fun q _ h => hFc q h) hFc (fun r_3 u t H locs ht hvm w_2 hB hz1 hk1 hS => ?_)
  have hP := pu_keep hP hk1
  clear hk1 hz1 hvm hB ht hFc
  obtain ⟨hk_4, hx_5⟩ := w_2
  rcases r_3 with _ | b_6
  · refine W.eq (g2 := F0 m 5 ls [.null]) rfl ?_
    have hnr_3 := atF_n hx_5
    refine lv_astore_nN (lv' := [(3, .null), (0, .ref o), (1, .int x1), (2, .int x2)]) hx hb dX10_lost_5 rfl hl (by decide +kernel) rfl (fun ls hl => ?_)
    refine lv_aload_nN hx hb dX10_lost_6 rfl (lv_at hl 0 rfl) ?_
    refine lv_ifnonnullN hx hb dX10_lost_7 ?_
    refine lv_aload_n hx hb dX10_lost_10 rfl (lv_at hl 1 rfl) ?_
    refine lv_iconst (v := (-1)) hx hb dX10_lost_11 (by decide +kernel) ?_
    have hFc := o_free hD hS hA
    refine va_calli (va_runV (As := [.int (-1)]) (rest := []) ⟨hx, hb, hml, hown, hts⟩ (c_X10_refuse_c l dC dI H.size cq Z gI o to (-1) (by decide +kernel)) (cwV 1 hts gX10_lost_X10_refuse rfl rfl rfl (by decide +kernel) ⟨(Nat.le_of_ble_eq_true rfl), (Nat.le_of_ble_eq_true rfl)⟩) (pr_V (r := (RX10, TX10, 16)) hP hK hD q_1 10 rfl hq_1) rfl rfl hl.1 rfl (lv_room (Nat.le_of_ble_eq_true rfl)) dX10_lost_12 ⟨(Nat.le_of_ble_eq_true rfl), (Nat.le_of_ble_eq_true rfl)⟩) hS (fun q _ h => hFc q h) hFc (fun r_8 u t H locs ht hvm w_7 hB hz1 hk1 hS => ?_)
    obtain ⟨S_9, rfl⟩ : ∃ z, z = u := ⟨_, rfl⟩
    obtain ⟨hP1, hK1, hD1⟩ := hB
    rw [ht] at hP1
    have hP : va_P (dC, dI) vwCl (oW cq S_9) H := hP1
    have hD : va_D A (oW cq S_9) := hD1.weaken (fun _ _ _ h => hFc _ h)
    clear hP1 hK1 hD1 hk1 hz1 hvm ht hFc
    obtain ⟨hIS_9, XS_9, hb_10, hx_11⟩ := w_7
    have X_12 : oX [907, 908, 1007, 2107] Z S_9 := oX.st oX.rf XS_9 (by decide +kernel)
    have g_13 : (oI S_9 o 0).toInt = (oI Z o 0).toInt := by rw [oX.i XS_9 to (by decide +kernel)]
    have g_14 : (oI S_9 o 7).toInt = (oI Z o 7).toInt := by rw [oX.i XS_9 to (by decide +kernel)]
    have rf_15 : r_8.toInt = -1 := by rw [hx_11.1]; decide
    exact W.iret (v := r_8) hx hb hr (fun t ht hW => ⟨⟨r_8, S_9, rfl, ⟨hIS_9, X_12, ⟨by have kc0 : (0 : Int32).toInt = 0 := (by decide +kernel); have kc1 : (1 : Int32).toInt = 1 := (by decide +kernel); have kc2 : (2 : Int32).toInt = 2 := (by decide +kernel); (first | exact Or.inl ⟨by omega, by omega⟩ | (unfold aHt aHp; omega)), (Or.inl ⟨by omega, by rw [hx_11.1]; exact hx_11.2⟩)⟩⟩, ⟨by rw [ht]; exact hP, va_K.moved hW.alike hK, hD⟩⟩, hS.F ht⟩) hS.2.2 dX10_lost_15
  · refine W.eq (g2 := F0 m 5 ls [.ref b_6]) rfl ?_
    have tb_6 : oty Z b_6 9 := hk_4 b_6 rfl
    obtain ⟨hjb_6, ejb_6⟩ := atF_s hx_5
    have ljb_6 := ni_lt hjb_6.1 hjb_6.2
    have njb_6 := tn_i hjb_6.1
    have fVb_6 := RC.vo hR ljb_6
    rw [← ejb_6] at fVb_6
    obtain ⟨fy0b_6, fy1b_6, fy2b_6, fy3b_6, fy4b_6, fySb_6, fyLb_6, fyhb_6⟩ := fVb_6
    have fBb_6 : 0 ≤ (fa 7 x1.toNatClampNeg).toInt ∧ (fa 7 x1.toNatClampNeg).toInt ≤ 3000 := RC.A hR 7 _
    have fSb_6 := onc_i fySb_6
    have fLb_6 := onc_i fyLb_6
    rw [njb_6] at fy0b_6 fSb_6 fLb_6
    refine lv_astore_n (lv' := [(3, .ref b_6), (0, .ref o), (1, .int x1), (2, .int x2)]) hx hb dX10_lost_5 rfl hl (by decide +kernel) rfl (fun ls hl => ?_)
    refine lv_aload_n hx hb dX10_lost_6 rfl (lv_at hl 0 rfl) ?_
    refine lv_ifnonnull (tgt := 16) hx hb dX10_lost_7 (by decide +kernel) ?_
    refine lv_aload_n hx hb dX10_lost_16 rfl (lv_at hl 1 rfl) ?_
    refine lv_aload_n hx hb dX10_lost_17 rfl (lv_at hl 0 rfl) ?_
    refine lv_iload_n hx hb dX10_lost_18 rfl (lv_at hl 3 rfl) ?_
    refine lv_aload_n hx hb dX10_lost_19 rfl (lv_at hl 0 rfl) ?_
    obtain ⟨q_16, hq_16⟩ := og (cq := cq) tb_6.1 (oE_9 tb_6.2)
    refine va_get (D := (dC, dI)) (ci := 9) (v := .int (oI Z b_6 8)) (C := RX9) (T := TX9) (N := 10) hx hb hts in_wsX10_lost_X9 hown hK hP q_16 hq_16 rfl 8 (by decide +kernel) (hts (.fieldLink RX10 111 "ShipOffice$Voyage" "lostTold" "I") iw_X10_lost_1) (fun _ h9 => h9) rfl dX10_lost_20 ?_
    refine lv_topi (fun x_17 ex_17 => ?_)
    have gx_17 : x_17.toInt = (oI Z b_6 8).toInt := iv_to ex_17
    clear ex_17
    refine lv_ldc (v := 1000000) hx hb hown (hts (.constant RX10 114 (1000000)) (by decide +kernel)) dX10_lost_23 ?_
    refine lv_icmp_eq (tgt := 32) hx hb dX10_lost_25 (by decide +kernel) (fun c_18 => ?_) (fun c_18 => ?_)
    · have dc_18 := c_eq (a := x_17.toInt) (b := 1000000) rfl (by decide +kernel) c_18
      refine lv_iconst (v := 0) hx hb dX10_lost_32 (by decide +kernel) ?_
      have hFc : ∀ q, va_A [] H.size q → A q := pu_free hS hA
      refine va_calli (va_runV (As := [.ref b_6, .int x2, .int 0]) (rest := []) ⟨hx, hb, hml, hown, hts⟩ (c_X10_voyageRefusal_c l dC dI H.size cq Z gI o to b_6 tb_6 x2 0) (cwV 3 hts gX10_lost_X10_voyageRefusal rfl rfl rfl (by decide +kernel) ⟨(Nat.le_of_ble_eq_true rfl), (Nat.le_of_ble_eq_true rfl)⟩) (pr_V (r := (RX10, TX10, 16)) hP hK hD q_1 10 rfl hq_1) rfl rfl hl.1 rfl (lv_room (Nat.le_of_ble_eq_true rfl)) dX10_lost_33 ⟨(Nat.le_of_ble_eq_true rfl), (Nat.le_of_ble_eq_true rfl)⟩) hS (fun q _ h => hFc q h) hFc (fun r_20 u t H locs ht hvm w_19 hB hz1 hk1 hS => ?_)
      have hP := pu_keep hP hk1
      clear hk1 hz1 hvm hB ht hFc
      obtain ⟨hb_21, hx_22⟩ := w_19
      have uN_23 := hx_22
      unfold vRf at uN_23
      refine lv_istore (lv' := [(4, .int r_20), (3, .ref b_6), (0, .ref o), (1, .int x1), (2, .int x2)]) hx hb dX10_lost_36 hl (by decide +kernel) rfl (fun ls hl => ?_)
      refine lv_iload hx hb dX10_lost_38 (lv_at hl 0 rfl) ?_
      refine lv_if_eq (tgt := 50) hx hb dX10_lost_40 (by decide +kernel) (fun c_24 => ?_) (fun c_24 => ?_)
      · have dc_24 := c_eq (a := r_20.toInt) (b := 0) rfl (by decide +kernel) c_24
        refine lv_aload_n hx hb dX10_lost_50 rfl (lv_at hl 1 rfl) ?_
        refine lv_iload_n hx hb dX10_lost_51 rfl (lv_at hl 4 rfl) ?_
        refine va_put (D := (dC, dI)) (ci := 9) (v := .int x2) (ty := .int) (C := RX9) (T := TX9) (N := 10) hx hb hts in_wsX10_lost_X9 tyX9 tyX9_ok nmX9 hown hK hP hD hS q_16 hq_16 rfl 7 (by decide +kernel) (hts (.fieldLink RX10 151 "ShipOffice$Voyage" "lostDay" "I") iw_X10_lost_2) (fun _ h9 => h9) rfl (by decide +kernel) rfl rfl (Nat.le_of_ble_eq_true rfl) dX10_lost_52 (fun H locs hP1 hD1 hS => ?_)
        obtain ⟨S_25, eS_25⟩ : ∃ zq, zq = setI Z b_6 7 x2 := ⟨_, rfl⟩
        have hP : va_P (dC, dI) vwCl (oW cq S_25) H := by rw [eS_25]; exact cP (oset tb_6.1 hq_16 hD rfl (he_9_7 tb_6.2) neI) hP1
        have hD : va_D A (oW cq S_25) := by rw [eS_25]; exact cD (oset tb_6.1 hq_16 hD rfl (he_9_7 tb_6.2) neI) hD1
        clear hP1 hD1
        have hIS_25 : oInv S_25 := by rw [eS_25]; exact oInv.I0 (k := 9) (lo := -2147483648) (hi := 2147483647) gI tb_6.2 (by decide +kernel) rfl rfl rfl (iv_all _)
        have XS_25 : oX [907] Z S_25 := by rw [eS_25]; exact oX.I (k := 9) (key := 907) tb_6.2 rfl (List.mem_singleton.mpr rfl)
        have X_26 : oX [907, 908, 1007, 2107] Z S_25 := oX.st oX.rf XS_25 (by decide +kernel)
        have g_27 : (oI S_25 b_6 8).toInt = (oI Z b_6 8).toInt := by rw [eS_25, setI_ne (by decide +kernel)]
        have g_28 : (oI S_25 o 0).toInt = (oI Z o 0).toInt := by rw [eS_25, setI_oth (ty_ne to tb_6 (by decide +kernel))]
        have g_29 : (oI S_25 o 7).toInt = (oI Z o 7).toInt := by rw [eS_25, setI_oth (ty_ne to tb_6 (by decide +kernel))]
        refine lv_aload_n hx hb dX10_lost_55 rfl (lv_at hl 1 rfl) ?_
        refine lv_aload_n hx hb dX10_lost_56 rfl (lv_at hl 2 rfl) ?_
        have t_30 : oty S_25 o 10 := (oX.ty XS_25 to)
        obtain ⟨q_31, hq_31⟩ := og (cq := cq) t_30.1 (oE_10 t_30.2)
        refine va_get (D := (dC, dI)) (ci := 10) (v := .int (oI S_25 o 0)) (C := RX10) (T := TX10) (N := 16) hx hb hts in_wsX10_lost_X10 hown hK hP q_31 hq_31 rfl 0 (by decide +kernel) (hts (.fieldLink RX10 73 "ShipOffice" "now" "I") iw_X10_lost_3) (fun _ h9 => h9) rfl dX10_lost_57 ?_
        refine lv_topi (fun x_32 ex_32 => ?_)
        have hx_32 : 0 ≤ x_32.toInt ∧ x_32.toInt ≤ 3000 := iv_of ex_32 (oInv.iv hIS_25 t_30.2 rfl rfl)
        have gx_32 : x_32.toInt = (oI S_25 o 0).toInt := iv_to ex_32
        clear ex_32
        have t_33 : oty S_25 b_6 9 := (oX.ty XS_25 tb_6)
        obtain ⟨q_34, hq_34⟩ := og (cq := cq) t_33.1 (oE_9 t_33.2)
        refine va_put (D := (dC, dI)) (ci := 9) (v := .int x_32) (ty := .int) (C := RX9) (T := TX9) (N := 10) hx hb hts in_wsX10_lost_X9 tyX9 tyX9_ok nmX9 hown hK hP hD hS q_34 hq_34 rfl 8 (by decide +kernel) (hts (.fieldLink RX10 111 "ShipOffice$Voyage" "lostTold" "I") iw_X10_lost_1) (fun _ h9 => h9) rfl (by decide +kernel) rfl rfl (Nat.le_of_ble_eq_true rfl) dX10_lost_60 (fun H locs hP1 hD1 hS => ?_)
        obtain ⟨S_35, eS_35⟩ : ∃ zq, zq = setI S_25 b_6 8 x_32 := ⟨_, rfl⟩
        have hP : va_P (dC, dI) vwCl (oW cq S_35) H := by rw [eS_35]; exact cP (oset t_33.1 hq_34 hD rfl (he_9_8 t_33.2) neI) hP1
        have hD : va_D A (oW cq S_35) := by rw [eS_35]; exact cD (oset t_33.1 hq_34 hD rfl (he_9_8 t_33.2) neI) hD1
        clear hP1 hD1
        have hIS_35 : oInv S_35 := by rw [eS_35]; exact oInv.I0 (k := 9) (lo := -2147483648) (hi := 2147483647) hIS_25 t_33.2 (by decide +kernel) rfl rfl rfl (iv_all _)
        have XS_35 : oX [908] S_25 S_35 := by rw [eS_35]; exact oX.I (k := 9) (key := 908) t_33.2 rfl (List.mem_singleton.mpr rfl)
        have X_36 : oX [907, 908, 1007, 2107] Z S_35 := oX.st X_26 XS_35 (by decide +kernel)
        have g_37 : (oI S_35 b_6 8).toInt = x_32.toInt := by rw [eS_35, setI_same]
        have g_38 : (oI S_35 o 0).toInt = (oI S_25 o 0).toInt := by rw [eS_35, setI_oth (ty_ne t_30 t_33 (by decide +kernel))]
        have g_39 : (oI S_35 o 7).toInt = (oI S_25 o 7).toInt := by rw [eS_35, setI_oth (ty_ne t_30 t_33 (by decide +kernel))]
        refine lv_aload_n hx hb dX10_lost_63 rfl (lv_at hl 2 rfl) ?_
        refine lv_dup hx hb dX10_lost_64 rfl ?_
        have t_40 : oty S_35 o 10 := (oX.ty XS_35 t_30)
        obtain ⟨q_41, hq_41⟩ := og (cq := cq) t_40.1 (oE_10 t_40.2)
        refine va_get (D := (dC, dI)) (ci := 10) (v := .int (oI S_35 o 7)) (C := RX10) (T := TX10) (N := 16) hx hb hts in_wsX10_lost_X10 hown hK hP q_41 hq_41 rfl 7 (by decide +kernel) (hts (.fieldLink RX10 139 "ShipOffice" "happeningCount" "I") iw_X10_lost_4) (fun _ h9 => h9) rfl dX10_lost_65 ?_
        refine lv_topi (fun x_42 ex_42 => ?_)
        have hx_42 : 0 ≤ x_42.toInt ∧ x_42.toInt ≤ 201 := iv_of ex_42 (by omega)
        have gx_42 : x_42.toInt = (oI S_35 o 7).toInt := iv_to ex_42
        clear ex_42
        refine lv_iconst (v := 1) hx hb dX10_lost_68 (by decide +kernel) ?_
        refine lv_iadd hx hb dX10_lost_69 ?_
        refine lv_topi (fun x_43 ex_43 => ?_)
        have hx_43 : x_43.toInt = x_42.toInt + 1 := (iv_to ex_43).trans (ad_i rfl (by decide +kernel) (by omega) (by omega))
        clear ex_43
        refine va_put (D := (dC, dI)) (ci := 10) (v := .int x_43) (ty := .int) (C := RX10) (T := TX10) (N := 16) hx hb hts in_wsX10_lost_X10 tyX10 tyX10_ok nmX10 hown hK hP hD hS q_41 hq_41 rfl 7 (by decide +kernel) (hts (.fieldLink RX10 139 "ShipOffice" "happeningCount" "I") iw_X10_lost_4) (fun _ h9 => h9) rfl (by decide +kernel) rfl rfl (Nat.le_of_ble_eq_true rfl) dX10_lost_70 (fun H locs hP1 hD1 hS => ?_)
        obtain ⟨S_44, eS_44⟩ : ∃ zq, zq = setI S_35 o 7 x_43 := ⟨_, rfl⟩
        have hP : va_P (dC, dI) vwCl (oW cq S_44) H := by rw [eS_44]; exact cP (oset t_40.1 hq_41 hD rfl (he_10_7 t_40.2) neI) hP1
        have hD : va_D A (oW cq S_44) := by rw [eS_44]; exact cD (oset t_40.1 hq_41 hD rfl (he_10_7 t_40.2) neI) hD1
        clear hP1 hD1
        have hIS_44 : oInv S_44 := by rw [eS_44]; exact oInv.I0 (k := 10) (lo := -2147483648) (hi := 2147483647) hIS_35 t_40.2 (by decide +kernel) rfl rfl rfl (iv_all _)
        have XS_44 : oX [1007] S_35 S_44 := by rw [eS_44]; exact oX.I (k := 10) (key := 1007) t_40.2 rfl (List.mem_singleton.mpr rfl)
        have X_45 : oX [907, 908, 1007, 2107] Z S_44 := oX.st X_36 XS_44 (by decide +kernel)
        have g_46 : (oI S_44 b_6 8).toInt = (oI S_35 b_6 8).toInt := by rw [eS_44, setI_oth (ty_ne (oX.ty XS_35 t_33) t_40 (by decide +kernel))]
        have g_47 : (oI S_44 o 0).toInt = (oI S_35 o 0).toInt := by rw [eS_44, setI_ne (by decide +kernel)]
        have g_48 : (oI S_44 o 7).toInt = x_43.toInt := by rw [eS_44, setI_same]
        refine lv_aload_n hx hb dX10_lost_73 rfl (lv_at hl 2 rfl) ?_
        have t_49 : oty S_44 o 10 := (oX.ty XS_44 t_40)
        obtain ⟨q_50, hq_50⟩ := og (cq := cq) t_49.1 (oE_10 t_49.2)
        refine va_get (D := (dC, dI)) (ci := 10) (v := .int (oI S_44 o 7)) (C := RX10) (T := TX10) (N := 16) hx hb hts in_wsX10_lost_X10 hown hK hP q_50 hq_50 rfl 7 (by decide +kernel) (hts (.fieldLink RX10 139 "ShipOffice" "happeningCount" "I") iw_X10_lost_4) (fun _ h9 => h9) rfl dX10_lost_74 ?_
        refine lv_topi (fun x_51 ex_51 => ?_)
        have hx_51 : 0 ≤ x_51.toInt ∧ x_51.toInt ≤ 201 := iv_of ex_51 (by omega)
        have gx_51 : x_51.toInt = (oI S_44 o 7).toInt := iv_to ex_51
        clear ex_51
        exact W.iret (v := x_51) hx hb hr (fun t ht hW => ⟨⟨x_51, S_44, rfl, ⟨hIS_44, X_45, ⟨by try clear fSb_6; have kc0 : (0 : Int32).toInt = 0 := (by decide +kernel); have kc1 : (1 : Int32).toInt = 1 := (by decide +kernel); have kc2 : (2 : Int32).toInt = 2 := (by decide +kernel); have hq_ := hx_22; unfold vRf at hq_; rcases hq_ with hq_ | hq_ | hq_ | hq_; (first | (exfalso; omega) | (unfold aHt aHp; omega)); (first | (exfalso; omega) | (unfold aHt aHp; omega)); (first | (exfalso; omega) | (unfold aHt aHp; omega)); (first | exact Or.inr (Or.inr (⟨by omega, by omega, by omega, Or.inr (Or.inr (⟨by omega, by omega, by omega, by omega⟩))⟩)) | (unfold aHt aHp; omega)), Or.inr ⟨by try clear fSb_6; have kc0 : (0 : Int32).toInt = 0 := (by decide +kernel); have kc1 : (1 : Int32).toInt = 1 := (by decide +kernel); have kc2 : (2 : Int32).toInt = 2 := (by decide +kernel); have hq_ := hx_22; unfold vRf at hq_; omega, (by exact ⟨by omega, by rw [← ejb_6, eS_44, eS_35, eS_25, (show x_32 = oI Z o 0 from Int32.toInt_inj.mp (by omega)), (show x_43 = x_51 from Int32.toInt_inj.mp (by omega))]⟩)⟩⟩⟩, ⟨by rw [ht]; exact hP, va_K.moved hW.alike hK, hD⟩⟩, hS.F ht⟩) hS.2.2 dX10_lost_77
      · have dc_24 := c_ne (a := r_20.toInt) (b := 0) rfl (by decide +kernel) c_24
        refine lv_aload_n hx hb dX10_lost_43 rfl (lv_at hl 2 rfl) ?_
        refine lv_iload hx hb dX10_lost_44 (lv_at hl 0 rfl) ?_
        have hFc := o_free hD hS hA
        refine va_calli (va_runV (As := [.int r_20]) (rest := []) ⟨hx, hb, hml, hown, hts⟩ (c_X10_refuse_c l dC dI H.size cq Z gI o to r_20 (by omega)) (cwV 1 hts gX10_lost_X10_refuse rfl rfl rfl (by decide +kernel) ⟨(Nat.le_of_ble_eq_true rfl), (Nat.le_of_ble_eq_true rfl)⟩) (pr_V (r := (RX10, TX10, 16)) hP hK hD q_1 10 rfl hq_1) rfl rfl hl.1 rfl (lv_room (Nat.le_of_ble_eq_true rfl)) dX10_lost_46 ⟨(Nat.le_of_ble_eq_true rfl), (Nat.le_of_ble_eq_true rfl)⟩) hS (fun q _ h => hFc q h) hFc (fun r_53 u t H locs ht hvm w_52 hB hz1 hk1 hS => ?_)
        obtain ⟨S_54, rfl⟩ : ∃ z, z = u := ⟨_, rfl⟩
        obtain ⟨hP1, hK1, hD1⟩ := hB
        rw [ht] at hP1
        have hP : va_P (dC, dI) vwCl (oW cq S_54) H := hP1
        have hD : va_D A (oW cq S_54) := hD1.weaken (fun _ _ _ h => hFc _ h)
        clear hP1 hK1 hD1 hk1 hz1 hvm ht hFc
        obtain ⟨hIS_54, XS_54, hb_55, hx_56⟩ := w_52
        have X_57 : oX [907, 908, 1007, 2107] Z S_54 := oX.st oX.rf XS_54 (by decide +kernel)
        have g_58 : (oI S_54 b_6 8).toInt = (oI Z b_6 8).toInt := by rw [oX.i XS_54 tb_6 (by decide +kernel)]
        have g_59 : (oI S_54 o 0).toInt = (oI Z o 0).toInt := by rw [oX.i XS_54 to (by decide +kernel)]
        have g_60 : (oI S_54 o 7).toInt = (oI Z o 7).toInt := by rw [oX.i XS_54 to (by decide +kernel)]
        have rf_61 : r_53.toInt = r_20.toInt := by rw [hx_56.1]
        exact W.iret (v := r_53) hx hb hr (fun t ht hW => ⟨⟨r_53, S_54, rfl, ⟨hIS_54, X_57, ⟨by try clear fSb_6; have kc0 : (0 : Int32).toInt = 0 := (by decide +kernel); have kc1 : (1 : Int32).toInt = 1 := (by decide +kernel); have kc2 : (2 : Int32).toInt = 2 := (by decide +kernel); have hq_ := hx_22; unfold vRf at hq_; rcases hq_ with hq_ | hq_ | hq_ | hq_; (first | exact Or.inr (Or.inl ⟨by omega, by omega, by omega⟩) | (unfold aHt aHp; omega)); (first | exact Or.inr (Or.inr (⟨by omega, by omega, by omega, Or.inl ⟨by omega, by omega⟩⟩)) | (unfold aHt aHp; omega)); (first | exact Or.inr (Or.inr (⟨by omega, by omega, by omega, Or.inr (Or.inl ⟨by omega, by omega, by omega⟩)⟩)) | (unfold aHt aHp; omega)); (first | (exfalso; omega) | (unfold aHt aHp; omega)), (Or.inl ⟨by omega, by rw [hx_56.1]; exact hx_56.2⟩)⟩⟩, ⟨by rw [ht]; exact hP, va_K.moved hW.alike hK, hD⟩⟩, hS.F ht⟩) hS.2.2 dX10_lost_49
    · have dc_18 := c_ne (a := x_17.toInt) (b := 1000000) rfl (by decide +kernel) c_18
      refine lv_iconst (v := 1) hx hb dX10_lost_28 (by decide +kernel) ?_
      refine lv_goto (tgt := 33) hx hb dX10_lost_29 (by decide +kernel) ?_
      have hFc : ∀ q, va_A [] H.size q → A q := pu_free hS hA
      refine va_calli (va_runV (As := [.ref b_6, .int x2, .int 1]) (rest := []) ⟨hx, hb, hml, hown, hts⟩ (c_X10_voyageRefusal_c l dC dI H.size cq Z gI o to b_6 tb_6 x2 1) (cwV 3 hts gX10_lost_X10_voyageRefusal rfl rfl rfl (by decide +kernel) ⟨(Nat.le_of_ble_eq_true rfl), (Nat.le_of_ble_eq_true rfl)⟩) (pr_V (r := (RX10, TX10, 16)) hP hK hD q_1 10 rfl hq_1) rfl rfl hl.1 rfl (lv_room (Nat.le_of_ble_eq_true rfl)) dX10_lost_33 ⟨(Nat.le_of_ble_eq_true rfl), (Nat.le_of_ble_eq_true rfl)⟩) hS (fun q _ h => hFc q h) hFc (fun r_63 u t H locs ht hvm w_62 hB hz1 hk1 hS => ?_)
      have hP := pu_keep hP hk1
      clear hk1 hz1 hvm hB ht hFc
      obtain ⟨hb_64, hx_65⟩ := w_62
      have uN_66 := hx_65
      unfold vRf at uN_66
      refine lv_istore (lv' := [(4, .int r_63), (3, .ref b_6), (0, .ref o), (1, .int x1), (2, .int x2)]) hx hb dX10_lost_36 hl (by decide +kernel) rfl (fun ls hl => ?_)
      refine lv_iload hx hb dX10_lost_38 (lv_at hl 0 rfl) ?_
      refine lv_if_eq (tgt := 50) hx hb dX10_lost_40 (by decide +kernel) (fun c_67 => ?_) (fun c_67 => ?_)
      · have dc_67 := c_eq (a := r_63.toInt) (b := 0) rfl (by decide +kernel) c_67
        refine lv_aload_n hx hb dX10_lost_50 rfl (lv_at hl 1 rfl) ?_
        refine lv_iload_n hx hb dX10_lost_51 rfl (lv_at hl 4 rfl) ?_
        refine va_put (D := (dC, dI)) (ci := 9) (v := .int x2) (ty := .int) (C := RX9) (T := TX9) (N := 10) hx hb hts in_wsX10_lost_X9 tyX9 tyX9_ok nmX9 hown hK hP hD hS q_16 hq_16 rfl 7 (by decide +kernel) (hts (.fieldLink RX10 151 "ShipOffice$Voyage" "lostDay" "I") iw_X10_lost_2) (fun _ h9 => h9) rfl (by decide +kernel) rfl rfl (Nat.le_of_ble_eq_true rfl) dX10_lost_52 (fun H locs hP1 hD1 hS => ?_)
        obtain ⟨S_68, eS_68⟩ : ∃ zq, zq = setI Z b_6 7 x2 := ⟨_, rfl⟩
        have hP : va_P (dC, dI) vwCl (oW cq S_68) H := by rw [eS_68]; exact cP (oset tb_6.1 hq_16 hD rfl (he_9_7 tb_6.2) neI) hP1
        have hD : va_D A (oW cq S_68) := by rw [eS_68]; exact cD (oset tb_6.1 hq_16 hD rfl (he_9_7 tb_6.2) neI) hD1
        clear hP1 hD1
        have hIS_68 : oInv S_68 := by rw [eS_68]; exact oInv.I0 (k := 9) (lo := -2147483648) (hi := 2147483647) gI tb_6.2 (by decide +kernel) rfl rfl rfl (iv_all _)
        have XS_68 : oX [907] Z S_68 := by rw [eS_68]; exact oX.I (k := 9) (key := 907) tb_6.2 rfl (List.mem_singleton.mpr rfl)
        have X_69 : oX [907, 908, 1007, 2107] Z S_68 := oX.st oX.rf XS_68 (by decide +kernel)
        have g_70 : (oI S_68 b_6 8).toInt = (oI Z b_6 8).toInt := by rw [eS_68, setI_ne (by decide +kernel)]
        have g_71 : (oI S_68 o 0).toInt = (oI Z o 0).toInt := by rw [eS_68, setI_oth (ty_ne to tb_6 (by decide +kernel))]
        have g_72 : (oI S_68 o 7).toInt = (oI Z o 7).toInt := by rw [eS_68, setI_oth (ty_ne to tb_6 (by decide +kernel))]
        refine lv_aload_n hx hb dX10_lost_55 rfl (lv_at hl 1 rfl) ?_
        refine lv_aload_n hx hb dX10_lost_56 rfl (lv_at hl 2 rfl) ?_
        have t_73 : oty S_68 o 10 := (oX.ty XS_68 to)
        obtain ⟨q_74, hq_74⟩ := og (cq := cq) t_73.1 (oE_10 t_73.2)
        refine va_get (D := (dC, dI)) (ci := 10) (v := .int (oI S_68 o 0)) (C := RX10) (T := TX10) (N := 16) hx hb hts in_wsX10_lost_X10 hown hK hP q_74 hq_74 rfl 0 (by decide +kernel) (hts (.fieldLink RX10 73 "ShipOffice" "now" "I") iw_X10_lost_3) (fun _ h9 => h9) rfl dX10_lost_57 ?_
        refine lv_topi (fun x_75 ex_75 => ?_)
        have hx_75 : 0 ≤ x_75.toInt ∧ x_75.toInt ≤ 3000 := iv_of ex_75 (oInv.iv hIS_68 t_73.2 rfl rfl)
        have gx_75 : x_75.toInt = (oI S_68 o 0).toInt := iv_to ex_75
        clear ex_75
        have t_76 : oty S_68 b_6 9 := (oX.ty XS_68 tb_6)
        obtain ⟨q_77, hq_77⟩ := og (cq := cq) t_76.1 (oE_9 t_76.2)
        refine va_put (D := (dC, dI)) (ci := 9) (v := .int x_75) (ty := .int) (C := RX9) (T := TX9) (N := 10) hx hb hts in_wsX10_lost_X9 tyX9 tyX9_ok nmX9 hown hK hP hD hS q_77 hq_77 rfl 8 (by decide +kernel) (hts (.fieldLink RX10 111 "ShipOffice$Voyage" "lostTold" "I") iw_X10_lost_1) (fun _ h9 => h9) rfl (by decide +kernel) rfl rfl (Nat.le_of_ble_eq_true rfl) dX10_lost_60 (fun H locs hP1 hD1 hS => ?_)
        obtain ⟨S_78, eS_78⟩ : ∃ zq, zq = setI S_68 b_6 8 x_75 := ⟨_, rfl⟩
        have hP : va_P (dC, dI) vwCl (oW cq S_78) H := by rw [eS_78]; exact cP (oset t_76.1 hq_77 hD rfl (he_9_8 t_76.2) neI) hP1
        have hD : va_D A (oW cq S_78) := by rw [eS_78]; exact cD (oset t_76.1 hq_77 hD rfl (he_9_8 t_76.2) neI) hD1
        clear hP1 hD1
        have hIS_78 : oInv S_78 := by rw [eS_78]; exact oInv.I0 (k := 9) (lo := -2147483648) (hi := 2147483647) hIS_68 t_76.2 (by decide +kernel) rfl rfl rfl (iv_all _)
        have XS_78 : oX [908] S_68 S_78 := by rw [eS_78]; exact oX.I (k := 9) (key := 908) t_76.2 rfl (List.mem_singleton.mpr rfl)
        have X_79 : oX [907, 908, 1007, 2107] Z S_78 := oX.st X_69 XS_78 (by decide +kernel)
        have g_80 : (oI S_78 b_6 8).toInt = x_75.toInt := by rw [eS_78, setI_same]
        have g_81 : (oI S_78 o 0).toInt = (oI S_68 o 0).toInt := by rw [eS_78, setI_oth (ty_ne t_73 t_76 (by decide +kernel))]
        have g_82 : (oI S_78 o 7).toInt = (oI S_68 o 7).toInt := by rw [eS_78, setI_oth (ty_ne t_73 t_76 (by decide +kernel))]
        refine lv_aload_n hx hb dX10_lost_63 rfl (lv_at hl 2 rfl) ?_
        refine lv_dup hx hb dX10_lost_64 rfl ?_
        have t_83 : oty S_78 o 10 := (oX.ty XS_78 t_73)
        obtain ⟨q_84, hq_84⟩ := og (cq := cq) t_83.1 (oE_10 t_83.2)
        refine va_get (D := (dC, dI)) (ci := 10) (v := .int (oI S_78 o 7)) (C := RX10) (T := TX10) (N := 16) hx hb hts in_wsX10_lost_X10 hown hK hP q_84 hq_84 rfl 7 (by decide +kernel) (hts (.fieldLink RX10 139 "ShipOffice" "happeningCount" "I") iw_X10_lost_4) (fun _ h9 => h9) rfl dX10_lost_65 ?_
        refine lv_topi (fun x_85 ex_85 => ?_)
        have hx_85 : 0 ≤ x_85.toInt ∧ x_85.toInt ≤ 201 := iv_of ex_85 (by omega)
        have gx_85 : x_85.toInt = (oI S_78 o 7).toInt := iv_to ex_85
        clear ex_85
        refine lv_iconst (v := 1) hx hb dX10_lost_68 (by decide +kernel) ?_
        refine lv_iadd hx hb dX10_lost_69 ?_
        refine lv_topi (fun x_86 ex_86 => ?_)
        have hx_86 : x_86.toInt = x_85.toInt + 1 := (iv_to ex_86).trans (ad_i rfl (by decide +kernel) (by omega) (by omega))
        clear ex_86
        refine va_put (D := (dC, dI)) (ci := 10) (v := .int x_86) (ty := .int) (C := RX10) (T := TX10) (N := 16) hx hb hts in_wsX10_lost_X10 tyX10 tyX10_ok nmX10 hown hK hP hD hS q_84 hq_84 rfl 7 (by decide +kernel) (hts (.fieldLink RX10 139 "ShipOffice" "happeningCount" "I") iw_X10_lost_4) (fun _ h9 => h9) rfl (by decide +kernel) rfl rfl (Nat.le_of_ble_eq_true rfl) dX10_lost_70 (fun H locs hP1 hD1 hS => ?_)
        obtain ⟨S_87, eS_87⟩ : ∃ zq, zq = setI S_78 o 7 x_86 := ⟨_, rfl⟩
        have hP : va_P (dC, dI) vwCl (oW cq S_87) H := by rw [eS_87]; exact cP (oset t_83.1 hq_84 hD rfl (he_10_7 t_83.2) neI) hP1
        have hD : va_D A (oW cq S_87) := by rw [eS_87]; exact cD (oset t_83.1 hq_84 hD rfl (he_10_7 t_83.2) neI) hD1
        clear hP1 hD1
        have hIS_87 : oInv S_87 := by rw [eS_87]; exact oInv.I0 (k := 10) (lo := -2147483648) (hi := 2147483647) hIS_78 t_83.2 (by decide +kernel) rfl rfl rfl (iv_all _)
        have XS_87 : oX [1007] S_78 S_87 := by rw [eS_87]; exact oX.I (k := 10) (key := 1007) t_83.2 rfl (List.mem_singleton.mpr rfl)
        have X_88 : oX [907, 908, 1007, 2107] Z S_87 := oX.st X_79 XS_87 (by decide +kernel)
        have g_89 : (oI S_87 b_6 8).toInt = (oI S_78 b_6 8).toInt := by rw [eS_87, setI_oth (ty_ne (oX.ty XS_78 t_76) t_83 (by decide +kernel))]
        have g_90 : (oI S_87 o 0).toInt = (oI S_78 o 0).toInt := by rw [eS_87, setI_ne (by decide +kernel)]
        have g_91 : (oI S_87 o 7).toInt = x_86.toInt := by rw [eS_87, setI_same]
        refine lv_aload_n hx hb dX10_lost_73 rfl (lv_at hl 2 rfl) ?_
        have t_92 : oty S_87 o 10 := (oX.ty XS_87 t_83)
        obtain ⟨q_93, hq_93⟩ := og (cq := cq) t_92.1 (oE_10 t_92.2)
        refine va_get (D := (dC, dI)) (ci := 10) (v := .int (oI S_87 o 7)) (C := RX10) (T := TX10) (N := 16) hx hb hts in_wsX10_lost_X10 hown hK hP q_93 hq_93 rfl 7 (by decide +kernel) (hts (.fieldLink RX10 139 "ShipOffice" "happeningCount" "I") iw_X10_lost_4) (fun _ h9 => h9) rfl dX10_lost_74 ?_
        refine lv_topi (fun x_94 ex_94 => ?_)
        have hx_94 : 0 ≤ x_94.toInt ∧ x_94.toInt ≤ 201 := iv_of ex_94 (by omega)
        have gx_94 : x_94.toInt = (oI S_87 o 7).toInt := iv_to ex_94
        clear ex_94
        exact W.iret (v := x_94) hx hb hr (fun t ht hW => ⟨⟨x_94, S_87, rfl, ⟨hIS_87, X_88, ⟨by try clear fSb_6; have kc0 : (0 : Int32).toInt = 0 := (by decide +kernel); have kc1 : (1 : Int32).toInt = 1 := (by decide +kernel); have kc2 : (2 : Int32).toInt = 2 := (by decide +kernel); have hq_ := hx_65; unfold vRf at hq_; rcases hq_ with hq_ | hq_ | hq_ | hq_; (first | (exfalso; omega) | (unfold aHt aHp; omega)); (first | (exfalso; omega) | (unfold aHt aHp; omega)); (first | (exfalso; omega) | (unfold aHt aHp; omega)); (first | exact Or.inr (Or.inr (⟨by omega, by omega, by omega, Or.inr (Or.inr (⟨by omega, by omega, by omega, by omega⟩))⟩)) | (unfold aHt aHp; omega)), Or.inr ⟨by try clear fSb_6; have kc0 : (0 : Int32).toInt = 0 := (by decide +kernel); have kc1 : (1 : Int32).toInt = 1 := (by decide +kernel); have kc2 : (2 : Int32).toInt = 2 := (by decide +kernel); have hq_ := hx_65; unfold vRf at hq_; omega, (by exact ⟨by omega, by rw [← ejb_6, eS_87, eS_78, eS_68, (show x_75 = oI Z o 0 from Int32.toInt_inj.mp (by omega)), (show x_86 = x_94 from Int32.toInt_inj.mp (by omega))]⟩)⟩⟩⟩, ⟨by rw [ht]; exact hP, va_K.moved hW.alike hK, hD⟩⟩, hS.F ht⟩) hS.2.2 dX10_lost_77
      · have dc_67 := c_ne (a := r_63.toInt) (b := 0) rfl (by decide +kernel) c_67
        refine lv_aload_n hx hb dX10_lost_43 rfl (lv_at hl 2 rfl) ?_
        refine lv_iload hx hb dX10_lost_44 (lv_at hl 0 rfl) ?_
        have hFc := o_free hD hS hA
        refine va_calli (va_runV (As := [.int r_63]) (rest := []) ⟨hx, hb, hml, hown, hts⟩ (c_X10_refuse_c l dC dI H.size cq Z gI o to r_63 (by omega)) (cwV 1 hts gX10_lost_X10_refuse rfl rfl rfl (by decide +kernel) ⟨(Nat.le_of_ble_eq_true rfl), (Nat.le_of_ble_eq_true rfl)⟩) (pr_V (r := (RX10, TX10, 16)) hP hK hD q_1 10 rfl hq_1) rfl rfl hl.1 rfl (lv_room (Nat.le_of_ble_eq_true rfl)) dX10_lost_46 ⟨(Nat.le_of_ble_eq_true rfl), (Nat.le_of_ble_eq_true rfl)⟩) hS (fun q _ h => hFc q h) hFc (fun r_96 u t H locs ht hvm w_95 hB hz1 hk1 hS => ?_)
        obtain ⟨S_97, rfl⟩ : ∃ z, z = u := ⟨_, rfl⟩
        obtain ⟨hP1, hK1, hD1⟩ := hB
        rw [ht] at hP1
        have hP : va_P (dC, dI) vwCl (oW cq S_97) H := hP1
        have hD : va_D A (oW cq S_97) := hD1.weaken (fun _ _ _ h => hFc _ h)
        clear hP1 hK1 hD1 hk1 hz1 hvm ht hFc
        obtain ⟨hIS_97, XS_97, hb_98, hx_99⟩ := w_95
        have X_100 : oX [907, 908, 1007, 2107] Z S_97 := oX.st oX.rf XS_97 (by decide +kernel)
        have g_101 : (oI S_97 b_6 8).toInt = (oI Z b_6 8).toInt := by rw [oX.i XS_97 tb_6 (by decide +kernel)]
        have g_102 : (oI S_97 o 0).toInt = (oI Z o 0).toInt := by rw [oX.i XS_97 to (by decide +kernel)]
        have g_103 : (oI S_97 o 7).toInt = (oI Z o 7).toInt := by rw [oX.i XS_97 to (by decide +kernel)]
        have rf_104 : r_96.toInt = r_63.toInt := by rw [hx_99.1]
        exact W.iret (v := r_96) hx hb hr (fun t ht hW => ⟨⟨r_96, S_97, rfl, ⟨hIS_97, X_100, ⟨by try clear fSb_6; have kc0 : (0 : Int32).toInt = 0 := (by decide +kernel); have kc1 : (1 : Int32).toInt = 1 := (by decide +kernel); have kc2 : (2 : Int32).toInt = 2 := (by decide +kernel); have hq_ := hx_65; unfold vRf at hq_; rcases hq_ with hq_ | hq_ | hq_ | hq_; (first | exact Or.inr (Or.inl ⟨by omega, by omega, by omega⟩) | (unfold aHt aHp; omega)); (first | exact Or.inr (Or.inr (⟨by omega, by omega, by omega, Or.inl ⟨by omega, by omega⟩⟩)) | (unfold aHt aHp; omega)); (first | exact Or.inr (Or.inr (⟨by omega, by omega, by omega, Or.inr (Or.inl ⟨by omega, by omega, by omega⟩)⟩)) | (unfold aHt aHp; omega)); (first | (exfalso; omega) | (unfold aHt aHp; omega)), (Or.inl ⟨by omega, by rw [hx_99.1]; exact hx_99.2⟩)⟩⟩, ⟨by rw [ht]; exact hP, va_K.moved hW.alike hK, hD⟩⟩, hS.F ht⟩) hS.2.2 dX10_lost_49
set_option maxHeartbeats 4000000 in
set_option maxRecDepth 100000 in
theorem c_X10_heard_c (l : Launch) (dC : Nat → ClassId) (dI : Nat → Nat → Nat) (sz : Nat) (cq : Nat → ClassId) (Z : oS) (gI : oInv Z) (o : Nat) (to : oty Z o 10) (x1 : Int32) (x2 : Int32) (v : Nat → Int32) (fa : Nat → Nat → Int32) (hR : RC Z o v fa) : Met l yX10_heard wsX10_heard ({ frames := 2, cells := 1, slots := 6, locals := 40 }) (va_Pc [.ref o, .int x1, .int x2] (pcW (dC, dI) (oT cq) (oW cq Z) sz)) (va_Qi (fun (r : Int32) (u : oS) => oInv u ∧ oX [909, 1007, 2107] Z u ∧ (aHt x1.toInt (v 40).toInt (fa 9 x1.toNatClampNeg).toInt 0 (fa 7 x1.toNatClampNeg).toInt x2.toInt (v 38).toInt (v 41).toInt r.toInt ∧ rOo Z o u r (hapO Z o (voA Z o x1.toNatClampNeg) 9 3 x2 (-9) (-9) r u))) (fun u t => va_P (dC, dI) vwCl (oW cq u) t.heap ∧ va_K (dC, dI) vwCl (oT cq) t ∧ va_D (va_A (oW cq Z) sz) (oW cq u)) (va_A (oW cq Z) sz)) 1 6 (va_A (oW cq Z) sz) := by
  refine Met.ofW (cc := cX10_heard) (maxL := 5) (ret := (some .int)) (by decide +kernel) rfl ?_
  intro p e s m args below meth c s₁ B hml hv
  obtain ⟨rfl, hsz, hP, hK, hD0⟩ := hv
  have hx := B.exec
  have hb := B.bytes
  have hr := B.returns
  have hts := atoms_spec (ws := wsX10_heard) B.pre
  have hown : s.vm.findClass RX10 = some m.cls := findClass_of_methodNamed B.named
  have hlocks := B.notSynchronized
  subst hsz
  have hD := hD0.self (sz := s.heap.size)
  generalize hAe : va_A (oW cq Z) s.heap.size = A at hD ⊢
  have hA : ∀ q : Nat, s.heap.size ≤ q → A q := fun q h => by rw [← hAe]; exact Or.inr h
  have hS : va_S A s.heap s.heap [] := va_S.rf
  have hP : va_P (dC, dI) vwCl (oW cq Z) s.heap := hP
  have hl := lv_entry ([.ref o, .int x1, .int x2]) (n := 5) (Nat.le_of_ble_eq_true rfl)
  rw [lg_entry_eq]
  generalize (lg_sl ([.ref o, .int x1, .int x2]) ++ List.replicate (5 - (lg_sl ([.ref o, .int x1, .int x2])).length) Slot.unset).toArray = ls at hl ⊢
  have hl : lv_has ls 5 [(0, .ref o), (1, .int x1), (2, .int x2)] := hl
  obtain ⟨fn0, fn1, fn2, fn3, fn4⟩ := RC.n hR
  have fb38 : 0 ≤ (v 38).toInt ∧ (v 38).toInt ≤ 3000 := RC.V hR 38
  have fb39 : 0 ≤ (v 39).toInt ∧ (v 39).toInt ≤ 40 := RC.V hR 39
  have fb40 : 0 ≤ (v 40).toInt ∧ (v 40).toInt ≤ 20 := RC.V hR 40
  have fb43 : 0 ≤ (v 43).toInt ∧ (v 43).toInt ≤ 60 := RC.V hR 43
  have fb41 : 0 ≤ (v 41).toInt ∧ (v 41).toInt ≤ 200 := RC.V hR 41
  refine lv_aload_n hx hb dX10_heard_0 rfl (lv_at hl 0 rfl) ?_
  refine lv_iload_n hx hb dX10_heard_1 rfl (lv_at hl 1 rfl) ?_
  have hFc : ∀ q, va_A [] s.heap.size q → A q := pu_free hS hA
  obtain ⟨q_1, hq_1⟩ := og (cq := cq) to.1 (oE_10 to.2)
  refine va_callq (va_runV (As := [.int x1]) (rest := []) ⟨hx, hb, hml, hown, hts⟩ (c_X10_voyageAt_c l dC dI s.heap.size cq Z gI o to x1 v fa hR) (cwV 1 hts gX10_heard_X10_voyageAt rfl rfl rfl (by decide +kernel) ⟨(Nat.le_of_ble_eq_true rfl), (Nat.le_of_ble_eq_true rfl)⟩) (pr_V (r := (RX10, TX10, 16)) hP hK hD q_1 10 rfl hq_1) rfl rfl hl.1 rfl (lv_room (Nat.le_of_ble_eq_true rfl)) dX10_heard_2 ⟨(Nat.le_of_ble_eq_true rfl), (Nat.le_of_ble_eq_true rfl)⟩) hS (fun q _ h => hFc q h) hFc (fun r_3 u t H locs ht hvm w_2 hB hz1 hk1 hS => ?_)
  have hP := pu_keep hP hk1
  clear hk1 hz1 hvm hB ht hFc
  obtain ⟨hk_4, hx_5⟩ := w_2
  rcases r_3 with _ | b_6
  · refine W.eq (g2 := F0 m 5 ls [.null]) rfl ?_
    have hnr_3 := atF_n hx_5
    refine lv_astore_nN (lv' := [(3, .null), (0, .ref o), (1, .int x1), (2, .int x2)]) hx hb dX10_heard_5 rfl hl (by decide +kernel) rfl (fun ls hl => ?_)
    refine lv_aload_nN hx hb dX10_heard_6 rfl (lv_at hl 0 rfl) ?_
    refine lv_ifnonnullN hx hb dX10_heard_7 ?_
    refine lv_aload_n hx hb dX10_heard_10 rfl (lv_at hl 1 rfl) ?_
    refine lv_iconst (v := (-1)) hx hb dX10_heard_11 (by decide +kernel) ?_
    have hFc := o_free hD hS hA
    refine va_calli (va_runV (As := [.int (-1)]) (rest := []) ⟨hx, hb, hml, hown, hts⟩ (c_X10_refuse_c l dC dI H.size cq Z gI o to (-1) (by decide +kernel)) (cwV 1 hts gX10_heard_X10_refuse rfl rfl rfl (by decide +kernel) ⟨(Nat.le_of_ble_eq_true rfl), (Nat.le_of_ble_eq_true rfl)⟩) (pr_V (r := (RX10, TX10, 16)) hP hK hD q_1 10 rfl hq_1) rfl rfl hl.1 rfl (lv_room (Nat.le_of_ble_eq_true rfl)) dX10_heard_12 ⟨(Nat.le_of_ble_eq_true rfl), (Nat.le_of_ble_eq_true rfl)⟩) hS (fun q _ h => hFc q h) hFc (fun r_8 u t H locs ht hvm w_7 hB hz1 hk1 hS => ?_)
    obtain ⟨S_9, rfl⟩ : ∃ z, z = u := ⟨_, rfl⟩
    obtain ⟨hP1, hK1, hD1⟩ := hB
    rw [ht] at hP1
    have hP : va_P (dC, dI) vwCl (oW cq S_9) H := hP1
    have hD : va_D A (oW cq S_9) := hD1.weaken (fun _ _ _ h => hFc _ h)
    clear hP1 hK1 hD1 hk1 hz1 hvm ht hFc
    obtain ⟨hIS_9, XS_9, hb_10, hx_11⟩ := w_7
    have X_12 : oX [909, 1007, 2107] Z S_9 := oX.st oX.rf XS_9 (by decide +kernel)
    have g_13 : (oI S_9 o 0).toInt = (oI Z o 0).toInt := by rw [oX.i XS_9 to (by decide +kernel)]
    have g_14 : (oI S_9 o 7).toInt = (oI Z o 7).toInt := by rw [oX.i XS_9 to (by decide +kernel)]
    have rf_15 : r_8.toInt = -1 := by rw [hx_11.1]; decide
    refine W.widen (k := 1) (n := 6) (Nat.le_of_ble_eq_true rfl) (Nat.le_of_ble_eq_true rfl) ?_
    exact W.iret (v := r_8) hx hb hr (fun t ht hW => ⟨⟨r_8, S_9, rfl, ⟨hIS_9, X_12, ⟨by have kc0 : (0 : Int32).toInt = 0 := (by decide +kernel); have kc1 : (1 : Int32).toInt = 1 := (by decide +kernel); have kc2 : (2 : Int32).toInt = 2 := (by decide +kernel); (first | exact Or.inl ⟨by omega, by omega⟩ | (unfold aHt aHp; omega)), (Or.inl ⟨by omega, by rw [hx_11.1]; exact hx_11.2⟩)⟩⟩, ⟨by rw [ht]; exact hP, va_K.moved hW.alike hK, hD⟩⟩, hS.F ht⟩) hS.2.2 dX10_heard_15
  · refine W.eq (g2 := F0 m 5 ls [.ref b_6]) rfl ?_
    have tb_6 : oty Z b_6 9 := hk_4 b_6 rfl
    obtain ⟨hjb_6, ejb_6⟩ := atF_s hx_5
    have ljb_6 := ni_lt hjb_6.1 hjb_6.2
    have njb_6 := tn_i hjb_6.1
    have fVb_6 := RC.vo hR ljb_6
    rw [← ejb_6] at fVb_6
    obtain ⟨fy0b_6, fy1b_6, fy2b_6, fy3b_6, fy4b_6, fySb_6, fyLb_6, fyhb_6⟩ := fVb_6
    have fBb_6 : 0 ≤ (fa 7 x1.toNatClampNeg).toInt ∧ (fa 7 x1.toNatClampNeg).toInt ≤ 3000 := RC.A hR 7 _
    have fSb_6 := onc_i fySb_6
    have fLb_6 := onc_i fyLb_6
    rw [njb_6] at fy0b_6 fSb_6 fLb_6
    refine lv_astore_n (lv' := [(3, .ref b_6), (0, .ref o), (1, .int x1), (2, .int x2)]) hx hb dX10_heard_5 rfl hl (by decide +kernel) rfl (fun ls hl => ?_)
    refine lv_aload_n hx hb dX10_heard_6 rfl (lv_at hl 0 rfl) ?_
    refine lv_ifnonnull (tgt := 16) hx hb dX10_heard_7 (by decide +kernel) ?_
    refine lv_aload_n hx hb dX10_heard_16 rfl (lv_at hl 1 rfl) ?_
    refine lv_aload_n hx hb dX10_heard_17 rfl (lv_at hl 0 rfl) ?_
    refine lv_iload_n hx hb dX10_heard_18 rfl (lv_at hl 3 rfl) ?_
    refine lv_iconst (v := 0) hx hb dX10_heard_19 (by decide +kernel) ?_
    have hFc : ∀ q, va_A [] H.size q → A q := pu_free hS hA
    refine va_calli (va_runV (As := [.ref b_6, .int x2, .int 0]) (rest := []) ⟨hx, hb, hml, hown, hts⟩ (c_X10_voyageRefusal_c l dC dI H.size cq Z gI o to b_6 tb_6 x2 0) (cwV 3 hts gX10_heard_X10_voyageRefusal rfl rfl rfl (by decide +kernel) ⟨(Nat.le_of_ble_eq_true rfl), (Nat.le_of_ble_eq_true rfl)⟩) (pr_V (r := (RX10, TX10, 16)) hP hK hD q_1 10 rfl hq_1) rfl rfl hl.1 rfl (lv_room (Nat.le_of_ble_eq_true rfl)) dX10_heard_20 ⟨(Nat.le_of_ble_eq_true rfl), (Nat.le_of_ble_eq_true rfl)⟩) hS (fun q _ h => hFc q h) hFc (fun r_17 u t H locs ht hvm w_16 hB hz1 hk1 hS => ?_)
    have hP := pu_keep hP hk1
    clear hk1 hz1 hvm hB ht hFc
    obtain ⟨hb_18, hx_19⟩ := w_16
    have uN_20 := hx_19
    unfold vRf at uN_20
    refine lv_istore (lv' := [(4, .int r_17), (3, .ref b_6), (0, .ref o), (1, .int x1), (2, .int x2)]) hx hb dX10_heard_23 hl (by decide +kernel) rfl (fun ls hl => ?_)
    refine lv_iload hx hb dX10_heard_25 (lv_at hl 0 rfl) ?_
    refine lv_if_eq (tgt := 37) hx hb dX10_heard_27 (by decide +kernel) (fun c_21 => ?_) (fun c_21 => ?_)
    · have dc_21 := c_eq (a := r_17.toInt) (b := 0) rfl (by decide +kernel) c_21
      refine lv_aload_n hx hb dX10_heard_37 rfl (lv_at hl 1 rfl) ?_
      refine va_new (ci := 3) (fs := [.int 0, .int 0, .int 0, .int 0, .int 0, .null]) (C := RX3) (T := TX3) (N := 6) hx hb hts in_wsX10_heard_X3 tyX3 tyX3_ok hown (hts (.classLink RX10 142 RX3) iw_X10_heard_1) (hts (.instantiable RX3 6) iw_X10_heard_2) (hts (.initialized RX3) iw_X10_heard_3) hK hP hD hS hA rfl (fun j hj => by rcases (show j = 0 ∨ j = 1 ∨ j = 2 ∨ j = 3 ∨ j = 4 ∨ j = 5 by omega) with rfl | rfl | rfl | rfl | rfl | rfl <;> rfl) (Nat.le_of_ble_eq_true rfl) (Nat.le_of_ble_eq_true rfl) dX10_heard_38 (fun q_22 H hP1 hD1 hS => ?_)
      have hnq_22 := add_q hD1
      obtain ⟨S_23, eS_23⟩ : ∃ zq, zq = addO Z q_22 33 := ⟨_, rfl⟩
      have hP : va_P (dC, dI) vwCl (oW cq S_23) H := by rw [eS_23]; exact cP (onew hD1 (by rw [oE_33 add_K, add_I, add_P]; rfl)) hP1
      have hD : va_D A (oW cq S_23) := by rw [eS_23]; exact cD (onew hD1 (by rw [oE_33 add_K, add_I, add_P]; rfl)) hD1
      clear hP1 hD1
      have hIS_23 : oInv S_23 := by rw [eS_23]; exact oInv.add gI hnq_22 (by decide +kernel)
      have XS_23 : oX [] Z S_23 := by rw [eS_23]; exact oX.add hnq_22
      have nzq_22 : q_22 ∉ oL Z := hnq_22
      have g_24 : (oI S_23 o 0).toInt = (oI Z o 0).toInt := by rw [eS_23, add_In hnq_22 to.1]
      have g_25 : (oI S_23 o 7).toInt = (oI Z o 7).toInt := by rw [eS_23, add_In hnq_22 to.1]
      have X_26 : oX [909, 1007, 2107] Z S_23 := oX.st oX.rf XS_23 (by decide +kernel)
      have tq_22 : oty S_23 q_22 33 := by rw [eS_23]; exact add_ty
      refine W.widen (k := 1) (n := 6) (Nat.le_of_ble_eq_true rfl) (Nat.le_of_ble_eq_true rfl) ?_
      refine lv_dup hx hb dX10_heard_41 rfl ?_
      refine lv_iconst (v := 3) hx hb dX10_heard_42 (by decide +kernel) ?_
      refine lv_iload_n hx hb dX10_heard_43 rfl (lv_at hl 4 rfl) ?_
      refine lv_aload_n hx hb dX10_heard_44 rfl (lv_at hl 2 rfl) ?_
      have t_27 : oty S_23 o 10 := (oX.ty XS_23 to)
      obtain ⟨q_28, hq_28⟩ := og (cq := cq) t_27.1 (oE_10 t_27.2)
      refine va_get (D := (dC, dI)) (ci := 10) (v := .int (oI S_23 o 0)) (C := RX10) (T := TX10) (N := 16) hx hb hts in_wsX10_heard_X10 hown hK hP q_28 hq_28 rfl 0 (by decide +kernel) (hts (.fieldLink RX10 73 "ShipOffice" "now" "I") iw_X10_heard_4) (fun _ h9 => h9) rfl dX10_heard_45 ?_
      refine lv_topi (fun x_29 ex_29 => ?_)
      have hx_29 : 0 ≤ x_29.toInt ∧ x_29.toInt ≤ 3000 := iv_of ex_29 (oInv.iv hIS_23 t_27.2 rfl rfl)
      have gx_29 : x_29.toInt = (oI S_23 o 0).toInt := iv_to ex_29
      clear ex_29
      refine lv_bipush (v := (-9)) hx hb dX10_heard_48 (by decide +kernel) ?_
      refine lv_bipush (v := (-9)) hx hb dX10_heard_50 (by decide +kernel) ?_
      refine lv_aload_n hx hb dX10_heard_52 rfl (lv_at hl 1 rfl) ?_
      have t_30 : oty S_23 b_6 9 := (oX.ty XS_23 tb_6)
      obtain ⟨q_31, hq_31⟩ := og (cq := cq) t_30.1 (oE_9 t_30.2)
      rcases hb_33 : oP S_23 b_6 9 with _ | b_32
      · refine va_get (D := (dC, dI)) (ci := 9) (v := .null) (C := RX9) (T := TX9) (N := 10) hx hb hts in_wsX10_heard_X9 hown hK hP q_31 hq_31 rfl 9 (by decide +kernel) (hts (.fieldLink RX10 144 "ShipOffice$Voyage" "heardOf" "LShipOffice$Happening;") iw_X10_heard_5) (fun _ h9 => h9) (o_rd hb_33) dX10_heard_53 ?_
        have hFc := o_free hD hS hA
        refine va_callv (va_runI (As := [.int 3, .int x2, .int x_29, .int (-9), .int (-9), .null]) (rest := [.ref q_22, .ref b_6]) ⟨hx, hb, hml, hown, hts⟩ (c_X3_init_c l dC dI H.size cq S_23 hIS_23 q_22 tq_22 3 x2 x_29 (-9) (-9) none (fun b h => by cases h) (Or.inl (by decide +kernel)) (fun b h => by cases h) (fun j => by rw [eS_23, add_I]) (fun j => by rw [eS_23, add_P])) (cwI 6 hts gX10_heard_X3_init rfl rfl rfl (hts (.initialized RX3) iw_X10_heard_3) (hts (.methodLink RX10 148 yX3_init) iw_X10_heard_6) (hts (.instanceMethod yX3_init) iw_X10_heard_7) rfl (by decide +kernel) ⟨(Nat.le_of_ble_eq_true rfl), (Nat.le_of_ble_eq_true rfl)⟩) (pr_S hP hK hD) rfl rfl hl.1 rfl (lv_room (Nat.le_of_ble_eq_true rfl)) dX10_heard_56 ⟨(Nat.le_of_ble_eq_true rfl), (Nat.le_of_ble_eq_true rfl)⟩) hS (fun q _ h => hFc q h) hFc (fun u t H locs ht hvm w_34 hB hz1 hk1 hS => ?_)
        obtain ⟨S_36, rfl⟩ : ∃ z, z = u := ⟨_, rfl⟩
        obtain ⟨hP1, hK1, hD1⟩ := hB
        rw [ht] at hP1
        have hP : va_P (dC, dI) vwCl (oW cq S_36) H := hP1
        have hD : va_D A (oW cq S_36) := hD1.weaken (fun _ _ _ h => hFc _ h)
        clear hP1 hK1 hD1 hk1 hz1 hvm ht hFc
        obtain ⟨hIS_36, XS_36, hx_37⟩ := w_34
        obtain ⟨hxS_36, hcS_36⟩ := hx_37
        have X_38 : oX [909, 1007, 2107] Z S_36 := oX.c X_26 XS_36 nzq_22 (by decide +kernel)
        have g_39 : (oI S_36 o 0).toInt = (oI S_23 o 0).toInt := by rw [oXc.i XS_36 (ty_ne t_27 tq_22 (by decide +kernel)) t_27 (by decide +kernel)]
        have g_40 : (oI S_36 o 7).toInt = (oI S_23 o 7).toInt := by rw [oXc.i XS_36 (ty_ne t_27 tq_22 (by decide +kernel)) t_27 (by decide +kernel)]
        have fzS_36 : oX [] Z S_36 := oX.c (W := []) (oX.st oX.rf XS_23 (by decide +kernel)) XS_36 nzq_22 (by decide +kernel)
        have t_41 : oty S_36 b_6 9 := (oXc.ty XS_36 (ty_ne t_30 tq_22 (by decide +kernel)) t_30)
        obtain ⟨q_42, hq_42⟩ := og (cq := cq) t_41.1 (oE_9 t_41.2)
        refine va_put (D := (dC, dI)) (ci := 9) (v := .ref q_22) (ty := .object "ShipOffice$Happening") (C := RX9) (T := TX9) (N := 10) hx hb hts in_wsX10_heard_X9 tyX9 tyX9_ok nmX9 hown hK hP hD hS q_42 hq_42 rfl 9 (by decide +kernel) (hts (.fieldLink RX10 144 "ShipOffice$Voyage" "heardOf" "LShipOffice$Happening;") iw_X10_heard_5) (fun _ h9 => h9) rfl (by decide +kernel) rfl rfl (Nat.le_of_ble_eq_true rfl) dX10_heard_59 (fun H locs hP1 hD1 hS => ?_)
        obtain ⟨S_43, eS_43⟩ : ∃ zq, zq = setP S_36 b_6 9 (some q_22) := ⟨_, rfl⟩
        have hP : va_P (dC, dI) vwCl (oW cq S_43) H := by rw [eS_43]; exact cP (oset t_41.1 hq_42 hD rfl (he_9_9 t_41.2) neP) hP1
        have hD : va_D A (oW cq S_43) := by rw [eS_43]; exact cD (oset t_41.1 hq_42 hD rfl (he_9_9 t_41.2) neP) hD1
        clear hP1 hD1
        have hIS_43 : oInv S_43 := by rw [eS_43]; exact oInv.P (k := 9) hIS_36 t_41.2 (by decide +kernel) rfl (by decide +kernel) hxS_36 (by decide +kernel)
        have XS_43 : oX [909] S_36 S_43 := by rw [eS_43]; exact oX.P (k := 9) (key := 909) t_41.2 rfl (List.mem_singleton.mpr rfl)
        have X_44 : oX [909, 1007, 2107] Z S_43 := oX.st X_38 XS_43 (by decide +kernel)
        have g_45 : (oI S_43 o 0).toInt = (oI S_36 o 0).toInt := by rw [eS_43]; rfl
        have g_46 : (oI S_43 o 7).toInt = (oI S_36 o 7).toInt := by rw [eS_43]; rfl
        refine lv_aload_n hx hb dX10_heard_62 rfl (lv_at hl 2 rfl) ?_
        refine lv_dup hx hb dX10_heard_63 rfl ?_
        have t_47 : oty S_43 o 10 := (oX.ty XS_43 (oXc.ty XS_36 (ty_ne t_27 tq_22 (by decide +kernel)) t_27))
        obtain ⟨q_48, hq_48⟩ := og (cq := cq) t_47.1 (oE_10 t_47.2)
        refine va_get (D := (dC, dI)) (ci := 10) (v := .int (oI S_43 o 7)) (C := RX10) (T := TX10) (N := 16) hx hb hts in_wsX10_heard_X10 hown hK hP q_48 hq_48 rfl 7 (by decide +kernel) (hts (.fieldLink RX10 139 "ShipOffice" "happeningCount" "I") iw_X10_heard_8) (fun _ h9 => h9) rfl dX10_heard_64 ?_
        refine lv_topi (fun x_49 ex_49 => ?_)
        have hx_49 : 0 ≤ x_49.toInt ∧ x_49.toInt ≤ 201 := iv_of ex_49 (by omega)
        have gx_49 : x_49.toInt = (oI S_43 o 7).toInt := iv_to ex_49
        clear ex_49
        refine lv_iconst (v := 1) hx hb dX10_heard_67 (by decide +kernel) ?_
        refine lv_iadd hx hb dX10_heard_68 ?_
        refine lv_topi (fun x_50 ex_50 => ?_)
        have hx_50 : x_50.toInt = x_49.toInt + 1 := (iv_to ex_50).trans (ad_i rfl (by decide +kernel) (by omega) (by omega))
        clear ex_50
        refine va_put (D := (dC, dI)) (ci := 10) (v := .int x_50) (ty := .int) (C := RX10) (T := TX10) (N := 16) hx hb hts in_wsX10_heard_X10 tyX10 tyX10_ok nmX10 hown hK hP hD hS q_48 hq_48 rfl 7 (by decide +kernel) (hts (.fieldLink RX10 139 "ShipOffice" "happeningCount" "I") iw_X10_heard_8) (fun _ h9 => h9) rfl (by decide +kernel) rfl rfl (Nat.le_of_ble_eq_true rfl) dX10_heard_69 (fun H locs hP1 hD1 hS => ?_)
        obtain ⟨S_51, eS_51⟩ : ∃ zq, zq = setI S_43 o 7 x_50 := ⟨_, rfl⟩
        have hP : va_P (dC, dI) vwCl (oW cq S_51) H := by rw [eS_51]; exact cP (oset t_47.1 hq_48 hD rfl (he_10_7 t_47.2) neI) hP1
        have hD : va_D A (oW cq S_51) := by rw [eS_51]; exact cD (oset t_47.1 hq_48 hD rfl (he_10_7 t_47.2) neI) hD1
        clear hP1 hD1
        have hIS_51 : oInv S_51 := by rw [eS_51]; exact oInv.I0 (k := 10) (lo := -2147483648) (hi := 2147483647) hIS_43 t_47.2 (by decide +kernel) rfl rfl rfl (iv_all _)
        have XS_51 : oX [1007] S_43 S_51 := by rw [eS_51]; exact oX.I (k := 10) (key := 1007) t_47.2 rfl (List.mem_singleton.mpr rfl)
        have X_52 : oX [909, 1007, 2107] Z S_51 := oX.st X_44 XS_51 (by decide +kernel)
        have g_53 : (oI S_51 o 0).toInt = (oI S_43 o 0).toInt := by rw [eS_51, setI_ne (by decide +kernel)]
        have g_54 : (oI S_51 o 7).toInt = x_50.toInt := by rw [eS_51, setI_same]
        refine lv_aload_n hx hb dX10_heard_72 rfl (lv_at hl 2 rfl) ?_
        have t_55 : oty S_51 o 10 := (oX.ty XS_51 t_47)
        obtain ⟨q_56, hq_56⟩ := og (cq := cq) t_55.1 (oE_10 t_55.2)
        refine va_get (D := (dC, dI)) (ci := 10) (v := .int (oI S_51 o 7)) (C := RX10) (T := TX10) (N := 16) hx hb hts in_wsX10_heard_X10 hown hK hP q_56 hq_56 rfl 7 (by decide +kernel) (hts (.fieldLink RX10 139 "ShipOffice" "happeningCount" "I") iw_X10_heard_8) (fun _ h9 => h9) rfl dX10_heard_73 ?_
        refine lv_topi (fun x_57 ex_57 => ?_)
        have hx_57 : 0 ≤ x_57.toInt ∧ x_57.toInt ≤ 201 := iv_of ex_57 (by omega)
        have gx_57 : x_57.toInt = (oI S_51 o 7).toInt := iv_to ex_57
        clear ex_57
        exact W.iret (v := x_57) hx hb hr (fun t ht hW => ⟨⟨x_57, S_51, rfl, ⟨hIS_51, X_52, ⟨by try clear fSb_6; try clear fLb_6; have kc0 : (0 : Int32).toInt = 0 := (by decide +kernel); have kc1 : (1 : Int32).toInt = 1 := (by decide +kernel); have kc2 : (2 : Int32).toInt = 2 := (by decide +kernel); have hq_ := hx_19; unfold vRf at hq_; rcases hq_ with hq_ | hq_ | hq_ | hq_; (first | (exfalso; omega) | (unfold aHt aHp; omega)); (first | (exfalso; omega) | (unfold aHt aHp; omega)); (first | (exfalso; omega) | (unfold aHt aHp; omega)); (first | exact Or.inr (Or.inr (⟨by omega, by omega, by omega, Or.inr (Or.inr (⟨by omega, by omega, by omega, by omega⟩))⟩)) | (unfold aHt aHp; omega)), Or.inr ⟨by try clear fSb_6; try clear fLb_6; have kc0 : (0 : Int32).toInt = 0 := (by decide +kernel); have kc1 : (1 : Int32).toInt = 1 := (by decide +kernel); have kc2 : (2 : Int32).toInt = 2 := (by decide +kernel); have hq_ := hx_19; unfold vRf at hq_; omega, (by rw [← ejb_6]; exact ⟨q_22, S_36, nzq_22, fzS_36, hxS_36, (by obtain ⟨h1, h2, h3, h4, h5, h6⟩ := hcS_36; exact ⟨h1, h2, h3.trans (Int32.toInt_inj.mp (by omega)), h4, h5, h6.trans (hb_33.symm.trans (oX.p XS_23 tb_6 (by decide +kernel)))⟩), by omega, by rw [eS_51, eS_43, (show x_50 = x_57 from Int32.toInt_inj.mp (by omega))]⟩)⟩⟩⟩, ⟨by rw [ht]; exact hP, va_K.moved hW.alike hK, hD⟩⟩, hS.F ht⟩) hS.2.2 dX10_heard_76
      · refine va_get (D := (dC, dI)) (ci := 9) (v := .ref b_32) (C := RX9) (T := TX9) (N := 10) hx hb hts in_wsX10_heard_X9 hown hK hP q_31 hq_31 rfl 9 (by decide +kernel) (hts (.fieldLink RX10 144 "ShipOffice$Voyage" "heardOf" "LShipOffice$Happening;") iw_X10_heard_5) (fun _ h9 => h9) (o_rd hb_33) dX10_heard_53 ?_
        have tb_32 : oty S_23 b_32 3 := oInv.rd hIS_23 t_30.2 hb_33 rfl rfl
        have hFc := o_free hD hS hA
        refine va_callv (va_runI (As := [.int 3, .int x2, .int x_29, .int (-9), .int (-9), .ref b_32]) (rest := [.ref q_22, .ref b_6]) ⟨hx, hb, hml, hown, hts⟩ (c_X3_init_c l dC dI H.size cq S_23 hIS_23 q_22 tq_22 3 x2 x_29 (-9) (-9) (some b_32) (fun b h => by cases h; exact tb_32) (Or.inl (by decide +kernel)) (fun b h => by cases h; have hm := tb_32.1; have nb := ty_ne tb_32 tq_22 (by decide +kernel); rw [eS_23] at hm ⊢; exact add_G2 hnq_22 hm nb) (fun j => by rw [eS_23, add_I]) (fun j => by rw [eS_23, add_P])) (cwI 6 hts gX10_heard_X3_init rfl rfl rfl (hts (.initialized RX3) iw_X10_heard_3) (hts (.methodLink RX10 148 yX3_init) iw_X10_heard_6) (hts (.instanceMethod yX3_init) iw_X10_heard_7) rfl (by decide +kernel) ⟨(Nat.le_of_ble_eq_true rfl), (Nat.le_of_ble_eq_true rfl)⟩) (pr_S hP hK hD) rfl rfl hl.1 rfl (lv_room (Nat.le_of_ble_eq_true rfl)) dX10_heard_56 ⟨(Nat.le_of_ble_eq_true rfl), (Nat.le_of_ble_eq_true rfl)⟩) hS (fun q _ h => hFc q h) hFc (fun u t H locs ht hvm w_58 hB hz1 hk1 hS => ?_)
        obtain ⟨S_60, rfl⟩ : ∃ z, z = u := ⟨_, rfl⟩
        obtain ⟨hP1, hK1, hD1⟩ := hB
        rw [ht] at hP1
        have hP : va_P (dC, dI) vwCl (oW cq S_60) H := hP1
        have hD : va_D A (oW cq S_60) := hD1.weaken (fun _ _ _ h => hFc _ h)
        clear hP1 hK1 hD1 hk1 hz1 hvm ht hFc
        obtain ⟨hIS_60, XS_60, hx_61⟩ := w_58
        obtain ⟨hxS_60, hcS_60⟩ := hx_61
        have X_62 : oX [909, 1007, 2107] Z S_60 := oX.c X_26 XS_60 nzq_22 (by decide +kernel)
        have g_63 : (oI S_60 o 0).toInt = (oI S_23 o 0).toInt := by rw [oXc.i XS_60 (ty_ne t_27 tq_22 (by decide +kernel)) t_27 (by decide +kernel)]
        have g_64 : (oI S_60 o 7).toInt = (oI S_23 o 7).toInt := by rw [oXc.i XS_60 (ty_ne t_27 tq_22 (by decide +kernel)) t_27 (by decide +kernel)]
        have fzS_60 : oX [] Z S_60 := oX.c (W := []) (oX.st oX.rf XS_23 (by decide +kernel)) XS_60 nzq_22 (by decide +kernel)
        have t_65 : oty S_60 b_6 9 := (oXc.ty XS_60 (ty_ne t_30 tq_22 (by decide +kernel)) t_30)
        obtain ⟨q_66, hq_66⟩ := og (cq := cq) t_65.1 (oE_9 t_65.2)
        refine va_put (D := (dC, dI)) (ci := 9) (v := .ref q_22) (ty := .object "ShipOffice$Happening") (C := RX9) (T := TX9) (N := 10) hx hb hts in_wsX10_heard_X9 tyX9 tyX9_ok nmX9 hown hK hP hD hS q_66 hq_66 rfl 9 (by decide +kernel) (hts (.fieldLink RX10 144 "ShipOffice$Voyage" "heardOf" "LShipOffice$Happening;") iw_X10_heard_5) (fun _ h9 => h9) rfl (by decide +kernel) rfl rfl (Nat.le_of_ble_eq_true rfl) dX10_heard_59 (fun H locs hP1 hD1 hS => ?_)
        obtain ⟨S_67, eS_67⟩ : ∃ zq, zq = setP S_60 b_6 9 (some q_22) := ⟨_, rfl⟩
        have hP : va_P (dC, dI) vwCl (oW cq S_67) H := by rw [eS_67]; exact cP (oset t_65.1 hq_66 hD rfl (he_9_9 t_65.2) neP) hP1
        have hD : va_D A (oW cq S_67) := by rw [eS_67]; exact cD (oset t_65.1 hq_66 hD rfl (he_9_9 t_65.2) neP) hD1
        clear hP1 hD1
        have hIS_67 : oInv S_67 := by rw [eS_67]; exact oInv.P (k := 9) hIS_60 t_65.2 (by decide +kernel) rfl (by decide +kernel) hxS_60 (by decide +kernel)
        have XS_67 : oX [909] S_60 S_67 := by rw [eS_67]; exact oX.P (k := 9) (key := 909) t_65.2 rfl (List.mem_singleton.mpr rfl)
        have X_68 : oX [909, 1007, 2107] Z S_67 := oX.st X_62 XS_67 (by decide +kernel)
        have g_69 : (oI S_67 o 0).toInt = (oI S_60 o 0).toInt := by rw [eS_67]; rfl
        have g_70 : (oI S_67 o 7).toInt = (oI S_60 o 7).toInt := by rw [eS_67]; rfl
        refine lv_aload_n hx hb dX10_heard_62 rfl (lv_at hl 2 rfl) ?_
        refine lv_dup hx hb dX10_heard_63 rfl ?_
        have t_71 : oty S_67 o 10 := (oX.ty XS_67 (oXc.ty XS_60 (ty_ne t_27 tq_22 (by decide +kernel)) t_27))
        obtain ⟨q_72, hq_72⟩ := og (cq := cq) t_71.1 (oE_10 t_71.2)
        refine va_get (D := (dC, dI)) (ci := 10) (v := .int (oI S_67 o 7)) (C := RX10) (T := TX10) (N := 16) hx hb hts in_wsX10_heard_X10 hown hK hP q_72 hq_72 rfl 7 (by decide +kernel) (hts (.fieldLink RX10 139 "ShipOffice" "happeningCount" "I") iw_X10_heard_8) (fun _ h9 => h9) rfl dX10_heard_64 ?_
        refine lv_topi (fun x_73 ex_73 => ?_)
        have hx_73 : 0 ≤ x_73.toInt ∧ x_73.toInt ≤ 201 := iv_of ex_73 (by omega)
        have gx_73 : x_73.toInt = (oI S_67 o 7).toInt := iv_to ex_73
        clear ex_73
        refine lv_iconst (v := 1) hx hb dX10_heard_67 (by decide +kernel) ?_
        refine lv_iadd hx hb dX10_heard_68 ?_
        refine lv_topi (fun x_74 ex_74 => ?_)
        have hx_74 : x_74.toInt = x_73.toInt + 1 := (iv_to ex_74).trans (ad_i rfl (by decide +kernel) (by omega) (by omega))
        clear ex_74
        refine va_put (D := (dC, dI)) (ci := 10) (v := .int x_74) (ty := .int) (C := RX10) (T := TX10) (N := 16) hx hb hts in_wsX10_heard_X10 tyX10 tyX10_ok nmX10 hown hK hP hD hS q_72 hq_72 rfl 7 (by decide +kernel) (hts (.fieldLink RX10 139 "ShipOffice" "happeningCount" "I") iw_X10_heard_8) (fun _ h9 => h9) rfl (by decide +kernel) rfl rfl (Nat.le_of_ble_eq_true rfl) dX10_heard_69 (fun H locs hP1 hD1 hS => ?_)
        obtain ⟨S_75, eS_75⟩ : ∃ zq, zq = setI S_67 o 7 x_74 := ⟨_, rfl⟩
        have hP : va_P (dC, dI) vwCl (oW cq S_75) H := by rw [eS_75]; exact cP (oset t_71.1 hq_72 hD rfl (he_10_7 t_71.2) neI) hP1
        have hD : va_D A (oW cq S_75) := by rw [eS_75]; exact cD (oset t_71.1 hq_72 hD rfl (he_10_7 t_71.2) neI) hD1
        clear hP1 hD1
        have hIS_75 : oInv S_75 := by rw [eS_75]; exact oInv.I0 (k := 10) (lo := -2147483648) (hi := 2147483647) hIS_67 t_71.2 (by decide +kernel) rfl rfl rfl (iv_all _)
        have XS_75 : oX [1007] S_67 S_75 := by rw [eS_75]; exact oX.I (k := 10) (key := 1007) t_71.2 rfl (List.mem_singleton.mpr rfl)
        have X_76 : oX [909, 1007, 2107] Z S_75 := oX.st X_68 XS_75 (by decide +kernel)
        have g_77 : (oI S_75 o 0).toInt = (oI S_67 o 0).toInt := by rw [eS_75, setI_ne (by decide +kernel)]
        have g_78 : (oI S_75 o 7).toInt = x_74.toInt := by rw [eS_75, setI_same]
        refine lv_aload_n hx hb dX10_heard_72 rfl (lv_at hl 2 rfl) ?_
        have t_79 : oty S_75 o 10 := (oX.ty XS_75 t_71)
        obtain ⟨q_80, hq_80⟩ := og (cq := cq) t_79.1 (oE_10 t_79.2)
        refine va_get (D := (dC, dI)) (ci := 10) (v := .int (oI S_75 o 7)) (C := RX10) (T := TX10) (N := 16) hx hb hts in_wsX10_heard_X10 hown hK hP q_80 hq_80 rfl 7 (by decide +kernel) (hts (.fieldLink RX10 139 "ShipOffice" "happeningCount" "I") iw_X10_heard_8) (fun _ h9 => h9) rfl dX10_heard_73 ?_
        refine lv_topi (fun x_81 ex_81 => ?_)
        have hx_81 : 0 ≤ x_81.toInt ∧ x_81.toInt ≤ 201 := iv_of ex_81 (by omega)
        have gx_81 : x_81.toInt = (oI S_75 o 7).toInt := iv_to ex_81
        clear ex_81
        exact W.iret (v := x_81) hx hb hr (fun t ht hW => ⟨⟨x_81, S_75, rfl, ⟨hIS_75, X_76, ⟨by try clear fSb_6; try clear fLb_6; have kc0 : (0 : Int32).toInt = 0 := (by decide +kernel); have kc1 : (1 : Int32).toInt = 1 := (by decide +kernel); have kc2 : (2 : Int32).toInt = 2 := (by decide +kernel); have hq_ := hx_19; unfold vRf at hq_; rcases hq_ with hq_ | hq_ | hq_ | hq_; (first | (exfalso; omega) | (unfold aHt aHp; omega)); (first | (exfalso; omega) | (unfold aHt aHp; omega)); (first | (exfalso; omega) | (unfold aHt aHp; omega)); (first | exact Or.inr (Or.inr (⟨by omega, by omega, by omega, Or.inr (Or.inr (⟨by omega, by omega, by omega, by omega⟩))⟩)) | (unfold aHt aHp; omega)), Or.inr ⟨by try clear fSb_6; try clear fLb_6; have kc0 : (0 : Int32).toInt = 0 := (by decide +kernel); have kc1 : (1 : Int32).toInt = 1 := (by decide +kernel); have kc2 : (2 : Int32).toInt = 2 := (by decide +kernel); have hq_ := hx_19; unfold vRf at hq_; omega, (by rw [← ejb_6]; exact ⟨q_22, S_60, nzq_22, fzS_60, hxS_60, (by obtain ⟨h1, h2, h3, h4, h5, h6⟩ := hcS_60; exact ⟨h1, h2, h3.trans (Int32.toInt_inj.mp (by omega)), h4, h5, h6.trans (hb_33.symm.trans (oX.p XS_23 tb_6 (by decide +kernel)))⟩), by omega, by rw [eS_75, eS_67, (show x_74 = x_81 from Int32.toInt_inj.mp (by omega))]⟩)⟩⟩⟩, ⟨by rw [ht]; exact hP, va_K.moved hW.alike hK, hD⟩⟩, hS.F ht⟩) hS.2.2 dX10_heard_76
    · have dc_21 := c_ne (a := r_17.toInt) (b := 0) rfl (by decide +kernel) c_21
      refine lv_aload_n hx hb dX10_heard_30 rfl (lv_at hl 2 rfl) ?_
      refine lv_iload hx hb dX10_heard_31 (lv_at hl 0 rfl) ?_
      have hFc := o_free hD hS hA
      refine va_calli (va_runV (As := [.int r_17]) (rest := []) ⟨hx, hb, hml, hown, hts⟩ (c_X10_refuse_c l dC dI H.size cq Z gI o to r_17 (by omega)) (cwV 1 hts gX10_heard_X10_refuse rfl rfl rfl (by decide +kernel) ⟨(Nat.le_of_ble_eq_true rfl), (Nat.le_of_ble_eq_true rfl)⟩) (pr_V (r := (RX10, TX10, 16)) hP hK hD q_1 10 rfl hq_1) rfl rfl hl.1 rfl (lv_room (Nat.le_of_ble_eq_true rfl)) dX10_heard_33 ⟨(Nat.le_of_ble_eq_true rfl), (Nat.le_of_ble_eq_true rfl)⟩) hS (fun q _ h => hFc q h) hFc (fun r_83 u t H locs ht hvm w_82 hB hz1 hk1 hS => ?_)
      obtain ⟨S_84, rfl⟩ : ∃ z, z = u := ⟨_, rfl⟩
      obtain ⟨hP1, hK1, hD1⟩ := hB
      rw [ht] at hP1
      have hP : va_P (dC, dI) vwCl (oW cq S_84) H := hP1
      have hD : va_D A (oW cq S_84) := hD1.weaken (fun _ _ _ h => hFc _ h)
      clear hP1 hK1 hD1 hk1 hz1 hvm ht hFc
      obtain ⟨hIS_84, XS_84, hb_85, hx_86⟩ := w_82
      have X_87 : oX [909, 1007, 2107] Z S_84 := oX.st oX.rf XS_84 (by decide +kernel)
      have g_88 : (oI S_84 o 0).toInt = (oI Z o 0).toInt := by rw [oX.i XS_84 to (by decide +kernel)]
      have g_89 : (oI S_84 o 7).toInt = (oI Z o 7).toInt := by rw [oX.i XS_84 to (by decide +kernel)]
      have rf_90 : r_83.toInt = r_17.toInt := by rw [hx_86.1]
      refine W.widen (k := 1) (n := 6) (Nat.le_of_ble_eq_true rfl) (Nat.le_of_ble_eq_true rfl) ?_
      exact W.iret (v := r_83) hx hb hr (fun t ht hW => ⟨⟨r_83, S_84, rfl, ⟨hIS_84, X_87, ⟨by try clear fSb_6; try clear fLb_6; have kc0 : (0 : Int32).toInt = 0 := (by decide +kernel); have kc1 : (1 : Int32).toInt = 1 := (by decide +kernel); have kc2 : (2 : Int32).toInt = 2 := (by decide +kernel); have hq_ := hx_19; unfold vRf at hq_; rcases hq_ with hq_ | hq_ | hq_ | hq_; (first | exact Or.inr (Or.inl ⟨by omega, by omega, by omega⟩) | (unfold aHt aHp; omega)); (first | exact Or.inr (Or.inr (⟨by omega, by omega, by omega, Or.inl ⟨by omega, by omega⟩⟩)) | (unfold aHt aHp; omega)); (first | exact Or.inr (Or.inr (⟨by omega, by omega, by omega, Or.inr (Or.inl ⟨by omega, by omega, by omega⟩)⟩)) | (unfold aHt aHp; omega)); (first | (exfalso; omega) | (unfold aHt aHp; omega)), (Or.inl ⟨by omega, by rw [hx_86.1]; exact hx_86.2⟩)⟩⟩, ⟨by rw [ht]; exact hP, va_K.moved hW.alike hK, hD⟩⟩, hS.F ht⟩) hS.2.2 dX10_heard_36
