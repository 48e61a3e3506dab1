


set_option maxHeartbeats 4000000 in
set_option maxRecDepth 100000 in
theorem c_X3_init_c (l : Launch) (dC : Nat → ClassId) (dI : Nat → Nat → Nat) (sz : Nat) (cq : Nat → ClassId) (Z : oS) (gI : oInv Z) (o : Nat) (to : oty Z o 33) (x1 : Int32) (x2 : Int32) (x3 : Int32) (x4 : Int32) (x5 : Int32) (r6 : Option Nat) (tr6 : ∀ b, r6 = some b → oty Z b 3) (hw : (x4.toInt = -9 ∨ (0 ≤ x5.toInt ∧ x5.toInt ≤ 9))) (hg : ∀ b, r6 = some b → oG Z b < oG Z o) (hz : ∀ j, oI Z o j = 0) (hp : ∀ j, oP Z o j = none) : Met l yX3_init wsX3_init ({ frames := 1, cells := 0, slots := 0, locals := 14 }) (va_Pc [.ref o, .int x1, .int x2, .int x3, .int x4, .int x5, va_rf r6] (pcW (dC, dI) (oT cq) (oW cq Z) sz)) (va_Qv (fun (u : oS) => oInv u ∧ oXc ([] : List Nat) o Z u ∧ (oty u o 3 ∧ oI u o 0 = x1 ∧ oI u o 1 = x2 ∧ oI u o 2 = x3 ∧ oI u o 3 = x4 ∧ oI u o 4 = x5 ∧ oP u o 5 = r6)) (fun u t => va_P (dC, dI) vwCl (oW cq u) t.heap ∧ va_K (dC, dI) vwCl (oT cq) t ∧ va_D (va_A (oW cq Z) sz) (oW cq u)) (va_A (oW cq Z) sz)) 0 0 (va_A (oW cq Z) sz) := by
  rcases r6 with _ | br6
  · refine Met.ofW (cc := cX3_init) (maxL := 7) (ret := none) (by decide +kernel) rfl ?_
    intro p e s m args below meth c s₁ B hml hv
    obtain ⟨rfl, hsz, hP, hK, hD0⟩ := hv
    have hx := B.exec
    have hb := B.bytes
    have hr := B.returns
    have hts := atoms_spec (ws := wsX3_init) B.pre
    have hown : s.vm.findClass RX3 = some m.cls := findClass_of_methodNamed B.named
    have hlocks := B.notSynchronized
    have hin : meth.name = "<init>" := (name_of_methodNamed B.named B.method).1
    subst hsz
    have hD := hD0.self (sz := s.heap.size)
    generalize hAe : va_A (oW cq Z) s.heap.size = A at hD ⊢
    have hA : ∀ q : Nat, s.heap.size ≤ q → A q := fun q h => by rw [← hAe]; exact Or.inr h
    have hS : va_S A s.heap s.heap [] := va_S.rf
    have hP : va_P (dC, dI) vwCl (oW cq Z) s.heap := hP
    have hl := lv_entry ([.ref o, .int x1, .int x2, .int x3, .int x4, .int x5, va_rf none]) (n := 7) (Nat.le_of_ble_eq_true rfl)
    rw [lg_entry_eq]
    generalize (lg_sl ([.ref o, .int x1, .int x2, .int x3, .int x4, .int x5, va_rf none]) ++ List.replicate (7 - (lg_sl ([.ref o, .int x1, .int x2, .int x3, .int x4, .int x5, va_rf none])).length) Slot.unset).toArray = ls at hl ⊢
    have hl : lv_has ls 7 [(0, .ref o), (1, .int x1), (2, .int x2), (3, .int x3), (4, .int x4), (5, .int x5), (6, va_rf none)] := hl
    have hl : lv_has ls 7 [(0, .ref o), (1, .int x1), (2, .int x2), (3, .int x3), (4, .int x4), (5, .int x5), (6, .null)] := hl
    refine lv_aload_n hx hb dX3_init_0 rfl (lv_at hl 0 rfl) ?_
    refine W.objInit hx hb hown (hts (.methodLink RX3 1 objectInit) iw_X3_init_1) (hts (.instanceMethod objectInit) iw_X3_init_2) (hts (.code objectInit ⟨#[0xb1]⟩ 1 none) (in_obj_wsX3_init)) rfl (by rw [hml]; exact hl.1) rfl dX3_init_1 (Nat.le_of_ble_eq_true rfl) (Nat.le_of_ble_eq_true rfl) ?_
    refine W.eq (g2 := F0 m 4 ls []) rfl ?_
    refine lv_aload_n hx hb dX3_init_4 rfl (lv_at hl 0 rfl) ?_
    refine lv_iload_n hx hb dX3_init_5 rfl (lv_at hl 1 rfl) ?_
    obtain ⟨q_1, hq_1⟩ := og (cq := cq) to.1 (oE_33 to.2)
    refine va_putF (D := (dC, dI)) (ci := 3) (v := .int x1) (ty := .int) (C := RX3) (T := TX3) (N := 6) hx hb hts in_wsX3_init_X3 tyX3 tyX3_ok nmX3 hown hK hP hD hS q_1 hq_1 rfl 0 (by decide +kernel) (hts (.fieldLink RX3 7 "ShipOffice$Happening" "kind" "I") iw_X3_init_3) (fun _ h9 => h9) rfl hin rfl (by decide +kernel) rfl rfl (Nat.le_of_ble_eq_true rfl) dX3_init_6 (fun H locs hP1 hD1 hS => ?_)
    obtain ⟨S_2, eS_2⟩ : ∃ zq, zq = setI Z o 0 x1 := ⟨_, rfl⟩
    have hP : va_P (dC, dI) vwCl (oW cq S_2) H := by rw [eS_2]; exact cP (oset to.1 hq_1 hD rfl (he_33_0 to.2) neI) hP1
    have hD : va_D A (oW cq S_2) := by rw [eS_2]; exact cD (oset to.1 hq_1 hD rfl (he_33_0 to.2) neI) hD1
    clear hP1 hD1
    have hIS_2 : oInv S_2 := by rw [eS_2]; exact oInv.I0 (k := 33) (lo := -2147483648) (hi := 2147483647) gI to.2 (by decide +kernel) rfl rfl rfl (iv_all _)
    have XS_2 : oX [2033] Z S_2 := by rw [eS_2]; exact oX.I (k := 33) (key := 2033) to.2 rfl (List.mem_singleton.mpr rfl)
    have ik_4 : oI S_2 o 1 = 0 := by rw [eS_2, setI_ne (by decide +kernel)]; exact (hz 1)
    have ik_5 : oI S_2 o 2 = 0 := by rw [eS_2, setI_ne (by decide +kernel)]; exact (hz 2)
    have ik_6 : oI S_2 o 3 = 0 := by rw [eS_2, setI_ne (by decide +kernel)]; exact (hz 3)
    have ik_7 : oI S_2 o 4 = 0 := by rw [eS_2, setI_ne (by decide +kernel)]; exact (hz 4)
    have pz_8 : oP S_2 o 5 = none := by rw [eS_2]; exact (hp 5)
    have X_9 : oXc ([] : List Nat) o Z S_2 := by rw [eS_2]; exact oXc.I oXc.rf
    have pk_10 : oI S_2 o 0 = x1 := by rw [eS_2, setI_same]
    refine lv_aload_n hx hb dX3_init_9 rfl (lv_at hl 0 rfl) ?_
    refine lv_iload_n hx hb dX3_init_10 rfl (lv_at hl 2 rfl) ?_
    have t_11 : oty S_2 o 33 := (oX.ty XS_2 to)
    obtain ⟨q_12, hq_12⟩ := og (cq := cq) t_11.1 (oE_33 t_11.2)
    refine va_putF (D := (dC, dI)) (ci := 3) (v := .int x2) (ty := .int) (C := RX3) (T := TX3) (N := 6) hx hb hts in_wsX3_init_X3 tyX3 tyX3_ok nmX3 hown hK hP hD hS q_12 hq_12 rfl 1 (by decide +kernel) (hts (.fieldLink RX3 13 "ShipOffice$Happening" "day" "I") iw_X3_init_4) (fun _ h9 => h9) rfl hin rfl (by decide +kernel) rfl rfl (Nat.le_of_ble_eq_true rfl) dX3_init_11 (fun H locs hP1 hD1 hS => ?_)
    obtain ⟨S_13, eS_13⟩ : ∃ zq, zq = setI S_2 o 1 x2 := ⟨_, rfl⟩
    have hP : va_P (dC, dI) vwCl (oW cq S_13) H := by rw [eS_13]; exact cP (oset t_11.1 hq_12 hD rfl (he_33_1 t_11.2) neI) hP1
    have hD : va_D A (oW cq S_13) := by rw [eS_13]; exact cD (oset t_11.1 hq_12 hD rfl (he_33_1 t_11.2) neI) hD1
    clear hP1 hD1
    have hIS_13 : oInv S_13 := by rw [eS_13]; exact oInv.I0 (k := 33) (lo := -2147483648) (hi := 2147483647) hIS_2 t_11.2 (by decide +kernel) rfl rfl rfl (iv_all _)
    have XS_13 : oX [2033] S_2 S_13 := by rw [eS_13]; exact oX.I (k := 33) (key := 2033) t_11.2 rfl (List.mem_singleton.mpr rfl)
    have ik_15 : oI S_13 o 2 = 0 := by rw [eS_13, setI_ne (by decide +kernel)]; exact ik_5
    have ik_16 : oI S_13 o 3 = 0 := by rw [eS_13, setI_ne (by decide +kernel)]; exact ik_6
    have ik_17 : oI S_13 o 4 = 0 := by rw [eS_13, setI_ne (by decide +kernel)]; exact ik_7
    have ik_18 : oI S_13 o 0 = x1 := by rw [eS_13, setI_ne (by decide +kernel)]; exact pk_10
    have pz_19 : oP S_13 o 5 = none := by rw [eS_13]; exact pz_8
    have X_20 : oXc ([] : List Nat) o Z S_13 := by rw [eS_13]; exact oXc.I X_9
    have pk_21 : oI S_13 o 1 = x2 := by rw [eS_13, setI_same]
    refine lv_aload_n hx hb dX3_init_14 rfl (lv_at hl 0 rfl) ?_
    refine lv_iload_n hx hb dX3_init_15 rfl (lv_at hl 3 rfl) ?_
    have t_22 : oty S_13 o 33 := (oX.ty XS_13 t_11)
    obtain ⟨q_23, hq_23⟩ := og (cq := cq) t_22.1 (oE_33 t_22.2)
    refine va_putF (D := (dC, dI)) (ci := 3) (v := .int x3) (ty := .int) (C := RX3) (T := TX3) (N := 6) hx hb hts in_wsX3_init_X3 tyX3 tyX3_ok nmX3 hown hK hP hD hS q_23 hq_23 rfl 2 (by decide +kernel) (hts (.fieldLink RX3 16 "ShipOffice$Happening" "told" "I") iw_X3_init_5) (fun _ h9 => h9) rfl hin rfl (by decide +kernel) rfl rfl (Nat.le_of_ble_eq_true rfl) dX3_init_16 (fun H locs hP1 hD1 hS => ?_)
    obtain ⟨S_24, eS_24⟩ : ∃ zq, zq = setI S_13 o 2 x3 := ⟨_, rfl⟩
    have hP : va_P (dC, dI) vwCl (oW cq S_24) H := by rw [eS_24]; exact cP (oset t_22.1 hq_23 hD rfl (he_33_2 t_22.2) neI) hP1
    have hD : va_D A (oW cq S_24) := by rw [eS_24]; exact cD (oset t_22.1 hq_23 hD rfl (he_33_2 t_22.2) neI) hD1
    clear hP1 hD1
    have hIS_24 : oInv S_24 := by rw [eS_24]; exact oInv.I0 (k := 33) (lo := -2147483648) (hi := 2147483647) hIS_13 t_22.2 (by decide +kernel) rfl rfl rfl (iv_all _)
    have XS_24 : oX [2033] S_13 S_24 := by rw [eS_24]; exact oX.I (k := 33) (key := 2033) t_22.2 rfl (List.mem_singleton.mpr rfl)
    have ik_26 : oI S_24 o 3 = 0 := by rw [eS_24, setI_ne (by decide +kernel)]; exact ik_16
    have ik_27 : oI S_24 o 4 = 0 := by rw [eS_24, setI_ne (by decide +kernel)]; exact ik_17
    have ik_28 : oI S_24 o 0 = x1 := by rw [eS_24, setI_ne (by decide +kernel)]; exact ik_18
    have ik_29 : oI S_24 o 1 = x2 := by rw [eS_24, setI_ne (by decide +kernel)]; exact pk_21
    have pz_30 : oP S_24 o 5 = none := by rw [eS_24]; exact pz_19
    have X_31 : oXc ([] : List Nat) o Z S_24 := by rw [eS_24]; exact oXc.I X_20
    have pk_32 : oI S_24 o 2 = x3 := by rw [eS_24, setI_same]
    refine lv_aload_n hx hb dX3_init_19 rfl (lv_at hl 0 rfl) ?_
    refine lv_iload hx hb dX3_init_20 (lv_at hl 4 rfl) ?_
    have t_33 : oty S_24 o 33 := (oX.ty XS_24 t_22)
    obtain ⟨q_34, hq_34⟩ := og (cq := cq) t_33.1 (oE_33 t_33.2)
    refine va_putF (D := (dC, dI)) (ci := 3) (v := .int x4) (ty := .int) (C := RX3) (T := TX3) (N := 6) hx hb hts in_wsX3_init_X3 tyX3 tyX3_ok nmX3 hown hK hP hD hS q_34 hq_34 rfl 3 (by decide +kernel) (hts (.fieldLink RX3 19 "ShipOffice$Happening" "way" "I") iw_X3_init_6) (fun _ h9 => h9) rfl hin rfl (by decide +kernel) rfl rfl (Nat.le_of_ble_eq_true rfl) dX3_init_22 (fun H locs hP1 hD1 hS => ?_)
    obtain ⟨S_35, eS_35⟩ : ∃ zq, zq = setI S_24 o 3 x4 := ⟨_, rfl⟩
    have hP : va_P (dC, dI) vwCl (oW cq S_35) H := by rw [eS_35]; exact cP (oset t_33.1 hq_34 hD rfl (he_33_3 t_33.2) neI) hP1
    have hD : va_D A (oW cq S_35) := by rw [eS_35]; exact cD (oset t_33.1 hq_34 hD rfl (he_33_3 t_33.2) neI) hD1
    clear hP1 hD1
    have hIS_35 : oInv S_35 := by rw [eS_35]; exact oInv.I0 (k := 33) (lo := -2147483648) (hi := 2147483647) hIS_24 t_33.2 (by decide +kernel) rfl rfl rfl (iv_all _)
    have XS_35 : oX [2033] S_24 S_35 := by rw [eS_35]; exact oX.I (k := 33) (key := 2033) t_33.2 rfl (List.mem_singleton.mpr rfl)
    have ik_37 : oI S_35 o 4 = 0 := by rw [eS_35, setI_ne (by decide +kernel)]; exact ik_27
    have ik_38 : oI S_35 o 0 = x1 := by rw [eS_35, setI_ne (by decide +kernel)]; exact ik_28
    have ik_39 : oI S_35 o 1 = x2 := by rw [eS_35, setI_ne (by decide +kernel)]; exact ik_29
    have ik_40 : oI S_35 o 2 = x3 := by rw [eS_35, setI_ne (by decide +kernel)]; exact pk_32
    have pz_41 : oP S_35 o 5 = none := by rw [eS_35]; exact pz_30
    have X_42 : oXc ([] : List Nat) o Z S_35 := by rw [eS_35]; exact oXc.I X_31
    have pk_43 : oI S_35 o 3 = x4 := by rw [eS_35, setI_same]
    refine lv_aload_n hx hb dX3_init_25 rfl (lv_at hl 0 rfl) ?_
    refine lv_iload hx hb dX3_init_26 (lv_at hl 5 rfl) ?_
    have t_44 : oty S_35 o 33 := (oX.ty XS_35 t_33)
    obtain ⟨q_45, hq_45⟩ := og (cq := cq) t_44.1 (oE_33 t_44.2)
    refine va_putF (D := (dC, dI)) (ci := 3) (v := .int x5) (ty := .int) (C := RX3) (T := TX3) (N := 6) hx hb hts in_wsX3_init_X3 tyX3 tyX3_ok nmX3 hown hK hP hD hS q_45 hq_45 rfl 4 (by decide +kernel) (hts (.fieldLink RX3 22 "ShipOffice$Happening" "port" "I") iw_X3_init_7) (fun _ h9 => h9) rfl hin rfl (by decide +kernel) rfl rfl (Nat.le_of_ble_eq_true rfl) dX3_init_28 (fun H locs hP1 hD1 hS => ?_)
    obtain ⟨S_46, eS_46⟩ : ∃ zq, zq = setI S_35 o 4 x5 := ⟨_, rfl⟩
    have hP : va_P (dC, dI) vwCl (oW cq S_46) H := by rw [eS_46]; exact cP (oset t_44.1 hq_45 hD rfl (he_33_4 t_44.2) neI) hP1
    have hD : va_D A (oW cq S_46) := by rw [eS_46]; exact cD (oset t_44.1 hq_45 hD rfl (he_33_4 t_44.2) neI) hD1
    clear hP1 hD1
    have hIS_46 : oInv S_46 := by rw [eS_46]; exact oInv.I0 (k := 33) (lo := -2147483648) (hi := 2147483647) hIS_35 t_44.2 (by decide +kernel) rfl rfl rfl (iv_all _)
    have XS_46 : oX [2033] S_35 S_46 := by rw [eS_46]; exact oX.I (k := 33) (key := 2033) t_44.2 rfl (List.mem_singleton.mpr rfl)
    have ik_48 : oI S_46 o 0 = x1 := by rw [eS_46, setI_ne (by decide +kernel)]; exact ik_38
    have ik_49 : oI S_46 o 1 = x2 := by rw [eS_46, setI_ne (by decide +kernel)]; exact ik_39
    have ik_50 : oI S_46 o 2 = x3 := by rw [eS_46, setI_ne (by decide +kernel)]; exact ik_40
    have ik_51 : oI S_46 o 3 = x4 := by rw [eS_46, setI_ne (by decide +kernel)]; exact pk_43
    have pz_52 : oP S_46 o 5 = none := by rw [eS_46]; exact pz_41
    have X_53 : oXc ([] : List Nat) o Z S_46 := by rw [eS_46]; exact oXc.I X_42
    have pk_54 : oI S_46 o 4 = x5 := by rw [eS_46, setI_same]
    refine lv_aload_n hx hb dX3_init_31 rfl (lv_at hl 0 rfl) ?_
    refine lv_aloadN hx hb dX3_init_32 (lv_at hl 6 rfl) ?_
    have t_55 : oty S_46 o 33 := (oX.ty XS_46 t_44)
    obtain ⟨q_56, hq_56⟩ := og (cq := cq) t_55.1 (oE_33 t_55.2)
    refine va_putF (D := (dC, dI)) (ci := 3) (v := .null) (ty := .object "ShipOffice$Happening") (C := RX3) (T := TX3) (N := 6) hx hb hts in_wsX3_init_X3 tyX3 tyX3_ok nmX3 hown hK hP hD hS q_56 hq_56 rfl 5 (by decide +kernel) (hts (.fieldLink RX3 25 "ShipOffice$Happening" "before" "LShipOffice$Happening;") iw_X3_init_8) (fun _ h9 => h9) rfl hin rfl (by decide +kernel) rfl rfl (Nat.le_of_ble_eq_true rfl) dX3_init_34 (fun H locs hP1 hD1 hS => ?_)
    obtain ⟨S_57, eS_57⟩ : ∃ zq, zq = setP S_46 o 5 none := ⟨_, rfl⟩
    have hP : va_P (dC, dI) vwCl (oW cq S_57) H := by rw [eS_57]; exact cP (oset t_55.1 hq_56 hD rfl (he_33_5 t_55.2) neP) hP1
    have hD : va_D A (oW cq S_57) := by rw [eS_57]; exact cD (oset t_55.1 hq_56 hD rfl (he_33_5 t_55.2) neP) hD1
    clear hP1 hD1
    have hIS_57 : oInv S_57 := by rw [eS_57]; exact oInv.Pn (k := 33) hIS_46 t_55.2 (by decide +kernel) rfl (by decide +kernel) rfl
    have XS_57 : oX [2033] S_46 S_57 := by rw [eS_57]; exact oX.P (k := 33) (key := 2033) t_55.2 rfl (List.mem_singleton.mpr rfl)
    have ik_58 : oI S_57 o 0 = x1 := by rw [eS_57]; exact ik_48
    have ik_59 : oI S_57 o 1 = x2 := by rw [eS_57]; exact ik_49
    have ik_60 : oI S_57 o 2 = x3 := by rw [eS_57]; exact ik_50
    have ik_61 : oI S_57 o 3 = x4 := by rw [eS_57]; exact ik_51
    have ik_62 : oI S_57 o 4 = x5 := by rw [eS_57]; exact pk_54
    have X_64 : oXc ([] : List Nat) o Z S_57 := by rw [eS_57]; exact oXc.P X_53
    have pk_65 : oP S_57 o 5 = none := by rw [eS_57, setP_same]
    have t_67 : oty S_57 o 33 := (oX.ty XS_57 t_55)
    obtain ⟨S_66, eS_66⟩ : ∃ zq, zq = setK S_57 o 3 := ⟨_, rfl⟩
    have hP : va_P (dC, dI) vwCl (oW cq S_66) H := by rw [eS_66]; exact cP (ret_W (c := 3) t_67.2 (by decide +kernel)) hP
    have hD : va_D A (oW cq S_66) := by rw [eS_66]; exact cD (ret_W (c := 3) t_67.2 (by decide +kernel)) hD
    have hIS_66 : oInv S_66 := by rw [eS_66]; exact oInv.ret (c := 3) hIS_57 t_67 (by decide +kernel) (fun i hi => (nn_3 hi).elim) (fun i p hp => (ct_no hp (by decide +kernel) (by decide +kernel) (by decide +kernel)).elim) (fun h => absurd h (by decide +kernel)) (fun _ b hb => by rw [pk_65] at hb; cases hb) (fun _ => by rw [ik_61, ik_62]; exact hw)
    have XS_66 : oXc ([] : List Nat) o Z S_66 := by rw [eS_66]; exact oXc.K X_64
    have tS_66 : oty S_66 o 3 := by rw [eS_66]; exact K_ty t_67.1
    have ik_68 : oI S_66 o 0 = x1 := by rw [eS_66]; exact ik_58
    have ik_69 : oI S_66 o 1 = x2 := by rw [eS_66]; exact ik_59
    have ik_70 : oI S_66 o 2 = x3 := by rw [eS_66]; exact ik_60
    have ik_71 : oI S_66 o 3 = x4 := by rw [eS_66]; exact ik_61
    have ik_72 : oI S_66 o 4 = x5 := by rw [eS_66]; exact ik_62
    have pz_73 : oP S_66 o 5 = none := by rw [eS_66]; exact pk_65
    exact W.vret hx hb hr (fun t ht hW => ⟨⟨S_66, rfl, ⟨hIS_66, XS_66, ⟨tS_66, ⟨ik_68, ik_69, ik_70, ik_71, ik_72, pz_73⟩⟩⟩, ⟨by rw [ht]; exact hP, va_K.moved hW.alike hK, hD⟩⟩, hS.F ht⟩) hS.2.2 dX3_init_37
  · refine Met.ofW (cc := cX3_init) (maxL := 7) (ret := none) (by decide +kernel) rfl ?_
    intro p e s m args below meth c s₁ B hml hv
    obtain ⟨rfl, hsz, hP, hK, hD0⟩ := hv
    have hx := B.exec
    have hb := B.bytes
    have hr := B.returns
    have hts := atoms_spec (ws := wsX3_init) B.pre
    have hown : s.vm.findClass RX3 = some m.cls := findClass_of_methodNamed B.named
    have hlocks := B.notSynchronized
    have hin : meth.name = "<init>" := (name_of_methodNamed B.named B.method).1
    subst hsz
    have hD := hD0.self (sz := s.heap.size)
    generalize hAe : va_A (oW cq Z) s.heap.size = A at hD ⊢
    have hA : ∀ q : Nat, s.heap.size ≤ q → A q := fun q h => by rw [← hAe]; exact Or.inr h
    have hS : va_S A s.heap s.heap [] := va_S.rf
    have hP : va_P (dC, dI) vwCl (oW cq Z) s.heap := hP
    have hl := lv_entry ([.ref o, .int x1, .int x2, .int x3, .int x4, .int x5, va_rf (some br6)]) (n := 7) (Nat.le_of_ble_eq_true rfl)
    rw [lg_entry_eq]
    generalize (lg_sl ([.ref o, .int x1, .int x2, .int x3, .int x4, .int x5, va_rf (some br6)]) ++ List.replicate (7 - (lg_sl ([.ref o, .int x1, .int x2, .int x3, .int x4, .int x5, va_rf (some br6)])).length) Slot.unset).toArray = ls at hl ⊢
    have hl : lv_has ls 7 [(0, .ref o), (1, .int x1), (2, .int x2), (3, .int x3), (4, .int x4), (5, .int x5), (6, va_rf (some br6))] := hl
    have hl : lv_has ls 7 [(0, .ref o), (1, .int x1), (2, .int x2), (3, .int x3), (4, .int x4), (5, .int x5), (6, .ref br6)] := hl
    have tbbr6 : oty Z br6 3 := tr6 br6 rfl
    refine lv_aload_n hx hb dX3_init_0 rfl (lv_at hl 0 rfl) ?_
    refine W.objInit hx hb hown (hts (.methodLink RX3 1 objectInit) iw_X3_init_1) (hts (.instanceMethod objectInit) iw_X3_init_2) (hts (.code objectInit ⟨#[0xb1]⟩ 1 none) (in_obj_wsX3_init)) rfl (by rw [hml]; exact hl.1) rfl dX3_init_1 (Nat.le_of_ble_eq_true rfl) (Nat.le_of_ble_eq_true rfl) ?_
    refine W.eq (g2 := F0 m 4 ls []) rfl ?_
    refine lv_aload_n hx hb dX3_init_4 rfl (lv_at hl 0 rfl) ?_
    refine lv_iload_n hx hb dX3_init_5 rfl (lv_at hl 1 rfl) ?_
    obtain ⟨q_74, hq_74⟩ := og (cq := cq) to.1 (oE_33 to.2)
    refine va_putF (D := (dC, dI)) (ci := 3) (v := .int x1) (ty := .int) (C := RX3) (T := TX3) (N := 6) hx hb hts in_wsX3_init_X3 tyX3 tyX3_ok nmX3 hown hK hP hD hS q_74 hq_74 rfl 0 (by decide +kernel) (hts (.fieldLink RX3 7 "ShipOffice$Happening" "kind" "I") iw_X3_init_3) (fun _ h9 => h9) rfl hin rfl (by decide +kernel) rfl rfl (Nat.le_of_ble_eq_true rfl) dX3_init_6 (fun H locs hP1 hD1 hS => ?_)
    obtain ⟨S_75, eS_75⟩ : ∃ zq, zq = setI Z o 0 x1 := ⟨_, rfl⟩
    have hP : va_P (dC, dI) vwCl (oW cq S_75) H := by rw [eS_75]; exact cP (oset to.1 hq_74 hD rfl (he_33_0 to.2) neI) hP1
    have hD : va_D A (oW cq S_75) := by rw [eS_75]; exact cD (oset to.1 hq_74 hD rfl (he_33_0 to.2) neI) hD1
    clear hP1 hD1
    have hIS_75 : oInv S_75 := by rw [eS_75]; exact oInv.I0 (k := 33) (lo := -2147483648) (hi := 2147483647) gI to.2 (by decide +kernel) rfl rfl rfl (iv_all _)
    have XS_75 : oX [2033] Z S_75 := by rw [eS_75]; exact oX.I (k := 33) (key := 2033) to.2 rfl (List.mem_singleton.mpr rfl)
    have ik_77 : oI S_75 o 1 = 0 := by rw [eS_75, setI_ne (by decide +kernel)]; exact (hz 1)
    have ik_78 : oI S_75 o 2 = 0 := by rw [eS_75, setI_ne (by decide +kernel)]; exact (hz 2)
    have ik_79 : oI S_75 o 3 = 0 := by rw [eS_75, setI_ne (by decide +kernel)]; exact (hz 3)
    have ik_80 : oI S_75 o 4 = 0 := by rw [eS_75, setI_ne (by decide +kernel)]; exact (hz 4)
    have gk_81 : oG S_75 br6 < oG S_75 o := by rw [eS_75]; exact (hg br6 rfl)
    have pz_82 : oP S_75 o 5 = none := by rw [eS_75]; exact (hp 5)
    have X_83 : oXc ([] : List Nat) o Z S_75 := by rw [eS_75]; exact oXc.I oXc.rf
    have pk_84 : oI S_75 o 0 = x1 := by rw [eS_75, setI_same]
    refine lv_aload_n hx hb dX3_init_9 rfl (lv_at hl 0 rfl) ?_
    refine lv_iload_n hx hb dX3_init_10 rfl (lv_at hl 2 rfl) ?_
    have t_85 : oty S_75 o 33 := (oX.ty XS_75 to)
    obtain ⟨q_86, hq_86⟩ := og (cq := cq) t_85.1 (oE_33 t_85.2)
    refine va_putF (D := (dC, dI)) (ci := 3) (v := .int x2) (ty := .int) (C := RX3) (T := TX3) (N := 6) hx hb hts in_wsX3_init_X3 tyX3 tyX3_ok nmX3 hown hK hP hD hS q_86 hq_86 rfl 1 (by decide +kernel) (hts (.fieldLink RX3 13 "ShipOffice$Happening" "day" "I") iw_X3_init_4) (fun _ h9 => h9) rfl hin rfl (by decide +kernel) rfl rfl (Nat.le_of_ble_eq_true rfl) dX3_init_11 (fun H locs hP1 hD1 hS => ?_)
    obtain ⟨S_87, eS_87⟩ : ∃ zq, zq = setI S_75 o 1 x2 := ⟨_, rfl⟩
    have hP : va_P (dC, dI) vwCl (oW cq S_87) H := by rw [eS_87]; exact cP (oset t_85.1 hq_86 hD rfl (he_33_1 t_85.2) neI) hP1
    have hD : va_D A (oW cq S_87) := by rw [eS_87]; exact cD (oset t_85.1 hq_86 hD rfl (he_33_1 t_85.2) neI) hD1
    clear hP1 hD1
    have hIS_87 : oInv S_87 := by rw [eS_87]; exact oInv.I0 (k := 33) (lo := -2147483648) (hi := 2147483647) hIS_75 t_85.2 (by decide +kernel) rfl rfl rfl (iv_all _)
    have XS_87 : oX [2033] S_75 S_87 := by rw [eS_87]; exact oX.I (k := 33) (key := 2033) t_85.2 rfl (List.mem_singleton.mpr rfl)
    have ik_89 : oI S_87 o 2 = 0 := by rw [eS_87, setI_ne (by decide +kernel)]; exact ik_78
    have ik_90 : oI S_87 o 3 = 0 := by rw [eS_87, setI_ne (by decide +kernel)]; exact ik_79
    have ik_91 : oI S_87 o 4 = 0 := by rw [eS_87, setI_ne (by decide +kernel)]; exact ik_80
    have ik_92 : oI S_87 o 0 = x1 := by rw [eS_87, setI_ne (by decide +kernel)]; exact pk_84
    have gk_93 : oG S_87 br6 < oG S_87 o := by rw [eS_87]; exact gk_81
    have pz_94 : oP S_87 o 5 = none := by rw [eS_87]; exact pz_82
    have X_95 : oXc ([] : List Nat) o Z S_87 := by rw [eS_87]; exact oXc.I X_83
    have pk_96 : oI S_87 o 1 = x2 := by rw [eS_87, setI_same]
    refine lv_aload_n hx hb dX3_init_14 rfl (lv_at hl 0 rfl) ?_
    refine lv_iload_n hx hb dX3_init_15 rfl (lv_at hl 3 rfl) ?_
    have t_97 : oty S_87 o 33 := (oX.ty XS_87 t_85)
    obtain ⟨q_98, hq_98⟩ := og (cq := cq) t_97.1 (oE_33 t_97.2)
    refine va_putF (D := (dC, dI)) (ci := 3) (v := .int x3) (ty := .int) (C := RX3) (T := TX3) (N := 6) hx hb hts in_wsX3_init_X3 tyX3 tyX3_ok nmX3 hown hK hP hD hS q_98 hq_98 rfl 2 (by decide +kernel) (hts (.fieldLink RX3 16 "ShipOffice$Happening" "told" "I") iw_X3_init_5) (fun _ h9 => h9) rfl hin rfl (by decide +kernel) rfl rfl (Nat.le_of_ble_eq_true rfl) dX3_init_16 (fun H locs hP1 hD1 hS => ?_)
    obtain ⟨S_99, eS_99⟩ : ∃ zq, zq = setI S_87 o 2 x3 := ⟨_, rfl⟩
    have hP : va_P (dC, dI) vwCl (oW cq S_99) H := by rw [eS_99]; exact cP (oset t_97.1 hq_98 hD rfl (he_33_2 t_97.2) neI) hP1
    have hD : va_D A (oW cq S_99) := by rw [eS_99]; exact cD (oset t_97.1 hq_98 hD rfl (he_33_2 t_97.2) neI) hD1
    clear hP1 hD1
    have hIS_99 : oInv S_99 := by rw [eS_99]; exact oInv.I0 (k := 33) (lo := -2147483648) (hi := 2147483647) hIS_87 t_97.2 (by decide +kernel) rfl rfl rfl (iv_all _)
    have XS_99 : oX [2033] S_87 S_99 := by rw [eS_99]; exact oX.I (k := 33) (key := 2033) t_97.2 rfl (List.mem_singleton.mpr rfl)
    have ik_101 : oI S_99 o 3 = 0 := by rw [eS_99, setI_ne (by decide +kernel)]; exact ik_90
    have ik_102 : oI S_99 o 4 = 0 := by rw [eS_99, setI_ne (by decide +kernel)]; exact ik_91
    have ik_103 : oI S_99 o 0 = x1 := by rw [eS_99, setI_ne (by decide +kernel)]; exact ik_92
    have ik_104 : oI S_99 o 1 = x2 := by rw [eS_99, setI_ne (by decide +kernel)]; exact pk_96
    have gk_105 : oG S_99 br6 < oG S_99 o := by rw [eS_99]; exact gk_93
    have pz_106 : oP S_99 o 5 = none := by rw [eS_99]; exact pz_94
    have X_107 : oXc ([] : List Nat) o Z S_99 := by rw [eS_99]; exact oXc.I X_95
    have pk_108 : oI S_99 o 2 = x3 := by rw [eS_99, setI_same]
    refine lv_aload_n hx hb dX3_init_19 rfl (lv_at hl 0 rfl) ?_
    refine lv_iload hx hb dX3_init_20 (lv_at hl 4 rfl) ?_
    have t_109 : oty S_99 o 33 := (oX.ty XS_99 t_97)
    obtain ⟨q_110, hq_110⟩ := og (cq := cq) t_109.1 (oE_33 t_109.2)
    refine va_putF (D := (dC, dI)) (ci := 3) (v := .int x4) (ty := .int) (C := RX3) (T := TX3) (N := 6) hx hb hts in_wsX3_init_X3 tyX3 tyX3_ok nmX3 hown hK hP hD hS q_110 hq_110 rfl 3 (by decide +kernel) (hts (.fieldLink RX3 19 "ShipOffice$Happening" "way" "I") iw_X3_init_6) (fun _ h9 => h9) rfl hin rfl (by decide +kernel) rfl rfl (Nat.le_of_ble_eq_true rfl) dX3_init_22 (fun H locs hP1 hD1 hS => ?_)
    obtain ⟨S_111, eS_111⟩ : ∃ zq, zq = setI S_99 o 3 x4 := ⟨_, rfl⟩
    have hP : va_P (dC, dI) vwCl (oW cq S_111) H := by rw [eS_111]; exact cP (oset t_109.1 hq_110 hD rfl (he_33_3 t_109.2) neI) hP1
    have hD : va_D A (oW cq S_111) := by rw [eS_111]; exact cD (oset t_109.1 hq_110 hD rfl (he_33_3 t_109.2) neI) hD1
    clear hP1 hD1
    have hIS_111 : oInv S_111 := by rw [eS_111]; exact oInv.I0 (k := 33) (lo := -2147483648) (hi := 2147483647) hIS_99 t_109.2 (by decide +kernel) rfl rfl rfl (iv_all _)
    have XS_111 : oX [2033] S_99 S_111 := by rw [eS_111]; exact oX.I (k := 33) (key := 2033) t_109.2 rfl (List.mem_singleton.mpr rfl)
    have ik_113 : oI S_111 o 4 = 0 := by rw [eS_111, setI_ne (by decide +kernel)]; exact ik_102
    have ik_114 : oI S_111 o 0 = x1 := by rw [eS_111, setI_ne (by decide +kernel)]; exact ik_103
    have ik_115 : oI S_111 o 1 = x2 := by rw [eS_111, setI_ne (by decide +kernel)]; exact ik_104
    have ik_116 : oI S_111 o 2 = x3 := by rw [eS_111, setI_ne (by decide +kernel)]; exact pk_108
    have gk_117 : oG S_111 br6 < oG S_111 o := by rw [eS_111]; exact gk_105
    have pz_118 : oP S_111 o 5 = none := by rw [eS_111]; exact pz_106
    have X_119 : oXc ([] : List Nat) o Z S_111 := by rw [eS_111]; exact oXc.I X_107
    have pk_120 : oI S_111 o 3 = x4 := by rw [eS_111, setI_same]
    refine lv_aload_n hx hb dX3_init_25 rfl (lv_at hl 0 rfl) ?_
    refine lv_iload hx hb dX3_init_26 (lv_at hl 5 rfl) ?_
    have t_121 : oty S_111 o 33 := (oX.ty XS_111 t_109)
    obtain ⟨q_122, hq_122⟩ := og (cq := cq) t_121.1 (oE_33 t_121.2)
    refine va_putF (D := (dC, dI)) (ci := 3) (v := .int x5) (ty := .int) (C := RX3) (T := TX3) (N := 6) hx hb hts in_wsX3_init_X3 tyX3 tyX3_ok nmX3 hown hK hP hD hS q_122 hq_122 rfl 4 (by decide +kernel) (hts (.fieldLink RX3 22 "ShipOffice$Happening" "port" "I") iw_X3_init_7) (fun _ h9 => h9) rfl hin rfl (by decide +kernel) rfl rfl (Nat.le_of_ble_eq_true rfl) dX3_init_28 (fun H locs hP1 hD1 hS => ?_)
    obtain ⟨S_123, eS_123⟩ : ∃ zq, zq = setI S_111 o 4 x5 := ⟨_, rfl⟩
    have hP : va_P (dC, dI) vwCl (oW cq S_123) H := by rw [eS_123]; exact cP (oset t_121.1 hq_122 hD rfl (he_33_4 t_121.2) neI) hP1
    have hD : va_D A (oW cq S_123) := by rw [eS_123]; exact cD (oset t_121.1 hq_122 hD rfl (he_33_4 t_121.2) neI) hD1
    clear hP1 hD1
    have hIS_123 : oInv S_123 := by rw [eS_123]; exact oInv.I0 (k := 33) (lo := -2147483648) (hi := 2147483647) hIS_111 t_121.2 (by decide +kernel) rfl rfl rfl (iv_all _)
    have XS_123 : oX [2033] S_111 S_123 := by rw [eS_123]; exact oX.I (k := 33) (key := 2033) t_121.2 rfl (List.mem_singleton.mpr rfl)
    have ik_125 : oI S_123 o 0 = x1 := by rw [eS_123, setI_ne (by decide +kernel)]; exact ik_114
    have ik_126 : oI S_123 o 1 = x2 := by rw [eS_123, setI_ne (by decide +kernel)]; exact ik_115
    have ik_127 : oI S_123 o 2 = x3 := by rw [eS_123, setI_ne (by decide +kernel)]; exact ik_116
    have ik_128 : oI S_123 o 3 = x4 := by rw [eS_123, setI_ne (by decide +kernel)]; exact pk_120
    have gk_129 : oG S_123 br6 < oG S_123 o := by rw [eS_123]; exact gk_117
    have pz_130 : oP S_123 o 5 = none := by rw [eS_123]; exact pz_118
    have X_131 : oXc ([] : List Nat) o Z S_123 := by rw [eS_123]; exact oXc.I X_119
    have pk_132 : oI S_123 o 4 = x5 := by rw [eS_123, setI_same]
    refine lv_aload_n hx hb dX3_init_31 rfl (lv_at hl 0 rfl) ?_
    refine lv_aload hx hb dX3_init_32 (lv_at hl 6 rfl) ?_
    have t_133 : oty S_123 o 33 := (oX.ty XS_123 t_121)
    obtain ⟨q_134, hq_134⟩ := og (cq := cq) t_133.1 (oE_33 t_133.2)
    have t_135 : oty S_123 br6 3 := (oX.ty XS_123 (oX.ty XS_111 (oX.ty XS_99 (oX.ty XS_87 (oX.ty XS_75 tbbr6)))))
    refine va_putF (D := (dC, dI)) (ci := 3) (v := .ref br6) (ty := .object "ShipOffice$Happening") (C := RX3) (T := TX3) (N := 6) hx hb hts in_wsX3_init_X3 tyX3 tyX3_ok nmX3 hown hK hP hD hS q_134 hq_134 rfl 5 (by decide +kernel) (hts (.fieldLink RX3 25 "ShipOffice$Happening" "before" "LShipOffice$Happening;") iw_X3_init_8) (fun _ h9 => h9) rfl hin rfl (by decide +kernel) rfl rfl (Nat.le_of_ble_eq_true rfl) dX3_init_34 (fun H locs hP1 hD1 hS => ?_)
    obtain ⟨S_136, eS_136⟩ : ∃ zq, zq = setP S_123 o 5 (some br6) := ⟨_, rfl⟩
    have hP : va_P (dC, dI) vwCl (oW cq S_136) H := by rw [eS_136]; exact cP (oset t_133.1 hq_134 hD rfl (he_33_5 t_133.2) neP) hP1
    have hD : va_D A (oW cq S_136) := by rw [eS_136]; exact cD (oset t_133.1 hq_134 hD rfl (he_33_5 t_133.2) neP) hD1
    clear hP1 hD1
    have hIS_136 : oInv S_136 := by rw [eS_136]; exact oInv.P (k := 33) hIS_123 t_133.2 (by decide +kernel) rfl (by decide +kernel) t_135 (by decide +kernel)
    have XS_136 : oX [2033] S_123 S_136 := by rw [eS_136]; exact oX.P (k := 33) (key := 2033) t_133.2 rfl (List.mem_singleton.mpr rfl)
    have ik_137 : oI S_136 o 0 = x1 := by rw [eS_136]; exact ik_125
    have ik_138 : oI S_136 o 1 = x2 := by rw [eS_136]; exact ik_126
    have ik_139 : oI S_136 o 2 = x3 := by rw [eS_136]; exact ik_127
    have ik_140 : oI S_136 o 3 = x4 := by rw [eS_136]; exact ik_128
    have ik_141 : oI S_136 o 4 = x5 := by rw [eS_136]; exact pk_132
    have gk_142 : oG S_136 br6 < oG S_136 o := by rw [eS_136]; exact gk_129
    have X_144 : oXc ([] : List Nat) o Z S_136 := by rw [eS_136]; exact oXc.P X_131
    have pk_145 : oP S_136 o 5 = some br6 := by rw [eS_136, setP_same]
    have t_147 : oty S_136 o 33 := (oX.ty XS_136 t_133)
    obtain ⟨S_146, eS_146⟩ : ∃ zq, zq = setK S_136 o 3 := ⟨_, rfl⟩
    have hP : va_P (dC, dI) vwCl (oW cq S_146) H := by rw [eS_146]; exact cP (ret_W (c := 3) t_147.2 (by decide +kernel)) hP
    have hD : va_D A (oW cq S_146) := by rw [eS_146]; exact cD (ret_W (c := 3) t_147.2 (by decide +kernel)) hD
    have hIS_146 : oInv S_146 := by rw [eS_146]; exact oInv.ret (c := 3) hIS_136 t_147 (by decide +kernel) (fun i hi => (nn_3 hi).elim) (fun i p hp => (ct_no hp (by decide +kernel) (by decide +kernel) (by decide +kernel)).elim) (fun h => absurd h (by decide +kernel)) (fun _ b hb => by rw [pk_145] at hb; cases hb; exact gk_142) (fun _ => by rw [ik_140, ik_141]; exact hw)
    have XS_146 : oXc ([] : List Nat) o Z S_146 := by rw [eS_146]; exact oXc.K X_144
    have tS_146 : oty S_146 o 3 := by rw [eS_146]; exact K_ty t_147.1
    have pk_148 : oP S_146 o 5 = some br6 := by rw [eS_146]; exact pk_145
    have ik_149 : oI S_146 o 0 = x1 := by rw [eS_146]; exact ik_137
    have ik_150 : oI S_146 o 1 = x2 := by rw [eS_146]; exact ik_138
    have ik_151 : oI S_146 o 2 = x3 := by rw [eS_146]; exact ik_139
    have ik_152 : oI S_146 o 3 = x4 := by rw [eS_146]; exact ik_140
    have ik_153 : oI S_146 o 4 = x5 := by rw [eS_146]; exact ik_141
    exact W.vret hx hb hr (fun t ht hW => ⟨⟨S_146, rfl, ⟨hIS_146, XS_146, ⟨tS_146, ⟨ik_149, ik_150, ik_151, ik_152, ik_153, pk_148⟩⟩⟩, ⟨by rw [ht]; exact hP, va_K.moved hW.alike hK, hD⟩⟩, hS.F ht⟩) hS.2.2 dX3_init_37
set_option maxHeartbeats 4000000 in
set_option maxRecDepth 100000 in
theorem c_X9_init_c (l : Launch) (dC : Nat → ClassId) (dI : Nat → Nat → Nat) (sz : Nat) (cq : Nat → ClassId) (Z : oS) (gI : oInv Z) (o : Nat) (to : oty Z o 39) (x1 : Int32) (x2 : Int32) (x3 : Int32) (hx3 : 0 ≤ x3.toInt ∧ x3.toInt ≤ 9) (x4 : Int32) (hx4 : 0 ≤ x4.toInt ∧ x4.toInt ≤ 3000) (hz : ∀ j, oI Z o j = 0) (hp : ∀ j, oP Z o j = none) : Met l yX9_init wsX9_init ({ frames := 1, cells := 0, slots := 0, locals := 14 }) (va_Pc [.ref o, .int x1, .int x2, .int x3, .int x4] (pcW (dC, dI) (oT cq) (oW cq Z) sz)) (va_Qv (fun (u : oS) => oInv u ∧ oXc ([] : List Nat) o Z u ∧ (oty u o 9 ∧ oI u o 0 = x1 ∧ oI u o 1 = x2 ∧ oI u o 2 = x3 ∧ oI u o 3 = x4 ∧ oI u o 4 = 0 ∧ oI u o 5 = 1000000 ∧ oI u o 6 = 1000000 ∧ oI u o 7 = 1000000 ∧ oI u o 8 = 1000000 ∧ oP u o 9 = none)) (fun u t => va_P (dC, dI) vwCl (oW cq u) t.heap ∧ va_K (dC, dI) vwCl (oT cq) t ∧ va_D (va_A (oW cq Z) sz) (oW cq u)) (va_A (oW cq Z) sz)) 0 0 (va_A (oW cq Z) sz) := by
  refine Met.ofW (cc := cX9_init) (maxL := 5) (ret := none) (by decide +kernel) rfl ?_
  intro p e s m args below meth c s₁ B hml hv
  obtain ⟨rfl, hsz, hP, hK, hD0⟩ := hv
  have hx := B.exec
  have hb := B.bytes
  have hr := B.returns
  have hts := atoms_spec (ws := wsX9_init) B.pre
  have hown : s.vm.findClass RX9 = some m.cls := findClass_of_methodNamed B.named
  have hlocks := B.notSynchronized
  have hin : meth.name = "<init>" := (name_of_methodNamed B.named B.method).1
  subst hsz
  have hD := hD0.self (sz := s.heap.size)
  generalize hAe : va_A (oW cq Z) s.heap.size = A at hD ⊢
  have hA : ∀ q : Nat, s.heap.size ≤ q → A q := fun q h => by rw [← hAe]; exact Or.inr h
  have hS : va_S A s.heap s.heap [] := va_S.rf
  have hP : va_P (dC, dI) vwCl (oW cq Z) s.heap := hP
  have hl := lv_entry ([.ref o, .int x1, .int x2, .int x3, .int x4]) (n := 5) (Nat.le_of_ble_eq_true rfl)
  rw [lg_entry_eq]
  generalize (lg_sl ([.ref o, .int x1, .int x2, .int x3, .int x4]) ++ List.replicate (5 - (lg_sl ([.ref o, .int x1, .int x2, .int x3, .int x4])).length) Slot.unset).toArray = ls at hl ⊢
  have hl : lv_has ls 5 [(0, .ref o), (1, .int x1), (2, .int x2), (3, .int x3), (4, .int x4)] := hl
  refine lv_aload_n hx hb dX9_init_0 rfl (lv_at hl 0 rfl) ?_
  refine W.objInit hx hb hown (hts (.methodLink RX9 3 objectInit) iw_X9_init_1) (hts (.instanceMethod objectInit) iw_X9_init_2) (hts (.code objectInit ⟨#[0xb1]⟩ 1 none) (in_obj_wsX9_init)) rfl (by rw [hml]; exact hl.1) rfl dX9_init_1 (Nat.le_of_ble_eq_true rfl) (Nat.le_of_ble_eq_true rfl) ?_
  refine W.eq (g2 := F0 m 4 ls []) rfl ?_
  refine lv_aload_n hx hb dX9_init_4 rfl (lv_at hl 0 rfl) ?_
  refine lv_ldc (v := 1000000) hx hb hown (hts (.constant RX9 9 (1000000)) (by decide +kernel)) dX9_init_5 ?_
  obtain ⟨q_1, hq_1⟩ := og (cq := cq) to.1 (oE_39 to.2)
  refine va_put (D := (dC, dI)) (ci := 9) (v := .int 1000000) (ty := .int) (C := RX9) (T := TX9) (N := 10) hx hb hts in_wsX9_init_X9 tyX9 tyX9_ok nmX9 hown hK hP hD hS q_1 hq_1 rfl 5 (by decide +kernel) (hts (.fieldLink RX9 10 "ShipOffice$Voyage" "sailedDay" "I") iw_X9_init_3) (fun _ h9 => h9) rfl (by decide +kernel) rfl rfl (Nat.le_of_ble_eq_true rfl) dX9_init_7 (fun H locs hP1 hD1 hS => ?_)
  obtain ⟨S_2, eS_2⟩ : ∃ zq, zq = setI Z o 5 1000000 := ⟨_, rfl⟩
  have hP : va_P (dC, dI) vwCl (oW cq S_2) H := by rw [eS_2]; exact cP (oset to.1 hq_1 hD rfl (he_39_5 to.2) neI) hP1
  have hD : va_D A (oW cq S_2) := by rw [eS_2]; exact cD (oset to.1 hq_1 hD rfl (he_39_5 to.2) neI) hD1
  clear hP1 hD1
  have hIS_2 : oInv S_2 := by rw [eS_2]; exact oInv.I0 (k := 39) (lo := 0) (hi := 1000000) gI to.2 (by decide +kernel) rfl rfl rfl (by decide +kernel)
  have XS_2 : oX [2039] Z S_2 := by rw [eS_2]; exact oX.I (k := 39) (key := 2039) to.2 rfl (List.mem_singleton.mpr rfl)
  have ik_3 : oI S_2 o 0 = 0 := by rw [eS_2, setI_ne (by decide +kernel)]; exact (hz 0)
  have ik_4 : oI S_2 o 1 = 0 := by rw [eS_2, setI_ne (by decide +kernel)]; exact (hz 1)
  have ik_5 : oI S_2 o 2 = 0 := by rw [eS_2, setI_ne (by decide +kernel)]; exact (hz 2)
  have ik_6 : oI S_2 o 3 = 0 := by rw [eS_2, setI_ne (by decide +kernel)]; exact (hz 3)
  have ik_7 : oI S_2 o 4 = 0 := by rw [eS_2, setI_ne (by decide +kernel)]; exact (hz 4)
  have ik_9 : oI S_2 o 6 = 0 := by rw [eS_2, setI_ne (by decide +kernel)]; exact (hz 6)
  have ik_10 : oI S_2 o 7 = 0 := by rw [eS_2, setI_ne (by decide +kernel)]; exact (hz 7)
  have ik_11 : oI S_2 o 8 = 0 := by rw [eS_2, setI_ne (by decide +kernel)]; exact (hz 8)
  have pz_12 : oP S_2 o 9 = none := by rw [eS_2]; exact (hp 9)
  have X_13 : oXc ([] : List Nat) o Z S_2 := by rw [eS_2]; exact oXc.I oXc.rf
  have pk_14 : oI S_2 o 5 = 1000000 := by rw [eS_2, setI_same]
  refine lv_aload_n hx hb dX9_init_10 rfl (lv_at hl 0 rfl) ?_
  refine lv_ldc (v := 1000000) hx hb hown (hts (.constant RX9 9 (1000000)) (by decide +kernel)) dX9_init_11 ?_
  have t_15 : oty S_2 o 39 := (oX.ty XS_2 to)
  obtain ⟨q_16, hq_16⟩ := og (cq := cq) t_15.1 (oE_39 t_15.2)
  refine va_put (D := (dC, dI)) (ci := 9) (v := .int 1000000) (ty := .int) (C := RX9) (T := TX9) (N := 10) hx hb hts in_wsX9_init_X9 tyX9 tyX9_ok nmX9 hown hK hP hD hS q_16 hq_16 rfl 6 (by decide +kernel) (hts (.fieldLink RX9 16 "ShipOffice$Voyage" "sailedTold" "I") iw_X9_init_4) (fun _ h9 => h9) rfl (by decide +kernel) rfl rfl (Nat.le_of_ble_eq_true rfl) dX9_init_13 (fun H locs hP1 hD1 hS => ?_)
  obtain ⟨S_17, eS_17⟩ : ∃ zq, zq = setI S_2 o 6 1000000 := ⟨_, rfl⟩
  have hP : va_P (dC, dI) vwCl (oW cq S_17) H := by rw [eS_17]; exact cP (oset t_15.1 hq_16 hD rfl (he_39_6 t_15.2) neI) hP1
  have hD : va_D A (oW cq S_17) := by rw [eS_17]; exact cD (oset t_15.1 hq_16 hD rfl (he_39_6 t_15.2) neI) hD1
  clear hP1 hD1
  have hIS_17 : oInv S_17 := by rw [eS_17]; exact oInv.I0 (k := 39) (lo := -2147483648) (hi := 2147483647) hIS_2 t_15.2 (by decide +kernel) rfl rfl rfl (iv_all _)
  have XS_17 : oX [2039] S_2 S_17 := by rw [eS_17]; exact oX.I (k := 39) (key := 2039) t_15.2 rfl (List.mem_singleton.mpr rfl)
  have ik_18 : oI S_17 o 0 = 0 := by rw [eS_17, setI_ne (by decide +kernel)]; exact ik_3
  have ik_19 : oI S_17 o 1 = 0 := by rw [eS_17, setI_ne (by decide +kernel)]; exact ik_4
  have ik_20 : oI S_17 o 2 = 0 := by rw [eS_17, setI_ne (by decide +kernel)]; exact ik_5
  have ik_21 : oI S_17 o 3 = 0 := by rw [eS_17, setI_ne (by decide +kernel)]; exact ik_6
  have ik_22 : oI S_17 o 4 = 0 := by rw [eS_17, setI_ne (by decide +kernel)]; exact ik_7
  have ik_24 : oI S_17 o 7 = 0 := by rw [eS_17, setI_ne (by decide +kernel)]; exact ik_10
  have ik_25 : oI S_17 o 8 = 0 := by rw [eS_17, setI_ne (by decide +kernel)]; exact ik_11
  have ik_26 : oI S_17 o 5 = 1000000 := by rw [eS_17, setI_ne (by decide +kernel)]; exact pk_14
  have pz_27 : oP S_17 o 9 = none := by rw [eS_17]; exact pz_12
  have X_28 : oXc ([] : List Nat) o Z S_17 := by rw [eS_17]; exact oXc.I X_13
  have pk_29 : oI S_17 o 6 = 1000000 := by rw [eS_17, setI_same]
  refine lv_aload_n hx hb dX9_init_16 rfl (lv_at hl 0 rfl) ?_
  refine lv_ldc (v := 1000000) hx hb hown (hts (.constant RX9 9 (1000000)) (by decide +kernel)) dX9_init_17 ?_
  have t_30 : oty S_17 o 39 := (oX.ty XS_17 t_15)
  obtain ⟨q_31, hq_31⟩ := og (cq := cq) t_30.1 (oE_39 t_30.2)
  refine va_put (D := (dC, dI)) (ci := 9) (v := .int 1000000) (ty := .int) (C := RX9) (T := TX9) (N := 10) hx hb hts in_wsX9_init_X9 tyX9 tyX9_ok nmX9 hown hK hP hD hS q_31 hq_31 rfl 7 (by decide +kernel) (hts (.fieldLink RX9 19 "ShipOffice$Voyage" "lostDay" "I") iw_X9_init_5) (fun _ h9 => h9) rfl (by decide +kernel) rfl rfl (Nat.le_of_ble_eq_true rfl) dX9_init_19 (fun H locs hP1 hD1 hS => ?_)
  obtain ⟨S_32, eS_32⟩ : ∃ zq, zq = setI S_17 o 7 1000000 := ⟨_, rfl⟩
  have hP : va_P (dC, dI) vwCl (oW cq S_32) H := by rw [eS_32]; exact cP (oset t_30.1 hq_31 hD rfl (he_39_7 t_30.2) neI) hP1
  have hD : va_D A (oW cq S_32) := by rw [eS_32]; exact cD (oset t_30.1 hq_31 hD rfl (he_39_7 t_30.2) neI) hD1
  clear hP1 hD1
  have hIS_32 : oInv S_32 := by rw [eS_32]; exact oInv.I0 (k := 39) (lo := -2147483648) (hi := 2147483647) hIS_17 t_30.2 (by decide +kernel) rfl rfl rfl (iv_all _)
  have XS_32 : oX [2039] S_17 S_32 := by rw [eS_32]; exact oX.I (k := 39) (key := 2039) t_30.2 rfl (List.mem_singleton.mpr rfl)
  have ik_33 : oI S_32 o 0 = 0 := by rw [eS_32, setI_ne (by decide +kernel)]; exact ik_18
  have ik_34 : oI S_32 o 1 = 0 := by rw [eS_32, setI_ne (by decide +kernel)]; exact ik_19
  have ik_35 : oI S_32 o 2 = 0 := by rw [eS_32, setI_ne (by decide +kernel)]; exact ik_20
  have ik_36 : oI S_32 o 3 = 0 := by rw [eS_32, setI_ne (by decide +kernel)]; exact ik_21
  have ik_37 : oI S_32 o 4 = 0 := by rw [eS_32, setI_ne (by decide +kernel)]; exact ik_22
  have ik_39 : oI S_32 o 8 = 0 := by rw [eS_32, setI_ne (by decide +kernel)]; exact ik_25
  have ik_40 : oI S_32 o 5 = 1000000 := by rw [eS_32, setI_ne (by decide +kernel)]; exact ik_26
  have ik_41 : oI S_32 o 6 = 1000000 := by rw [eS_32, setI_ne (by decide +kernel)]; exact pk_29
  have pz_42 : oP S_32 o 9 = none := by rw [eS_32]; exact pz_27
  have X_43 : oXc ([] : List Nat) o Z S_32 := by rw [eS_32]; exact oXc.I X_28
  have pk_44 : oI S_32 o 7 = 1000000 := by rw [eS_32, setI_same]
  refine lv_aload_n hx hb dX9_init_22 rfl (lv_at hl 0 rfl) ?_
  refine lv_ldc (v := 1000000) hx hb hown (hts (.constant RX9 9 (1000000)) (by decide +kernel)) dX9_init_23 ?_
  have t_45 : oty S_32 o 39 := (oX.ty XS_32 t_30)
  obtain ⟨q_46, hq_46⟩ := og (cq := cq) t_45.1 (oE_39 t_45.2)
  refine va_put (D := (dC, dI)) (ci := 9) (v := .int 1000000) (ty := .int) (C := RX9) (T := TX9) (N := 10) hx hb hts in_wsX9_init_X9 tyX9 tyX9_ok nmX9 hown hK hP hD hS q_46 hq_46 rfl 8 (by decide +kernel) (hts (.fieldLink RX9 22 "ShipOffice$Voyage" "lostTold" "I") iw_X9_init_6) (fun _ h9 => h9) rfl (by decide +kernel) rfl rfl (Nat.le_of_ble_eq_true rfl) dX9_init_25 (fun H locs hP1 hD1 hS => ?_)
  obtain ⟨S_47, eS_47⟩ : ∃ zq, zq = setI S_32 o 8 1000000 := ⟨_, rfl⟩
  have hP : va_P (dC, dI) vwCl (oW cq S_47) H := by rw [eS_47]; exact cP (oset t_45.1 hq_46 hD rfl (he_39_8 t_45.2) neI) hP1
  have hD : va_D A (oW cq S_47) := by rw [eS_47]; exact cD (oset t_45.1 hq_46 hD rfl (he_39_8 t_45.2) neI) hD1
  clear hP1 hD1
  have hIS_47 : oInv S_47 := by rw [eS_47]; exact oInv.I0 (k := 39) (lo := -2147483648) (hi := 2147483647) hIS_32 t_45.2 (by decide +kernel) rfl rfl rfl (iv_all _)
  have XS_47 : oX [2039] S_32 S_47 := by rw [eS_47]; exact oX.I (k := 39) (key := 2039) t_45.2 rfl (List.mem_singleton.mpr rfl)
  have ik_48 : oI S_47 o 0 = 0 := by rw [eS_47, setI_ne (by decide +kernel)]; exact ik_33
  have ik_49 : oI S_47 o 1 = 0 := by rw [eS_47, setI_ne (by decide +kernel)]; exact ik_34
  have ik_50 : oI S_47 o 2 = 0 := by rw [eS_47, setI_ne (by decide +kernel)]; exact ik_35
  have ik_51 : oI S_47 o 3 = 0 := by rw [eS_47, setI_ne (by decide +kernel)]; exact ik_36
  have ik_52 : oI S_47 o 4 = 0 := by rw [eS_47, setI_ne (by decide +kernel)]; exact ik_37
  have ik_54 : oI S_47 o 5 = 1000000 := by rw [eS_47, setI_ne (by decide +kernel)]; exact ik_40
  have ik_55 : oI S_47 o 6 = 1000000 := by rw [eS_47, setI_ne (by decide +kernel)]; exact ik_41
  have ik_56 : oI S_47 o 7 = 1000000 := by rw [eS_47, setI_ne (by decide +kernel)]; exact pk_44
  have pz_57 : oP S_47 o 9 = none := by rw [eS_47]; exact pz_42
  have X_58 : oXc ([] : List Nat) o Z S_47 := by rw [eS_47]; exact oXc.I X_43
  have pk_59 : oI S_47 o 8 = 1000000 := by rw [eS_47, setI_same]
  refine lv_aload_n hx hb dX9_init_28 rfl (lv_at hl 0 rfl) ?_
  refine lv_iload_n hx hb dX9_init_29 rfl (lv_at hl 1 rfl) ?_
  have t_60 : oty S_47 o 39 := (oX.ty XS_47 t_45)
  obtain ⟨q_61, hq_61⟩ := og (cq := cq) t_60.1 (oE_39 t_60.2)
  refine va_putF (D := (dC, dI)) (ci := 9) (v := .int x1) (ty := .int) (C := RX9) (T := TX9) (N := 10) hx hb hts in_wsX9_init_X9 tyX9 tyX9_ok nmX9 hown hK hP hD hS q_61 hq_61 rfl 0 (by decide +kernel) (hts (.fieldLink RX9 25 "ShipOffice$Voyage" "number" "I") iw_X9_init_7) (fun _ h9 => h9) rfl hin rfl (by decide +kernel) rfl rfl (Nat.le_of_ble_eq_true rfl) dX9_init_30 (fun H locs hP1 hD1 hS => ?_)
  obtain ⟨S_62, eS_62⟩ : ∃ zq, zq = setI S_47 o 0 x1 := ⟨_, rfl⟩
  have hP : va_P (dC, dI) vwCl (oW cq S_62) H := by rw [eS_62]; exact cP (oset t_60.1 hq_61 hD rfl (he_39_0 t_60.2) neI) hP1
  have hD : va_D A (oW cq S_62) := by rw [eS_62]; exact cD (oset t_60.1 hq_61 hD rfl (he_39_0 t_60.2) neI) hD1
  clear hP1 hD1
  have hIS_62 : oInv S_62 := by rw [eS_62]; exact oInv.I0 (k := 39) (lo := -2147483648) (hi := 2147483647) hIS_47 t_60.2 (by decide +kernel) rfl rfl rfl (iv_all _)
  have XS_62 : oX [2039] S_47 S_62 := by rw [eS_62]; exact oX.I (k := 39) (key := 2039) t_60.2 rfl (List.mem_singleton.mpr rfl)
  have ik_64 : oI S_62 o 1 = 0 := by rw [eS_62, setI_ne (by decide +kernel)]; exact ik_49
  have ik_65 : oI S_62 o 2 = 0 := by rw [eS_62, setI_ne (by decide +kernel)]; exact ik_50
  have ik_66 : oI S_62 o 3 = 0 := by rw [eS_62, setI_ne (by decide +kernel)]; exact ik_51
  have ik_67 : oI S_62 o 4 = 0 := by rw [eS_62, setI_ne (by decide +kernel)]; exact ik_52
  have ik_68 : oI S_62 o 5 = 1000000 := by rw [eS_62, setI_ne (by decide +kernel)]; exact ik_54
  have ik_69 : oI S_62 o 6 = 1000000 := by rw [eS_62, setI_ne (by decide +kernel)]; exact ik_55
  have ik_70 : oI S_62 o 7 = 1000000 := by rw [eS_62, setI_ne (by decide +kernel)]; exact ik_56
  have ik_71 : oI S_62 o 8 = 1000000 := by rw [eS_62, setI_ne (by decide +kernel)]; exact pk_59
  have pz_72 : oP S_62 o 9 = none := by rw [eS_62]; exact pz_57
  have X_73 : oXc ([] : List Nat) o Z S_62 := by rw [eS_62]; exact oXc.I X_58
  have pk_74 : oI S_62 o 0 = x1 := by rw [eS_62, setI_same]
  refine lv_aload_n hx hb dX9_init_33 rfl (lv_at hl 0 rfl) ?_
  refine lv_iload_n hx hb dX9_init_34 rfl (lv_at hl 2 rfl) ?_
  have t_75 : oty S_62 o 39 := (oX.ty XS_62 t_60)
  obtain ⟨q_76, hq_76⟩ := og (cq := cq) t_75.1 (oE_39 t_75.2)
  refine va_putF (D := (dC, dI)) (ci := 9) (v := .int x2) (ty := .int) (C := RX9) (T := TX9) (N := 10) hx hb hts in_wsX9_init_X9 tyX9 tyX9_ok nmX9 hown hK hP hD hS q_76 hq_76 rfl 1 (by decide +kernel) (hts (.fieldLink RX9 28 "ShipOffice$Voyage" "ship" "I") iw_X9_init_8) (fun _ h9 => h9) rfl hin rfl (by decide +kernel) rfl rfl (Nat.le_of_ble_eq_true rfl) dX9_init_35 (fun H locs hP1 hD1 hS => ?_)
  obtain ⟨S_77, eS_77⟩ : ∃ zq, zq = setI S_62 o 1 x2 := ⟨_, rfl⟩
  have hP : va_P (dC, dI) vwCl (oW cq S_77) H := by rw [eS_77]; exact cP (oset t_75.1 hq_76 hD rfl (he_39_1 t_75.2) neI) hP1
  have hD : va_D A (oW cq S_77) := by rw [eS_77]; exact cD (oset t_75.1 hq_76 hD rfl (he_39_1 t_75.2) neI) hD1
  clear hP1 hD1
  have hIS_77 : oInv S_77 := by rw [eS_77]; exact oInv.I0 (k := 39) (lo := -2147483648) (hi := 2147483647) hIS_62 t_75.2 (by decide +kernel) rfl rfl rfl (iv_all _)
  have XS_77 : oX [2039] S_62 S_77 := by rw [eS_77]; exact oX.I (k := 39) (key := 2039) t_75.2 rfl (List.mem_singleton.mpr rfl)
  have ik_79 : oI S_77 o 2 = 0 := by rw [eS_77, setI_ne (by decide +kernel)]; exact ik_65
  have ik_80 : oI S_77 o 3 = 0 := by rw [eS_77, setI_ne (by decide +kernel)]; exact ik_66
  have ik_81 : oI S_77 o 4 = 0 := by rw [eS_77, setI_ne (by decide +kernel)]; exact ik_67
  have ik_82 : oI S_77 o 5 = 1000000 := by rw [eS_77, setI_ne (by decide +kernel)]; exact ik_68
  have ik_83 : oI S_77 o 6 = 1000000 := by rw [eS_77, setI_ne (by decide +kernel)]; exact ik_69
  have ik_84 : oI S_77 o 7 = 1000000 := by rw [eS_77, setI_ne (by decide +kernel)]; exact ik_70
  have ik_85 : oI S_77 o 8 = 1000000 := by rw [eS_77, setI_ne (by decide +kernel)]; exact ik_71
  have ik_86 : oI S_77 o 0 = x1 := by rw [eS_77, setI_ne (by decide +kernel)]; exact pk_74
  have pz_87 : oP S_77 o 9 = none := by rw [eS_77]; exact pz_72
  have X_88 : oXc ([] : List Nat) o Z S_77 := by rw [eS_77]; exact oXc.I X_73
  have pk_89 : oI S_77 o 1 = x2 := by rw [eS_77, setI_same]
  refine lv_aload_n hx hb dX9_init_38 rfl (lv_at hl 0 rfl) ?_
  refine lv_iload_n hx hb dX9_init_39 rfl (lv_at hl 3 rfl) ?_
  have t_90 : oty S_77 o 39 := (oX.ty XS_77 t_75)
  obtain ⟨q_91, hq_91⟩ := og (cq := cq) t_90.1 (oE_39 t_90.2)
  refine va_putF (D := (dC, dI)) (ci := 9) (v := .int x3) (ty := .int) (C := RX9) (T := TX9) (N := 10) hx hb hts in_wsX9_init_X9 tyX9 tyX9_ok nmX9 hown hK hP hD hS q_91 hq_91 rfl 2 (by decide +kernel) (hts (.fieldLink RX9 31 "ShipOffice$Voyage" "port" "I") iw_X9_init_9) (fun _ h9 => h9) rfl hin rfl (by decide +kernel) rfl rfl (Nat.le_of_ble_eq_true rfl) dX9_init_40 (fun H locs hP1 hD1 hS => ?_)
  obtain ⟨S_92, eS_92⟩ : ∃ zq, zq = setI S_77 o 2 x3 := ⟨_, rfl⟩
  have hP : va_P (dC, dI) vwCl (oW cq S_92) H := by rw [eS_92]; exact cP (oset t_90.1 hq_91 hD rfl (he_39_2 t_90.2) neI) hP1
  have hD : va_D A (oW cq S_92) := by rw [eS_92]; exact cD (oset t_90.1 hq_91 hD rfl (he_39_2 t_90.2) neI) hD1
  clear hP1 hD1
  have hIS_92 : oInv S_92 := by rw [eS_92]; exact oInv.I0 (k := 39) (lo := 0) (hi := 9) hIS_77 t_90.2 (by decide +kernel) rfl rfl rfl (by omega)
  have XS_92 : oX [2039] S_77 S_92 := by rw [eS_92]; exact oX.I (k := 39) (key := 2039) t_90.2 rfl (List.mem_singleton.mpr rfl)
  have ik_94 : oI S_92 o 3 = 0 := by rw [eS_92, setI_ne (by decide +kernel)]; exact ik_80
  have ik_95 : oI S_92 o 4 = 0 := by rw [eS_92, setI_ne (by decide +kernel)]; exact ik_81
  have ik_96 : oI S_92 o 5 = 1000000 := by rw [eS_92, setI_ne (by decide +kernel)]; exact ik_82
  have ik_97 : oI S_92 o 6 = 1000000 := by rw [eS_92, setI_ne (by decide +kernel)]; exact ik_83
  have ik_98 : oI S_92 o 7 = 1000000 := by rw [eS_92, setI_ne (by decide +kernel)]; exact ik_84
  have ik_99 : oI S_92 o 8 = 1000000 := by rw [eS_92, setI_ne (by decide +kernel)]; exact ik_85
  have ik_100 : oI S_92 o 0 = x1 := by rw [eS_92, setI_ne (by decide +kernel)]; exact ik_86
  have ik_101 : oI S_92 o 1 = x2 := by rw [eS_92, setI_ne (by decide +kernel)]; exact pk_89
  have pz_102 : oP S_92 o 9 = none := by rw [eS_92]; exact pz_87
  have X_103 : oXc ([] : List Nat) o Z S_92 := by rw [eS_92]; exact oXc.I X_88
  have pk_104 : oI S_92 o 2 = x3 := by rw [eS_92, setI_same]
  refine lv_aload_n hx hb dX9_init_43 rfl (lv_at hl 0 rfl) ?_
  refine lv_iload hx hb dX9_init_44 (lv_at hl 4 rfl) ?_
  have t_105 : oty S_92 o 39 := (oX.ty XS_92 t_90)
  obtain ⟨q_106, hq_106⟩ := og (cq := cq) t_105.1 (oE_39 t_105.2)
  refine va_putF (D := (dC, dI)) (ci := 9) (v := .int x4) (ty := .int) (C := RX9) (T := TX9) (N := 10) hx hb hts in_wsX9_init_X9 tyX9 tyX9_ok nmX9 hown hK hP hD hS q_106 hq_106 rfl 3 (by decide +kernel) (hts (.fieldLink RX9 34 "ShipOffice$Voyage" "openedOn" "I") iw_X9_init_10) (fun _ h9 => h9) rfl hin rfl (by decide +kernel) rfl rfl (Nat.le_of_ble_eq_true rfl) dX9_init_46 (fun H locs hP1 hD1 hS => ?_)
  obtain ⟨S_107, eS_107⟩ : ∃ zq, zq = setI S_92 o 3 x4 := ⟨_, rfl⟩
  have hP : va_P (dC, dI) vwCl (oW cq S_107) H := by rw [eS_107]; exact cP (oset t_105.1 hq_106 hD rfl (he_39_3 t_105.2) neI) hP1
  have hD : va_D A (oW cq S_107) := by rw [eS_107]; exact cD (oset t_105.1 hq_106 hD rfl (he_39_3 t_105.2) neI) hD1
  clear hP1 hD1
  have hIS_107 : oInv S_107 := by rw [eS_107]; exact oInv.I0 (k := 39) (lo := 0) (hi := 3000) hIS_92 t_105.2 (by decide +kernel) rfl rfl rfl (by omega)
  have XS_107 : oX [2039] S_92 S_107 := by rw [eS_107]; exact oX.I (k := 39) (key := 2039) t_105.2 rfl (List.mem_singleton.mpr rfl)
  have ik_109 : oI S_107 o 4 = 0 := by rw [eS_107, setI_ne (by decide +kernel)]; exact ik_95
  have ik_110 : oI S_107 o 5 = 1000000 := by rw [eS_107, setI_ne (by decide +kernel)]; exact ik_96
  have ik_111 : oI S_107 o 6 = 1000000 := by rw [eS_107, setI_ne (by decide +kernel)]; exact ik_97
  have ik_112 : oI S_107 o 7 = 1000000 := by rw [eS_107, setI_ne (by decide +kernel)]; exact ik_98
  have ik_113 : oI S_107 o 8 = 1000000 := by rw [eS_107, setI_ne (by decide +kernel)]; exact ik_99
  have ik_114 : oI S_107 o 0 = x1 := by rw [eS_107, setI_ne (by decide +kernel)]; exact ik_100
  have ik_115 : oI S_107 o 1 = x2 := by rw [eS_107, setI_ne (by decide +kernel)]; exact ik_101
  have ik_116 : oI S_107 o 2 = x3 := by rw [eS_107, setI_ne (by decide +kernel)]; exact pk_104
  have pz_117 : oP S_107 o 9 = none := by rw [eS_107]; exact pz_102
  have X_118 : oXc ([] : List Nat) o Z S_107 := by rw [eS_107]; exact oXc.I X_103
  have pk_119 : oI S_107 o 3 = x4 := by rw [eS_107, setI_same]
  have t_121 : oty S_107 o 39 := (oX.ty XS_107 t_105)
  obtain ⟨S_120, eS_120⟩ : ∃ zq, zq = setK S_107 o 9 := ⟨_, rfl⟩
  have hP : va_P (dC, dI) vwCl (oW cq S_120) H := by rw [eS_120]; exact cP (ret_W (c := 9) t_121.2 (by decide +kernel)) hP
  have hD : va_D A (oW cq S_120) := by rw [eS_120]; exact cD (ret_W (c := 9) t_121.2 (by decide +kernel)) hD
  have hIS_120 : oInv S_120 := by rw [eS_120]; exact oInv.ret (c := 9) hIS_107 t_121 (by decide +kernel) (fun i hi => (nn_9 hi).elim) (fun i p hp => (ct_no hp (by decide +kernel) (by decide +kernel) (by decide +kernel)).elim) (fun h => absurd h (by decide +kernel)) (fun h => absurd h (by decide +kernel)) (fun h => absurd h (by decide +kernel))
  have XS_120 : oXc ([] : List Nat) o Z S_120 := by rw [eS_120]; exact oXc.K X_118
  have tS_120 : oty S_120 o 9 := by rw [eS_120]; exact K_ty t_121.1
  have ik_122 : oI S_120 o 4 = 0 := by rw [eS_120]; exact ik_109
  have ik_123 : oI S_120 o 5 = 1000000 := by rw [eS_120]; exact ik_110
  have ik_124 : oI S_120 o 6 = 1000000 := by rw [eS_120]; exact ik_111
  have ik_125 : oI S_120 o 7 = 1000000 := by rw [eS_120]; exact ik_112
  have ik_126 : oI S_120 o 8 = 1000000 := by rw [eS_120]; exact ik_113
  have ik_127 : oI S_120 o 0 = x1 := by rw [eS_120]; exact ik_114
  have ik_128 : oI S_120 o 1 = x2 := by rw [eS_120]; exact ik_115
  have ik_129 : oI S_120 o 2 = x3 := by rw [eS_120]; exact ik_116
  have ik_130 : oI S_120 o 3 = x4 := by rw [eS_120]; exact pk_119
  have pz_131 : oP S_120 o 9 = none := by rw [eS_120]; exact pz_117
  exact W.vret hx hb hr (fun t ht hW => ⟨⟨S_120, rfl, ⟨hIS_120, XS_120, ⟨tS_120, ⟨ik_127, ik_128, ik_129, ik_130, ik_122, ik_123, ik_124, ik_125, ik_126, pz_131⟩⟩⟩, ⟨by rw [ht]; exact hP, va_K.moved hW.alike hK, hD⟩⟩, hS.F ht⟩) hS.2.2 dX9_init_49
set_option maxHeartbeats 4000000 in
set_option maxRecDepth 100000 in
theorem c_X1_init_c (l : Launch) (dC : Nat → ClassId) (dI : Nat → Nat → Nat) (sz : Nat) (tL tS tG : Nat) (cq : Nat → ClassId) (Z : oS) (gI : oInv Z) (o : Nat) (to : oty Z o 31) (a1 : Nat) (ta1 : oty Z a1 6) (a2 : Nat) (ta2 : oty Z a2 9) (x3 : Int32) (r4 : Option Nat) (tr4 : ∀ b, r4 = some b → oty Z b 1) (hz : ∀ j, oI Z o j = 0) (hp : ∀ j, oP Z o j = none) : Met l yX1_init wsX1_init ({ frames := 1, cells := 3, slots := 46, locals := 14 }) (va_Pc [.ref o, .ref a1, .ref a2, .int x3, va_rf r4] (pcO (dC, dI) (oT cq) (oW cq Z) sz tL tS tG (oW cq Z))) (va_Qv (fun (u : oS) => oInv u ∧ oXc ([] : List Nat) o Z u ∧ (oty u o 1 ∧ oP u o 0 = some a1 ∧ oP u o 1 = some a2 ∧ oI u o 2 = x3 ∧ oP u o 3 = r4 ∧ oI u o 4 = 0 ∧ oI u o 5 = 0 ∧ oI u o 6 = 1000000 ∧ oI u o 7 = 0 ∧ oP u o 8 = none ∧ oI u o 9 = 0 ∧ oI u o 10 = 0 ∧ oI u o 11 = 0 ∧ (∃ rw, oP u o 12 = some rw ∧ rw ∉ oL Z) ∧ oI u o 13 = 0 ∧ (∃ rw, oP u o 14 = some rw ∧ rw ∉ oL Z) ∧ (∃ rw, oP u o 15 = some rw ∧ rw ∉ oL Z) ∧ oI u o 16 = 0 ∧ oI u o 17 = 0)) (fun u t => va_P (dC, dI) vwCl (oW cq u) t.heap ∧ va_K (dC, dI) vwCl (oT cq) t ∧ va_D (va_A (oW cq Z) sz) (oW cq u)) (va_A (oW cq Z) sz)) 3 46 (va_A (oW cq Z) sz) := by
  rcases r4 with _ | br4
  · refine Met.ofW (cc := cX1_init) (maxL := 5) (ret := none) (by decide +kernel) rfl ?_
    intro p e s m args below meth c s₁ B hml hv
    obtain ⟨rfl, ⟨hsz, hP, hK, hD0⟩, hZ⟩ := hv
    have hx := B.exec
    have hb := B.bytes
    have hr := B.returns
    have hts := atoms_spec (ws := wsX1_init) B.pre
    have hown : s.vm.findClass RX1 = some m.cls := findClass_of_methodNamed B.named
    have hlocks := B.notSynchronized
    have hin : meth.name = "<init>" := (name_of_methodNamed B.named B.method).1
    subst hsz
    have hD := hD0.self (sz := s.heap.size)
    generalize hAe : va_A (oW cq Z) s.heap.size = A at hD hZ ⊢
    have hA : ∀ q : Nat, s.heap.size ≤ q → A q := fun q h => by rw [← hAe]; exact Or.inr h
    have hS : va_S A s.heap s.heap [] := va_S.rf
    have hP : va_P (dC, dI) vwCl (oW cq Z) s.heap := hP
    have hl := lv_entry ([.ref o, .ref a1, .ref a2, .int x3, va_rf none]) (n := 5) (Nat.le_of_ble_eq_true rfl)
    rw [lg_entry_eq]
    generalize (lg_sl ([.ref o, .ref a1, .ref a2, .int x3, va_rf none]) ++ List.replicate (5 - (lg_sl ([.ref o, .ref a1, .ref a2, .int x3, va_rf none])).length) Slot.unset).toArray = ls at hl ⊢
    have hl : lv_has ls 5 [(0, .ref o), (1, .ref a1), (2, .ref a2), (3, .int x3), (4, va_rf none)] := hl
    have hl : lv_has ls 5 [(0, .ref o), (1, .ref a1), (2, .ref a2), (3, .int x3), (4, .null)] := hl
    refine lv_aload_n hx hb dX1_init_0 rfl (lv_at hl 0 rfl) ?_
    refine W.objInit hx hb hown (hts (.methodLink RX1 3 objectInit) iw_X1_init_1) (hts (.instanceMethod objectInit) iw_X1_init_2) (hts (.code objectInit ⟨#[0xb1]⟩ 1 none) (in_obj_wsX1_init)) rfl (by rw [hml]; exact hl.1) rfl dX1_init_1 (Nat.le_of_ble_eq_true rfl) (Nat.le_of_ble_eq_true rfl) ?_
    refine W.eq (g2 := F0 m 4 ls []) rfl ?_
    refine lv_aload_n hx hb dX1_init_4 rfl (lv_at hl 0 rfl) ?_
    refine lv_ldc (v := 1000000) hx hb hown (hts (.constant RX1 9 (1000000)) (by decide +kernel)) dX1_init_5 ?_
    obtain ⟨q_1, hq_1⟩ := og (cq := cq) to.1 (oE_31 to.2)
    refine va_put (D := (dC, dI)) (ci := 1) (v := .int 1000000) (ty := .int) (C := RX1) (T := TX1) (N := 18) hx hb hts in_wsX1_init_X1 tyX1 tyX1_ok nmX1 hown hK hP hD hS q_1 hq_1 rfl 6 (by decide +kernel) (hts (.fieldLink RX1 10 "ShipOffice$Agreement" "offDay" "I") iw_X1_init_3) (fun _ h9 => h9) rfl (by decide +kernel) rfl rfl (Nat.le_of_ble_eq_true rfl) dX1_init_7 (fun H locs hP1 hD1 hS => ?_)
    obtain ⟨S_2, eS_2⟩ : ∃ zq, zq = setI Z o 6 1000000 := ⟨_, rfl⟩
    have hP : va_P (dC, dI) vwCl (oW cq S_2) H := by rw [eS_2]; exact cP (oset to.1 hq_1 hD rfl (he_31_6 to.2) neI) hP1
    have hD : va_D A (oW cq S_2) := by rw [eS_2]; exact cD (oset to.1 hq_1 hD rfl (he_31_6 to.2) neI) hD1
    clear hP1 hD1
    have hIS_2 : oInv S_2 := by rw [eS_2]; exact oInv.I0 (k := 31) (lo := -2147483648) (hi := 2147483647) gI to.2 (by decide +kernel) rfl rfl rfl (iv_all _)
    have XS_2 : oX [2031] Z S_2 := by rw [eS_2]; exact oX.I (k := 31) (key := 2031) to.2 rfl (List.mem_singleton.mpr rfl)
    have ik_3 : oI S_2 o 2 = 0 := by rw [eS_2, setI_ne (by decide +kernel)]; exact (hz 2)
    have ik_4 : oI S_2 o 4 = 0 := by rw [eS_2, setI_ne (by decide +kernel)]; exact (hz 4)
    have ik_5 : oI S_2 o 5 = 0 := by rw [eS_2, setI_ne (by decide +kernel)]; exact (hz 5)
    have ik_7 : oI S_2 o 7 = 0 := by rw [eS_2, setI_ne (by decide +kernel)]; exact (hz 7)
    have ik_8 : oI S_2 o 9 = 0 := by rw [eS_2, setI_ne (by decide +kernel)]; exact (hz 9)
    have ik_9 : oI S_2 o 10 = 0 := by rw [eS_2, setI_ne (by decide +kernel)]; exact (hz 10)
    have ik_10 : oI S_2 o 11 = 0 := by rw [eS_2, setI_ne (by decide +kernel)]; exact (hz 11)
    have ik_11 : oI S_2 o 13 = 0 := by rw [eS_2, setI_ne (by decide +kernel)]; exact (hz 13)
    have ik_12 : oI S_2 o 16 = 0 := by rw [eS_2, setI_ne (by decide +kernel)]; exact (hz 16)
    have ik_13 : oI S_2 o 17 = 0 := by rw [eS_2, setI_ne (by decide +kernel)]; exact (hz 17)
    have pz_14 : oP S_2 o 0 = none := by rw [eS_2]; exact (hp 0)
    have pz_15 : oP S_2 o 1 = none := by rw [eS_2]; exact (hp 1)
    have pz_16 : oP S_2 o 3 = none := by rw [eS_2]; exact (hp 3)
    have pz_17 : oP S_2 o 8 = none := by rw [eS_2]; exact (hp 8)
    have pz_18 : oP S_2 o 12 = none := by rw [eS_2]; exact (hp 12)
    have pz_19 : oP S_2 o 14 = none := by rw [eS_2]; exact (hp 14)
    have pz_20 : oP S_2 o 15 = none := by rw [eS_2]; exact (hp 15)
    have X_21 : oXc ([] : List Nat) o Z S_2 := by rw [eS_2]; exact oXc.I oXc.rf
    have pk_22 : oI S_2 o 6 = 1000000 := by rw [eS_2, setI_same]
    refine lv_aload_n hx hb dX1_init_10 rfl (lv_at hl 0 rfl) ?_
    refine lv_bipush (v := 6) hx hb dX1_init_11 (by decide +kernel) ?_
    refine va_newq (N' := 6) hx hb hown (hts (.classLink RX1 16 RX2) iw_X1_init_4) hZ.2.2.2.1 hK hP hD hS hA (by decide +kernel) (by decide +kernel) (by decide +kernel) (Nat.le_of_ble_eq_true rfl) (Nat.le_of_ble_eq_true rfl) dX1_init_13 (fun q_23 k_24 H hK1 hP1 hD1 hS => ?_)
    obtain ⟨rfl, -⟩ := lv_ad (k := 6) hK1 rfl
    clear hK1
    have hnq_23 := add_q hD1
    obtain ⟨S_25, eS_25⟩ : ∃ zq, zq = addO S_2 q_23 17 := ⟨_, rfl⟩
    have hP : va_P (dC, dI) vwCl (oW cq S_25) H := by rw [eS_25]; exact cP (onew hD1 (by rw [oE_17 add_K, add_P])) hP1
    have hD : va_D A (oW cq S_25) := by rw [eS_25]; exact cD (onew hD1 (by rw [oE_17 add_K, add_P])) hD1
    clear hP1 hD1
    have hIS_25 : oInv S_25 := by rw [eS_25]; exact oInv.add hIS_2 hnq_23 (by decide +kernel)
    have XS_25 : oX [] S_2 S_25 := by rw [eS_25]; exact oX.add hnq_23
    have nzq_23 : q_23 ∉ oL Z := oXc.nin X_21 hnq_23
    have ik_26 : oI S_25 o 2 = 0 := by rw [eS_25, add_In hnq_23 (oX.ty XS_2 to).1]; exact ik_3
    have ik_27 : oI S_25 o 4 = 0 := by rw [eS_25, add_In hnq_23 (oX.ty XS_2 to).1]; exact ik_4
    have ik_28 : oI S_25 o 5 = 0 := by rw [eS_25, add_In hnq_23 (oX.ty XS_2 to).1]; exact ik_5
    have ik_29 : oI S_25 o 7 = 0 := by rw [eS_25, add_In hnq_23 (oX.ty XS_2 to).1]; exact ik_7
    have ik_30 : oI S_25 o 9 = 0 := by rw [eS_25, add_In hnq_23 (oX.ty XS_2 to).1]; exact ik_8
    have ik_31 : oI S_25 o 10 = 0 := by rw [eS_25, add_In hnq_23 (oX.ty XS_2 to).1]; exact ik_9
    have ik_32 : oI S_25 o 11 = 0 := by rw [eS_25, add_In hnq_23 (oX.ty XS_2 to).1]; exact ik_10
    have ik_33 : oI S_25 o 13 = 0 := by rw [eS_25, add_In hnq_23 (oX.ty XS_2 to).1]; exact ik_11
    have ik_34 : oI S_25 o 16 = 0 := by rw [eS_25, add_In hnq_23 (oX.ty XS_2 to).1]; exact ik_12
    have ik_35 : oI S_25 o 17 = 0 := by rw [eS_25, add_In hnq_23 (oX.ty XS_2 to).1]; exact ik_13
    have ik_36 : oI S_25 o 6 = 1000000 := by rw [eS_25, add_In hnq_23 (oX.ty XS_2 to).1]; exact pk_22
    have pz_37 : oP S_25 o 0 = none := by rw [eS_25, add_Pn hnq_23 (oX.ty XS_2 to).1]; exact pz_14
    have pz_38 : oP S_25 o 1 = none := by rw [eS_25, add_Pn hnq_23 (oX.ty XS_2 to).1]; exact pz_15
    have pz_39 : oP S_25 o 3 = none := by rw [eS_25, add_Pn hnq_23 (oX.ty XS_2 to).1]; exact pz_16
    have pz_40 : oP S_25 o 8 = none := by rw [eS_25, add_Pn hnq_23 (oX.ty XS_2 to).1]; exact pz_17
    have pz_41 : oP S_25 o 12 = none := by rw [eS_25, add_Pn hnq_23 (oX.ty XS_2 to).1]; exact pz_18
    have pz_42 : oP S_25 o 14 = none := by rw [eS_25, add_Pn hnq_23 (oX.ty XS_2 to).1]; exact pz_19
    have pz_43 : oP S_25 o 15 = none := by rw [eS_25, add_Pn hnq_23 (oX.ty XS_2 to).1]; exact pz_20
    have X_44 : oXc ([] : List Nat) o Z S_25 := oXc.st X_21 XS_25 (by decide +kernel)
    have tq_23 : oty S_25 q_23 17 := by rw [eS_25]; exact add_ty
    refine W.widen (k := 1) (n := 6) (Nat.le_of_ble_eq_true rfl) (Nat.le_of_ble_eq_true rfl) ?_
    have t_45 : oty S_25 o 31 := (oX.ty XS_25 (oX.ty XS_2 to))
    obtain ⟨q_46, hq_46⟩ := og (cq := cq) t_45.1 (oE_31 t_45.2)
    refine va_putF (D := (dC, dI)) (ci := 1) (v := .ref q_23) (ty := .array (.object "ShipOffice$Fine")) (C := RX1) (T := TX1) (N := 18) hx hb hts in_wsX1_init_X1 tyX1 tyX1_ok nmX1 hown hK hP hD hS q_46 hq_46 rfl 12 (by decide +kernel) (hts (.fieldLink RX1 18 "ShipOffice$Agreement" "fines" "[LShipOffice$Fine;") iw_X1_init_5) (fun _ h9 => h9) rfl hin rfl (by decide +kernel) rfl rfl (Nat.le_of_ble_eq_true rfl) dX1_init_16 (fun H locs hP1 hD1 hS => ?_)
    obtain ⟨S_47, eS_47⟩ : ∃ zq, zq = setP S_25 o 12 (some q_23) := ⟨_, rfl⟩
    have hP : va_P (dC, dI) vwCl (oW cq S_47) H := by rw [eS_47]; exact cP (oset t_45.1 hq_46 hD rfl (he_31_12 t_45.2) neP) hP1
    have hD : va_D A (oW cq S_47) := by rw [eS_47]; exact cD (oset t_45.1 hq_46 hD rfl (he_31_12 t_45.2) neP) hD1
    clear hP1 hD1
    have hIS_47 : oInv S_47 := by rw [eS_47]; exact oInv.P (k := 31) hIS_25 t_45.2 (by decide +kernel) rfl (by decide +kernel) tq_23 (by decide +kernel)
    have XS_47 : oX [2031] S_25 S_47 := by rw [eS_47]; exact oX.P (k := 31) (key := 2031) t_45.2 rfl (List.mem_singleton.mpr rfl)
    have ik_48 : oI S_47 o 2 = 0 := by rw [eS_47]; exact ik_26
    have ik_49 : oI S_47 o 4 = 0 := by rw [eS_47]; exact ik_27
    have ik_50 : oI S_47 o 5 = 0 := by rw [eS_47]; exact ik_28
    have ik_51 : oI S_47 o 7 = 0 := by rw [eS_47]; exact ik_29
    have ik_52 : oI S_47 o 9 = 0 := by rw [eS_47]; exact ik_30
    have ik_53 : oI S_47 o 10 = 0 := by rw [eS_47]; exact ik_31
    have ik_54 : oI S_47 o 11 = 0 := by rw [eS_47]; exact ik_32
    have ik_55 : oI S_47 o 13 = 0 := by rw [eS_47]; exact ik_33
    have ik_56 : oI S_47 o 16 = 0 := by rw [eS_47]; exact ik_34
    have ik_57 : oI S_47 o 17 = 0 := by rw [eS_47]; exact ik_35
    have ik_58 : oI S_47 o 6 = 1000000 := by rw [eS_47]; exact ik_36
    have pz_59 : oP S_47 o 0 = none := by rw [eS_47, setP_ne (by decide +kernel)]; exact pz_37
    have pz_60 : oP S_47 o 1 = none := by rw [eS_47, setP_ne (by decide +kernel)]; exact pz_38
    have pz_61 : oP S_47 o 3 = none := by rw [eS_47, setP_ne (by decide +kernel)]; exact pz_39
    have pz_62 : oP S_47 o 8 = none := by rw [eS_47, setP_ne (by decide +kernel)]; exact pz_40
    have pz_64 : oP S_47 o 14 = none := by rw [eS_47, setP_ne (by decide +kernel)]; exact pz_42
    have pz_65 : oP S_47 o 15 = none := by rw [eS_47, setP_ne (by decide +kernel)]; exact pz_43
    have X_66 : oXc ([] : List Nat) o Z S_47 := by rw [eS_47]; exact oXc.P X_44
    have pk_67 : oP S_47 o 12 = some q_23 := by rw [eS_47, setP_same]
    refine lv_aload_n hx hb dX1_init_19 rfl (lv_at hl 0 rfl) ?_
    refine lv_bipush (v := 20) hx hb dX1_init_20 (by decide +kernel) ?_
    refine va_newa (atype := .int) (ty := .int) (a0 := (20, .inl (fun _ => 0))) hx hb (hts (.arrayClass .int) iw_X1_init_6) rfl hK hP hD hS hA (fun _ => rfl) (by decide +kernel) (by decide +kernel) (by decide +kernel) (Nat.le_of_ble_eq_true rfl) (Nat.le_of_ble_eq_true rfl) dX1_init_22 (fun q_68 k_69 H hK1 hP1 hD1 hS => ?_)
    obtain ⟨rfl, -⟩ := lv_ad (k := 0) hK1 rfl
    clear hK1
    have hnq_68 := add_q hD1
    obtain ⟨S_70, eS_70⟩ : ∃ zq, zq = addO S_47 q_68 120 := ⟨_, rfl⟩
    have hP : va_P (dC, dI) vwCl (oW cq S_70) H := by rw [eS_70]; exact cP (onew hD1 (by rw [oE_a1 (n := 20) add_K (by decide +kernel), add_I])) hP1
    have hD : va_D A (oW cq S_70) := by rw [eS_70]; exact cD (onew hD1 (by rw [oE_a1 (n := 20) add_K (by decide +kernel), add_I])) hD1
    clear hP1 hD1
    have hIS_70 : oInv S_70 := by rw [eS_70]; exact oInv.add hIS_47 hnq_68 (by decide +kernel)
    have XS_70 : oX [] S_47 S_70 := by rw [eS_70]; exact oX.add hnq_68
    have nzq_68 : q_68 ∉ oL Z := oXc.nin X_66 hnq_68
    have pk_71 : oP S_70 o 12 = some q_23 := by rw [eS_70, add_Pn hnq_68 (oX.ty XS_47 t_45).1]; exact pk_67
    have ik_72 : oI S_70 o 2 = 0 := by rw [eS_70, add_In hnq_68 (oX.ty XS_47 t_45).1]; exact ik_48
    have ik_73 : oI S_70 o 4 = 0 := by rw [eS_70, add_In hnq_68 (oX.ty XS_47 t_45).1]; exact ik_49
    have ik_74 : oI S_70 o 5 = 0 := by rw [eS_70, add_In hnq_68 (oX.ty XS_47 t_45).1]; exact ik_50
    have ik_75 : oI S_70 o 7 = 0 := by rw [eS_70, add_In hnq_68 (oX.ty XS_47 t_45).1]; exact ik_51
    have ik_76 : oI S_70 o 9 = 0 := by rw [eS_70, add_In hnq_68 (oX.ty XS_47 t_45).1]; exact ik_52
    have ik_77 : oI S_70 o 10 = 0 := by rw [eS_70, add_In hnq_68 (oX.ty XS_47 t_45).1]; exact ik_53
    have ik_78 : oI S_70 o 11 = 0 := by rw [eS_70, add_In hnq_68 (oX.ty XS_47 t_45).1]; exact ik_54
    have ik_79 : oI S_70 o 13 = 0 := by rw [eS_70, add_In hnq_68 (oX.ty XS_47 t_45).1]; exact ik_55
    have ik_80 : oI S_70 o 16 = 0 := by rw [eS_70, add_In hnq_68 (oX.ty XS_47 t_45).1]; exact ik_56
    have ik_81 : oI S_70 o 17 = 0 := by rw [eS_70, add_In hnq_68 (oX.ty XS_47 t_45).1]; exact ik_57
    have ik_82 : oI S_70 o 6 = 1000000 := by rw [eS_70, add_In hnq_68 (oX.ty XS_47 t_45).1]; exact ik_58
    have pz_83 : oP S_70 o 0 = none := by rw [eS_70, add_Pn hnq_68 (oX.ty XS_47 t_45).1]; exact pz_59
    have pz_84 : oP S_70 o 1 = none := by rw [eS_70, add_Pn hnq_68 (oX.ty XS_47 t_45).1]; exact pz_60
    have pz_85 : oP S_70 o 3 = none := by rw [eS_70, add_Pn hnq_68 (oX.ty XS_47 t_45).1]; exact pz_61
    have pz_86 : oP S_70 o 8 = none := by rw [eS_70, add_Pn hnq_68 (oX.ty XS_47 t_45).1]; exact pz_62
    have pz_87 : oP S_70 o 14 = none := by rw [eS_70, add_Pn hnq_68 (oX.ty XS_47 t_45).1]; exact pz_64
    have pz_88 : oP S_70 o 15 = none := by rw [eS_70, add_Pn hnq_68 (oX.ty XS_47 t_45).1]; exact pz_65
    have X_89 : oXc ([] : List Nat) o Z S_70 := oXc.st X_66 XS_70 (by decide +kernel)
    have tq_68 : oty S_70 q_68 120 := by rw [eS_70]; exact add_ty
    refine W.widen (k := 2) (n := 26) (Nat.le_of_ble_eq_true rfl) (Nat.le_of_ble_eq_true rfl) ?_
    have t_90 : oty S_70 o 31 := (oX.ty XS_70 (oX.ty XS_47 t_45))
    obtain ⟨q_91, hq_91⟩ := og (cq := cq) t_90.1 (oE_31 t_90.2)
    refine va_putF (D := (dC, dI)) (ci := 1) (v := .ref q_68) (ty := .array .int) (C := RX1) (T := TX1) (N := 18) hx hb hts in_wsX1_init_X1 tyX1 tyX1_ok nmX1 hown hK hP hD hS q_91 hq_91 rfl 14 (by decide +kernel) (hts (.fieldLink RX1 22 "ShipOffice$Agreement" "shortTold" "[I") iw_X1_init_7) (fun _ h9 => h9) rfl hin rfl (by decide +kernel) rfl rfl (Nat.le_of_ble_eq_true rfl) dX1_init_24 (fun H locs hP1 hD1 hS => ?_)
    obtain ⟨S_92, eS_92⟩ : ∃ zq, zq = setP S_70 o 14 (some q_68) := ⟨_, rfl⟩
    have hP : va_P (dC, dI) vwCl (oW cq S_92) H := by rw [eS_92]; exact cP (oset t_90.1 hq_91 hD rfl (he_31_14 t_90.2) neP) hP1
    have hD : va_D A (oW cq S_92) := by rw [eS_92]; exact cD (oset t_90.1 hq_91 hD rfl (he_31_14 t_90.2) neP) hD1
    clear hP1 hD1
    have hIS_92 : oInv S_92 := by rw [eS_92]; exact oInv.P (k := 31) hIS_70 t_90.2 (by decide +kernel) rfl (by decide +kernel) tq_68 (by decide +kernel)
    have XS_92 : oX [2031] S_70 S_92 := by rw [eS_92]; exact oX.P (k := 31) (key := 2031) t_90.2 rfl (List.mem_singleton.mpr rfl)
    have pk_93 : oP S_92 o 12 = some q_23 := by rw [eS_92, setP_ne (by decide +kernel)]; exact pk_71
    have ik_94 : oI S_92 o 2 = 0 := by rw [eS_92]; exact ik_72
    have ik_95 : oI S_92 o 4 = 0 := by rw [eS_92]; exact ik_73
    have ik_96 : oI S_92 o 5 = 0 := by rw [eS_92]; exact ik_74
    have ik_97 : oI S_92 o 7 = 0 := by rw [eS_92]; exact ik_75
    have ik_98 : oI S_92 o 9 = 0 := by rw [eS_92]; exact ik_76
    have ik_99 : oI S_92 o 10 = 0 := by rw [eS_92]; exact ik_77
    have ik_100 : oI S_92 o 11 = 0 := by rw [eS_92]; exact ik_78
    have ik_101 : oI S_92 o 13 = 0 := by rw [eS_92]; exact ik_79
    have ik_102 : oI S_92 o 16 = 0 := by rw [eS_92]; exact ik_80
    have ik_103 : oI S_92 o 17 = 0 := by rw [eS_92]; exact ik_81
    have ik_104 : oI S_92 o 6 = 1000000 := by rw [eS_92]; exact ik_82
    have pz_105 : oP S_92 o 0 = none := by rw [eS_92, setP_ne (by decide +kernel)]; exact pz_83
    have pz_106 : oP S_92 o 1 = none := by rw [eS_92, setP_ne (by decide +kernel)]; exact pz_84
    have pz_107 : oP S_92 o 3 = none := by rw [eS_92, setP_ne (by decide +kernel)]; exact pz_85
    have pz_108 : oP S_92 o 8 = none := by rw [eS_92, setP_ne (by decide +kernel)]; exact pz_86
    have pz_110 : oP S_92 o 15 = none := by rw [eS_92, setP_ne (by decide +kernel)]; exact pz_88
    have X_111 : oXc ([] : List Nat) o Z S_92 := by rw [eS_92]; exact oXc.P X_89
    have pk_112 : oP S_92 o 14 = some q_68 := by rw [eS_92, setP_same]
    refine lv_aload_n hx hb dX1_init_27 rfl (lv_at hl 0 rfl) ?_
    refine lv_bipush (v := 20) hx hb dX1_init_28 (by decide +kernel) ?_
    refine va_newa (atype := .int) (ty := .int) (a0 := (20, .inl (fun _ => 0))) hx hb (hts (.arrayClass .int) iw_X1_init_6) rfl hK hP hD hS hA (fun _ => rfl) (by decide +kernel) (by decide +kernel) (by decide +kernel) (Nat.le_of_ble_eq_true rfl) (Nat.le_of_ble_eq_true rfl) dX1_init_30 (fun q_113 k_114 H hK1 hP1 hD1 hS => ?_)
    obtain ⟨rfl, -⟩ := lv_ad (k := 0) hK1 rfl
    clear hK1
    have hnq_113 := add_q hD1
    obtain ⟨S_115, eS_115⟩ : ∃ zq, zq = addO S_92 q_113 64 := ⟨_, rfl⟩
    have hP : va_P (dC, dI) vwCl (oW cq S_115) H := by rw [eS_115]; exact cP (onew hD1 (by rw [oE_64 add_K, add_I])) hP1
    have hD : va_D A (oW cq S_115) := by rw [eS_115]; exact cD (onew hD1 (by rw [oE_64 add_K, add_I])) hD1
    clear hP1 hD1
    have hIS_115 : oInv S_115 := by rw [eS_115]; exact oInv.add hIS_92 hnq_113 (by decide +kernel)
    have XS_115 : oX [] S_92 S_115 := by rw [eS_115]; exact oX.add hnq_113
    have nzq_113 : q_113 ∉ oL Z := oXc.nin X_111 hnq_113
    have pk_116 : oP S_115 o 12 = some q_23 := by rw [eS_115, add_Pn hnq_113 (oX.ty XS_92 t_90).1]; exact pk_93
    have pk_117 : oP S_115 o 14 = some q_68 := by rw [eS_115, add_Pn hnq_113 (oX.ty XS_92 t_90).1]; exact pk_112
    have ik_118 : oI S_115 o 2 = 0 := by rw [eS_115, add_In hnq_113 (oX.ty XS_92 t_90).1]; exact ik_94
    have ik_119 : oI S_115 o 4 = 0 := by rw [eS_115, add_In hnq_113 (oX.ty XS_92 t_90).1]; exact ik_95
    have ik_120 : oI S_115 o 5 = 0 := by rw [eS_115, add_In hnq_113 (oX.ty XS_92 t_90).1]; exact ik_96
    have ik_121 : oI S_115 o 7 = 0 := by rw [eS_115, add_In hnq_113 (oX.ty XS_92 t_90).1]; exact ik_97
    have ik_122 : oI S_115 o 9 = 0 := by rw [eS_115, add_In hnq_113 (oX.ty XS_92 t_90).1]; exact ik_98
    have ik_123 : oI S_115 o 10 = 0 := by rw [eS_115, add_In hnq_113 (oX.ty XS_92 t_90).1]; exact ik_99
    have ik_124 : oI S_115 o 11 = 0 := by rw [eS_115, add_In hnq_113 (oX.ty XS_92 t_90).1]; exact ik_100
    have ik_125 : oI S_115 o 13 = 0 := by rw [eS_115, add_In hnq_113 (oX.ty XS_92 t_90).1]; exact ik_101
    have ik_126 : oI S_115 o 16 = 0 := by rw [eS_115, add_In hnq_113 (oX.ty XS_92 t_90).1]; exact ik_102
    have ik_127 : oI S_115 o 17 = 0 := by rw [eS_115, add_In hnq_113 (oX.ty XS_92 t_90).1]; exact ik_103
    have ik_128 : oI S_115 o 6 = 1000000 := by rw [eS_115, add_In hnq_113 (oX.ty XS_92 t_90).1]; exact ik_104
    have pz_129 : oP S_115 o 0 = none := by rw [eS_115, add_Pn hnq_113 (oX.ty XS_92 t_90).1]; exact pz_105
    have pz_130 : oP S_115 o 1 = none := by rw [eS_115, add_Pn hnq_113 (oX.ty XS_92 t_90).1]; exact pz_106
    have pz_131 : oP S_115 o 3 = none := by rw [eS_115, add_Pn hnq_113 (oX.ty XS_92 t_90).1]; exact pz_107
    have pz_132 : oP S_115 o 8 = none := by rw [eS_115, add_Pn hnq_113 (oX.ty XS_92 t_90).1]; exact pz_108
    have pz_133 : oP S_115 o 15 = none := by rw [eS_115, add_Pn hnq_113 (oX.ty XS_92 t_90).1]; exact pz_110
    have X_134 : oXc ([] : List Nat) o Z S_115 := oXc.st X_111 XS_115 (by decide +kernel)
    have tq_113 : oty S_115 q_113 64 := by rw [eS_115]; exact add_ty
    refine W.widen (k := 3) (n := 46) (Nat.le_of_ble_eq_true rfl) (Nat.le_of_ble_eq_true rfl) ?_
    have t_135 : oty S_115 o 31 := (oX.ty XS_115 (oX.ty XS_92 t_90))
    obtain ⟨q_136, hq_136⟩ := og (cq := cq) t_135.1 (oE_31 t_135.2)
    refine va_putF (D := (dC, dI)) (ci := 1) (v := .ref q_113) (ty := .array .int) (C := RX1) (T := TX1) (N := 18) hx hb hts in_wsX1_init_X1 tyX1 tyX1_ok nmX1 hown hK hP hD hS q_136 hq_136 rfl 15 (by decide +kernel) (hts (.fieldLink RX1 26 "ShipOffice$Agreement" "shortSum" "[I") iw_X1_init_8) (fun _ h9 => h9) rfl hin rfl (by decide +kernel) rfl rfl (Nat.le_of_ble_eq_true rfl) dX1_init_32 (fun H locs hP1 hD1 hS => ?_)
    obtain ⟨S_137, eS_137⟩ : ∃ zq, zq = setP S_115 o 15 (some q_113) := ⟨_, rfl⟩
    have hP : va_P (dC, dI) vwCl (oW cq S_137) H := by rw [eS_137]; exact cP (oset t_135.1 hq_136 hD rfl (he_31_15 t_135.2) neP) hP1
    have hD : va_D A (oW cq S_137) := by rw [eS_137]; exact cD (oset t_135.1 hq_136 hD rfl (he_31_15 t_135.2) neP) hD1
    clear hP1 hD1
    have hIS_137 : oInv S_137 := by rw [eS_137]; exact oInv.P (k := 31) hIS_115 t_135.2 (by decide +kernel) rfl (by decide +kernel) tq_113 (by decide +kernel)
    have XS_137 : oX [2031] S_115 S_137 := by rw [eS_137]; exact oX.P (k := 31) (key := 2031) t_135.2 rfl (List.mem_singleton.mpr rfl)
    have pk_138 : oP S_137 o 12 = some q_23 := by rw [eS_137, setP_ne (by decide +kernel)]; exact pk_116
    have pk_139 : oP S_137 o 14 = some q_68 := by rw [eS_137, setP_ne (by decide +kernel)]; exact pk_117
    have ik_140 : oI S_137 o 2 = 0 := by rw [eS_137]; exact ik_118
    have ik_141 : oI S_137 o 4 = 0 := by rw [eS_137]; exact ik_119
    have ik_142 : oI S_137 o 5 = 0 := by rw [eS_137]; exact ik_120
    have ik_143 : oI S_137 o 7 = 0 := by rw [eS_137]; exact ik_121
    have ik_144 : oI S_137 o 9 = 0 := by rw [eS_137]; exact ik_122
    have ik_145 : oI S_137 o 10 = 0 := by rw [eS_137]; exact ik_123
    have ik_146 : oI S_137 o 11 = 0 := by rw [eS_137]; exact ik_124
    have ik_147 : oI S_137 o 13 = 0 := by rw [eS_137]; exact ik_125
    have ik_148 : oI S_137 o 16 = 0 := by rw [eS_137]; exact ik_126
    have ik_149 : oI S_137 o 17 = 0 := by rw [eS_137]; exact ik_127
    have ik_150 : oI S_137 o 6 = 1000000 := by rw [eS_137]; exact ik_128
    have pz_151 : oP S_137 o 0 = none := by rw [eS_137, setP_ne (by decide +kernel)]; exact pz_129
    have pz_152 : oP S_137 o 1 = none := by rw [eS_137, setP_ne (by decide +kernel)]; exact pz_130
    have pz_153 : oP S_137 o 3 = none := by rw [eS_137, setP_ne (by decide +kernel)]; exact pz_131
    have pz_154 : oP S_137 o 8 = none := by rw [eS_137, setP_ne (by decide +kernel)]; exact pz_132
    have X_156 : oXc ([] : List Nat) o Z S_137 := by rw [eS_137]; exact oXc.P X_134
    have pk_157 : oP S_137 o 15 = some q_113 := by rw [eS_137, setP_same]
    refine lv_aload_n hx hb dX1_init_35 rfl (lv_at hl 0 rfl) ?_
    refine lv_aload_n hx hb dX1_init_36 rfl (lv_at hl 1 rfl) ?_
    have t_158 : oty S_137 o 31 := (oX.ty XS_137 t_135)
    obtain ⟨q_159, hq_159⟩ := og (cq := cq) t_158.1 (oE_31 t_158.2)
    have t_160 : oty S_137 a1 6 := (oX.ty XS_137 (oX.ty XS_115 (oX.ty XS_92 (oX.ty XS_70 (oX.ty XS_47 (oX.ty XS_25 (oX.ty XS_2 ta1)))))))
    refine va_putF (D := (dC, dI)) (ci := 1) (v := .ref a1) (ty := .object "ShipOffice$Man") (C := RX1) (T := TX1) (N := 18) hx hb hts in_wsX1_init_X1 tyX1 tyX1_ok nmX1 hown hK hP hD hS q_159 hq_159 rfl 0 (by decide +kernel) (hts (.fieldLink RX1 29 "ShipOffice$Agreement" "man" "LShipOffice$Man;") iw_X1_init_9) (fun _ h9 => h9) rfl hin rfl (by decide +kernel) rfl rfl (Nat.le_of_ble_eq_true rfl) dX1_init_37 (fun H locs hP1 hD1 hS => ?_)
    obtain ⟨S_161, eS_161⟩ : ∃ zq, zq = setP S_137 o 0 (some a1) := ⟨_, rfl⟩
    have hP : va_P (dC, dI) vwCl (oW cq S_161) H := by rw [eS_161]; exact cP (oset t_158.1 hq_159 hD rfl (he_31_0 t_158.2) neP) hP1
    have hD : va_D A (oW cq S_161) := by rw [eS_161]; exact cD (oset t_158.1 hq_159 hD rfl (he_31_0 t_158.2) neP) hD1
    clear hP1 hD1
    have hIS_161 : oInv S_161 := by rw [eS_161]; exact oInv.P (k := 31) hIS_137 t_158.2 (by decide +kernel) rfl (by decide +kernel) t_160 (by decide +kernel)
    have XS_161 : oX [2031] S_137 S_161 := by rw [eS_161]; exact oX.P (k := 31) (key := 2031) t_158.2 rfl (List.mem_singleton.mpr rfl)
    have pk_162 : oP S_161 o 12 = some q_23 := by rw [eS_161, setP_ne (by decide +kernel)]; exact pk_138
    have pk_163 : oP S_161 o 14 = some q_68 := by rw [eS_161, setP_ne (by decide +kernel)]; exact pk_139
    have pk_164 : oP S_161 o 15 = some q_113 := by rw [eS_161, setP_ne (by decide +kernel)]; exact pk_157
    have ik_165 : oI S_161 o 2 = 0 := by rw [eS_161]; exact ik_140
    have ik_166 : oI S_161 o 4 = 0 := by rw [eS_161]; exact ik_141
    have ik_167 : oI S_161 o 5 = 0 := by rw [eS_161]; exact ik_142
    have ik_168 : oI S_161 o 7 = 0 := by rw [eS_161]; exact ik_143
    have ik_169 : oI S_161 o 9 = 0 := by rw [eS_161]; exact ik_144
    have ik_170 : oI S_161 o 10 = 0 := by rw [eS_161]; exact ik_145
    have ik_171 : oI S_161 o 11 = 0 := by rw [eS_161]; exact ik_146
    have ik_172 : oI S_161 o 13 = 0 := by rw [eS_161]; exact ik_147
    have ik_173 : oI S_161 o 16 = 0 := by rw [eS_161]; exact ik_148
    have ik_174 : oI S_161 o 17 = 0 := by rw [eS_161]; exact ik_149
    have ik_175 : oI S_161 o 6 = 1000000 := by rw [eS_161]; exact ik_150
    have pz_177 : oP S_161 o 1 = none := by rw [eS_161, setP_ne (by decide +kernel)]; exact pz_152
    have pz_178 : oP S_161 o 3 = none := by rw [eS_161, setP_ne (by decide +kernel)]; exact pz_153
    have pz_179 : oP S_161 o 8 = none := by rw [eS_161, setP_ne (by decide +kernel)]; exact pz_154
    have X_180 : oXc ([] : List Nat) o Z S_161 := by rw [eS_161]; exact oXc.P X_156
    have pk_181 : oP S_161 o 0 = some a1 := by rw [eS_161, setP_same]
    refine lv_aload_n hx hb dX1_init_40 rfl (lv_at hl 0 rfl) ?_
    refine lv_aload_n hx hb dX1_init_41 rfl (lv_at hl 2 rfl) ?_
    have t_182 : oty S_161 o 31 := (oX.ty XS_161 t_158)
    obtain ⟨q_183, hq_183⟩ := og (cq := cq) t_182.1 (oE_31 t_182.2)
    have t_184 : oty S_161 a2 9 := (oX.ty XS_161 (oX.ty XS_137 (oX.ty XS_115 (oX.ty XS_92 (oX.ty XS_70 (oX.ty XS_47 (oX.ty XS_25 (oX.ty XS_2 ta2))))))))
    refine va_putF (D := (dC, dI)) (ci := 1) (v := .ref a2) (ty := .object "ShipOffice$Voyage") (C := RX1) (T := TX1) (N := 18) hx hb hts in_wsX1_init_X1 tyX1 tyX1_ok nmX1 hown hK hP hD hS q_183 hq_183 rfl 1 (by decide +kernel) (hts (.fieldLink RX1 33 "ShipOffice$Agreement" "voyage" "LShipOffice$Voyage;") iw_X1_init_10) (fun _ h9 => h9) rfl hin rfl (by decide +kernel) rfl rfl (Nat.le_of_ble_eq_true rfl) dX1_init_42 (fun H locs hP1 hD1 hS => ?_)
    obtain ⟨S_185, eS_185⟩ : ∃ zq, zq = setP S_161 o 1 (some a2) := ⟨_, rfl⟩
    have hP : va_P (dC, dI) vwCl (oW cq S_185) H := by rw [eS_185]; exact cP (oset t_182.1 hq_183 hD rfl (he_31_1 t_182.2) neP) hP1
    have hD : va_D A (oW cq S_185) := by rw [eS_185]; exact cD (oset t_182.1 hq_183 hD rfl (he_31_1 t_182.2) neP) hD1
    clear hP1 hD1
    have hIS_185 : oInv S_185 := by rw [eS_185]; exact oInv.P (k := 31) hIS_161 t_182.2 (by decide +kernel) rfl (by decide +kernel) t_184 (by decide +kernel)
    have XS_185 : oX [2031] S_161 S_185 := by rw [eS_185]; exact oX.P (k := 31) (key := 2031) t_182.2 rfl (List.mem_singleton.mpr rfl)
    have pk_186 : oP S_185 o 12 = some q_23 := by rw [eS_185, setP_ne (by decide +kernel)]; exact pk_162
    have pk_187 : oP S_185 o 14 = some q_68 := by rw [eS_185, setP_ne (by decide +kernel)]; exact pk_163
    have pk_188 : oP S_185 o 15 = some q_113 := by rw [eS_185, setP_ne (by decide +kernel)]; exact pk_164
    have pk_189 : oP S_185 o 0 = some a1 := by rw [eS_185, setP_ne (by decide +kernel)]; exact pk_181
    have ik_190 : oI S_185 o 2 = 0 := by rw [eS_185]; exact ik_165
    have ik_191 : oI S_185 o 4 = 0 := by rw [eS_185]; exact ik_166
    have ik_192 : oI S_185 o 5 = 0 := by rw [eS_185]; exact ik_167
    have ik_193 : oI S_185 o 7 = 0 := by rw [eS_185]; exact ik_168
    have ik_194 : oI S_185 o 9 = 0 := by rw [eS_185]; exact ik_169
    have ik_195 : oI S_185 o 10 = 0 := by rw [eS_185]; exact ik_170
    have ik_196 : oI S_185 o 11 = 0 := by rw [eS_185]; exact ik_171
    have ik_197 : oI S_185 o 13 = 0 := by rw [eS_185]; exact ik_172
    have ik_198 : oI S_185 o 16 = 0 := by rw [eS_185]; exact ik_173
    have ik_199 : oI S_185 o 17 = 0 := by rw [eS_185]; exact ik_174
    have ik_200 : oI S_185 o 6 = 1000000 := by rw [eS_185]; exact ik_175
    have pz_202 : oP S_185 o 3 = none := by rw [eS_185, setP_ne (by decide +kernel)]; exact pz_178
    have pz_203 : oP S_185 o 8 = none := by rw [eS_185, setP_ne (by decide +kernel)]; exact pz_179
    have X_204 : oXc ([] : List Nat) o Z S_185 := by rw [eS_185]; exact oXc.P X_180
    have pk_205 : oP S_185 o 1 = some a2 := by rw [eS_185, setP_same]
    refine lv_aload_n hx hb dX1_init_45 rfl (lv_at hl 0 rfl) ?_
    refine lv_iload_n hx hb dX1_init_46 rfl (lv_at hl 3 rfl) ?_
    have t_206 : oty S_185 o 31 := (oX.ty XS_185 t_182)
    obtain ⟨q_207, hq_207⟩ := og (cq := cq) t_206.1 (oE_31 t_206.2)
    refine va_putF (D := (dC, dI)) (ci := 1) (v := .int x3) (ty := .int) (C := RX1) (T := TX1) (N := 18) hx hb hts in_wsX1_init_X1 tyX1 tyX1_ok nmX1 hown hK hP hD hS q_207 hq_207 rfl 2 (by decide +kernel) (hts (.fieldLink RX1 37 "ShipOffice$Agreement" "signedOn" "I") iw_X1_init_11) (fun _ h9 => h9) rfl hin rfl (by decide +kernel) rfl rfl (Nat.le_of_ble_eq_true rfl) dX1_init_47 (fun H locs hP1 hD1 hS => ?_)
    obtain ⟨S_208, eS_208⟩ : ∃ zq, zq = setI S_185 o 2 x3 := ⟨_, rfl⟩
    have hP : va_P (dC, dI) vwCl (oW cq S_208) H := by rw [eS_208]; exact cP (oset t_206.1 hq_207 hD rfl (he_31_2 t_206.2) neI) hP1
    have hD : va_D A (oW cq S_208) := by rw [eS_208]; exact cD (oset t_206.1 hq_207 hD rfl (he_31_2 t_206.2) neI) hD1
    clear hP1 hD1
    have hIS_208 : oInv S_208 := by rw [eS_208]; exact oInv.I0 (k := 31) (lo := -2147483648) (hi := 2147483647) hIS_185 t_206.2 (by decide +kernel) rfl rfl rfl (iv_all _)
    have XS_208 : oX [2031] S_185 S_208 := by rw [eS_208]; exact oX.I (k := 31) (key := 2031) t_206.2 rfl (List.mem_singleton.mpr rfl)
    have pk_209 : oP S_208 o 12 = some q_23 := by rw [eS_208]; exact pk_186
    have pk_210 : oP S_208 o 14 = some q_68 := by rw [eS_208]; exact pk_187
    have pk_211 : oP S_208 o 15 = some q_113 := by rw [eS_208]; exact pk_188
    have pk_212 : oP S_208 o 0 = some a1 := by rw [eS_208]; exact pk_189
    have pk_213 : oP S_208 o 1 = some a2 := by rw [eS_208]; exact pk_205
    have ik_215 : oI S_208 o 4 = 0 := by rw [eS_208, setI_ne (by decide +kernel)]; exact ik_191
    have ik_216 : oI S_208 o 5 = 0 := by rw [eS_208, setI_ne (by decide +kernel)]; exact ik_192
    have ik_217 : oI S_208 o 7 = 0 := by rw [eS_208, setI_ne (by decide +kernel)]; exact ik_193
    have ik_218 : oI S_208 o 9 = 0 := by rw [eS_208, setI_ne (by decide +kernel)]; exact ik_194
    have ik_219 : oI S_208 o 10 = 0 := by rw [eS_208, setI_ne (by decide +kernel)]; exact ik_195
    have ik_220 : oI S_208 o 11 = 0 := by rw [eS_208, setI_ne (by decide +kernel)]; exact ik_196
    have ik_221 : oI S_208 o 13 = 0 := by rw [eS_208, setI_ne (by decide +kernel)]; exact ik_197
    have ik_222 : oI S_208 o 16 = 0 := by rw [eS_208, setI_ne (by decide +kernel)]; exact ik_198
    have ik_223 : oI S_208 o 17 = 0 := by rw [eS_208, setI_ne (by decide +kernel)]; exact ik_199
    have ik_224 : oI S_208 o 6 = 1000000 := by rw [eS_208, setI_ne (by decide +kernel)]; exact ik_200
    have pz_225 : oP S_208 o 3 = none := by rw [eS_208]; exact pz_202
    have pz_226 : oP S_208 o 8 = none := by rw [eS_208]; exact pz_203
    have X_227 : oXc ([] : List Nat) o Z S_208 := by rw [eS_208]; exact oXc.I X_204
    have pk_228 : oI S_208 o 2 = x3 := by rw [eS_208, setI_same]
    refine lv_aload_n hx hb dX1_init_50 rfl (lv_at hl 0 rfl) ?_
    refine lv_aloadN hx hb dX1_init_51 (lv_at hl 4 rfl) ?_
    have t_229 : oty S_208 o 31 := (oX.ty XS_208 t_206)
    obtain ⟨q_230, hq_230⟩ := og (cq := cq) t_229.1 (oE_31 t_229.2)
    refine va_putF (D := (dC, dI)) (ci := 1) (v := .null) (ty := .object "ShipOffice$Agreement") (C := RX1) (T := TX1) (N := 18) hx hb hts in_wsX1_init_X1 tyX1 tyX1_ok nmX1 hown hK hP hD hS q_230 hq_230 rfl 3 (by decide +kernel) (hts (.fieldLink RX1 40 "ShipOffice$Agreement" "paper" "LShipOffice$Agreement;") iw_X1_init_12) (fun _ h9 => h9) rfl hin rfl (by decide +kernel) rfl rfl (Nat.le_of_ble_eq_true rfl) dX1_init_53 (fun H locs hP1 hD1 hS => ?_)
    obtain ⟨S_231, eS_231⟩ : ∃ zq, zq = setP S_208 o 3 none := ⟨_, rfl⟩
    have hP : va_P (dC, dI) vwCl (oW cq S_231) H := by rw [eS_231]; exact cP (oset t_229.1 hq_230 hD rfl (he_31_3 t_229.2) neP) hP1
    have hD : va_D A (oW cq S_231) := by rw [eS_231]; exact cD (oset t_229.1 hq_230 hD rfl (he_31_3 t_229.2) neP) hD1
    clear hP1 hD1
    have hIS_231 : oInv S_231 := by rw [eS_231]; exact oInv.Pn (k := 31) hIS_208 t_229.2 (by decide +kernel) rfl (by decide +kernel) rfl
    have XS_231 : oX [2031] S_208 S_231 := by rw [eS_231]; exact oX.P (k := 31) (key := 2031) t_229.2 rfl (List.mem_singleton.mpr rfl)
    have pk_232 : oP S_231 o 12 = some q_23 := by rw [eS_231, setP_ne (by decide +kernel)]; exact pk_209
    have pk_233 : oP S_231 o 14 = some q_68 := by rw [eS_231, setP_ne (by decide +kernel)]; exact pk_210
    have pk_234 : oP S_231 o 15 = some q_113 := by rw [eS_231, setP_ne (by decide +kernel)]; exact pk_211
    have pk_235 : oP S_231 o 0 = some a1 := by rw [eS_231, setP_ne (by decide +kernel)]; exact pk_212
    have pk_236 : oP S_231 o 1 = some a2 := by rw [eS_231, setP_ne (by decide +kernel)]; exact pk_213
    have ik_237 : oI S_231 o 4 = 0 := by rw [eS_231]; exact ik_215
    have ik_238 : oI S_231 o 5 = 0 := by rw [eS_231]; exact ik_216
    have ik_239 : oI S_231 o 7 = 0 := by rw [eS_231]; exact ik_217
    have ik_240 : oI S_231 o 9 = 0 := by rw [eS_231]; exact ik_218
    have ik_241 : oI S_231 o 10 = 0 := by rw [eS_231]; exact ik_219
    have ik_242 : oI S_231 o 11 = 0 := by rw [eS_231]; exact ik_220
    have ik_243 : oI S_231 o 13 = 0 := by rw [eS_231]; exact ik_221
    have ik_244 : oI S_231 o 16 = 0 := by rw [eS_231]; exact ik_222
    have ik_245 : oI S_231 o 17 = 0 := by rw [eS_231]; exact ik_223
    have ik_246 : oI S_231 o 6 = 1000000 := by rw [eS_231]; exact ik_224
    have ik_247 : oI S_231 o 2 = x3 := by rw [eS_231]; exact pk_228
    have pz_249 : oP S_231 o 8 = none := by rw [eS_231, setP_ne (by decide +kernel)]; exact pz_226
    have X_250 : oXc ([] : List Nat) o Z S_231 := by rw [eS_231]; exact oXc.P X_227
    have pk_251 : oP S_231 o 3 = none := by rw [eS_231, setP_same]
    have t_253 : oty S_231 o 31 := (oX.ty XS_231 t_229)
    obtain ⟨S_252, eS_252⟩ : ∃ zq, zq = setK S_231 o 1 := ⟨_, rfl⟩
    have hP : va_P (dC, dI) vwCl (oW cq S_252) H := by rw [eS_252]; exact cP (ret_W (c := 1) t_253.2 (by decide +kernel)) hP
    have hD : va_D A (oW cq S_252) := by rw [eS_252]; exact cD (ret_W (c := 1) t_253.2 (by decide +kernel)) hD
    have hIS_252 : oInv S_252 := by rw [eS_252]; exact oInv.ret (c := 1) hIS_231 t_253 (by decide +kernel) (fun i hi => by rcases nn_1 hi with rfl | rfl | rfl | rfl | rfl <;> first | exact ⟨_, pk_235⟩ | exact ⟨_, pk_236⟩ | exact ⟨_, pk_232⟩ | exact ⟨_, pk_233⟩ | exact ⟨_, pk_234⟩) (fun i p hp => by rcases ct_1 hp with rfl <;> first | (rw [ik_247]; decide) | (rw [ik_237]; decide) | (rw [ik_238]; decide) | (rw [ik_246]; decide) | (rw [ik_239]; decide) | (rw [ik_240]; decide) | (rw [ik_241]; decide) | (rw [ik_242]; decide) | (rw [ik_243]; decide) | (rw [ik_244]; decide) | (rw [ik_245]; decide)) (fun h => absurd h (by decide +kernel)) (fun h => absurd h (by decide +kernel)) (fun h => absurd h (by decide +kernel))
    have XS_252 : oXc ([] : List Nat) o Z S_252 := by rw [eS_252]; exact oXc.K X_250
    have tS_252 : oty S_252 o 1 := by rw [eS_252]; exact K_ty t_253.1
    have pk_254 : oP S_252 o 12 = some q_23 := by rw [eS_252]; exact pk_232
    have pk_255 : oP S_252 o 14 = some q_68 := by rw [eS_252]; exact pk_233
    have pk_256 : oP S_252 o 15 = some q_113 := by rw [eS_252]; exact pk_234
    have pk_257 : oP S_252 o 0 = some a1 := by rw [eS_252]; exact pk_235
    have pk_258 : oP S_252 o 1 = some a2 := by rw [eS_252]; exact pk_236
    have ik_259 : oI S_252 o 4 = 0 := by rw [eS_252]; exact ik_237
    have ik_260 : oI S_252 o 5 = 0 := by rw [eS_252]; exact ik_238
    have ik_261 : oI S_252 o 7 = 0 := by rw [eS_252]; exact ik_239
    have ik_262 : oI S_252 o 9 = 0 := by rw [eS_252]; exact ik_240
    have ik_263 : oI S_252 o 10 = 0 := by rw [eS_252]; exact ik_241
    have ik_264 : oI S_252 o 11 = 0 := by rw [eS_252]; exact ik_242
    have ik_265 : oI S_252 o 13 = 0 := by rw [eS_252]; exact ik_243
    have ik_266 : oI S_252 o 16 = 0 := by rw [eS_252]; exact ik_244
    have ik_267 : oI S_252 o 17 = 0 := by rw [eS_252]; exact ik_245
    have ik_268 : oI S_252 o 6 = 1000000 := by rw [eS_252]; exact ik_246
    have ik_269 : oI S_252 o 2 = x3 := by rw [eS_252]; exact ik_247
    have pz_270 : oP S_252 o 8 = none := by rw [eS_252]; exact pz_249
    have pz_271 : oP S_252 o 3 = none := by rw [eS_252]; exact pk_251
    exact W.vret hx hb hr (fun t ht hW => ⟨⟨S_252, rfl, ⟨hIS_252, XS_252, ⟨tS_252, ⟨pk_257, pk_258, ik_269, pz_271, ik_259, ik_260, ik_268, ik_261, pz_270, ik_262, ik_263, ik_264, ⟨q_23, pk_254, nzq_23⟩, ik_265, ⟨q_68, pk_255, nzq_68⟩, ⟨q_113, pk_256, nzq_113⟩, ik_266, ik_267⟩⟩⟩, ⟨by rw [ht]; exact hP, va_K.moved hW.alike hK, hD⟩⟩, hS.F ht⟩) hS.2.2 dX1_init_56
  · refine Met.ofW (cc := cX1_init) (maxL := 5) (ret := none) (by decide +kernel) rfl ?_
    intro p e s m args below meth c s₁ B hml hv
    obtain ⟨rfl, ⟨hsz, hP, hK, hD0⟩, hZ⟩ := hv
    have hx := B.exec
    have hb := B.bytes
    have hr := B.returns
    have hts := atoms_spec (ws := wsX1_init) B.pre
    have hown : s.vm.findClass RX1 = some m.cls := findClass_of_methodNamed B.named
    have hlocks := B.notSynchronized
    have hin : meth.name = "<init>" := (name_of_methodNamed B.named B.method).1
    subst hsz
    have hD := hD0.self (sz := s.heap.size)
    generalize hAe : va_A (oW cq Z) s.heap.size = A at hD hZ ⊢
    have hA : ∀ q : Nat, s.heap.size ≤ q → A q := fun q h => by rw [← hAe]; exact Or.inr h
    have hS : va_S A s.heap s.heap [] := va_S.rf
    have hP : va_P (dC, dI) vwCl (oW cq Z) s.heap := hP
    have hl := lv_entry ([.ref o, .ref a1, .ref a2, .int x3, va_rf (some br4)]) (n := 5) (Nat.le_of_ble_eq_true rfl)
    rw [lg_entry_eq]
    generalize (lg_sl ([.ref o, .ref a1, .ref a2, .int x3, va_rf (some br4)]) ++ List.replicate (5 - (lg_sl ([.ref o, .ref a1, .ref a2, .int x3, va_rf (some br4)])).length) Slot.unset).toArray = ls at hl ⊢
    have hl : lv_has ls 5 [(0, .ref o), (1, .ref a1), (2, .ref a2), (3, .int x3), (4, va_rf (some br4))] := hl
    have hl : lv_has ls 5 [(0, .ref o), (1, .ref a1), (2, .ref a2), (3, .int x3), (4, .ref br4)] := hl
    have tbbr4 : oty Z br4 1 := tr4 br4 rfl
    refine lv_aload_n hx hb dX1_init_0 rfl (lv_at hl 0 rfl) ?_
    refine W.objInit hx hb hown (hts (.methodLink RX1 3 objectInit) iw_X1_init_1) (hts (.instanceMethod objectInit) iw_X1_init_2) (hts (.code objectInit ⟨#[0xb1]⟩ 1 none) (in_obj_wsX1_init)) rfl (by rw [hml]; exact hl.1) rfl dX1_init_1 (Nat.le_of_ble_eq_true rfl) (Nat.le_of_ble_eq_true rfl) ?_
    refine W.eq (g2 := F0 m 4 ls []) rfl ?_
    refine lv_aload_n hx hb dX1_init_4 rfl (lv_at hl 0 rfl) ?_
    refine lv_ldc (v := 1000000) hx hb hown (hts (.constant RX1 9 (1000000)) (by decide +kernel)) dX1_init_5 ?_
    obtain ⟨q_272, hq_272⟩ := og (cq := cq) to.1 (oE_31 to.2)
    refine va_put (D := (dC, dI)) (ci := 1) (v := .int 1000000) (ty := .int) (C := RX1) (T := TX1) (N := 18) hx hb hts in_wsX1_init_X1 tyX1 tyX1_ok nmX1 hown hK hP hD hS q_272 hq_272 rfl 6 (by decide +kernel) (hts (.fieldLink RX1 10 "ShipOffice$Agreement" "offDay" "I") iw_X1_init_3) (fun _ h9 => h9) rfl (by decide +kernel) rfl rfl (Nat.le_of_ble_eq_true rfl) dX1_init_7 (fun H locs hP1 hD1 hS => ?_)
    obtain ⟨S_273, eS_273⟩ : ∃ zq, zq = setI Z o 6 1000000 := ⟨_, rfl⟩
    have hP : va_P (dC, dI) vwCl (oW cq S_273) H := by rw [eS_273]; exact cP (oset to.1 hq_272 hD rfl (he_31_6 to.2) neI) hP1
    have hD : va_D A (oW cq S_273) := by rw [eS_273]; exact cD (oset to.1 hq_272 hD rfl (he_31_6 to.2) neI) hD1
    clear hP1 hD1
    have hIS_273 : oInv S_273 := by rw [eS_273]; exact oInv.I0 (k := 31) (lo := -2147483648) (hi := 2147483647) gI to.2 (by decide +kernel) rfl rfl rfl (iv_all _)
    have XS_273 : oX [2031] Z S_273 := by rw [eS_273]; exact oX.I (k := 31) (key := 2031) to.2 rfl (List.mem_singleton.mpr rfl)
    have ik_274 : oI S_273 o 2 = 0 := by rw [eS_273, setI_ne (by decide +kernel)]; exact (hz 2)
    have ik_275 : oI S_273 o 4 = 0 := by rw [eS_273, setI_ne (by decide +kernel)]; exact (hz 4)
    have ik_276 : oI S_273 o 5 = 0 := by rw [eS_273, setI_ne (by decide +kernel)]; exact (hz 5)
    have ik_278 : oI S_273 o 7 = 0 := by rw [eS_273, setI_ne (by decide +kernel)]; exact (hz 7)
    have ik_279 : oI S_273 o 9 = 0 := by rw [eS_273, setI_ne (by decide +kernel)]; exact (hz 9)
    have ik_280 : oI S_273 o 10 = 0 := by rw [eS_273, setI_ne (by decide +kernel)]; exact (hz 10)
    have ik_281 : oI S_273 o 11 = 0 := by rw [eS_273, setI_ne (by decide +kernel)]; exact (hz 11)
    have ik_282 : oI S_273 o 13 = 0 := by rw [eS_273, setI_ne (by decide +kernel)]; exact (hz 13)
    have ik_283 : oI S_273 o 16 = 0 := by rw [eS_273, setI_ne (by decide +kernel)]; exact (hz 16)
    have ik_284 : oI S_273 o 17 = 0 := by rw [eS_273, setI_ne (by decide +kernel)]; exact (hz 17)
    have pz_285 : oP S_273 o 0 = none := by rw [eS_273]; exact (hp 0)
    have pz_286 : oP S_273 o 1 = none := by rw [eS_273]; exact (hp 1)
    have pz_287 : oP S_273 o 3 = none := by rw [eS_273]; exact (hp 3)
    have pz_288 : oP S_273 o 8 = none := by rw [eS_273]; exact (hp 8)
    have pz_289 : oP S_273 o 12 = none := by rw [eS_273]; exact (hp 12)
    have pz_290 : oP S_273 o 14 = none := by rw [eS_273]; exact (hp 14)
    have pz_291 : oP S_273 o 15 = none := by rw [eS_273]; exact (hp 15)
    have X_292 : oXc ([] : List Nat) o Z S_273 := by rw [eS_273]; exact oXc.I oXc.rf
    have pk_293 : oI S_273 o 6 = 1000000 := by rw [eS_273, setI_same]
    refine lv_aload_n hx hb dX1_init_10 rfl (lv_at hl 0 rfl) ?_
    refine lv_bipush (v := 6) hx hb dX1_init_11 (by decide +kernel) ?_
    refine va_newq (N' := 6) hx hb hown (hts (.classLink RX1 16 RX2) iw_X1_init_4) hZ.2.2.2.1 hK hP hD hS hA (by decide +kernel) (by decide +kernel) (by decide +kernel) (Nat.le_of_ble_eq_true rfl) (Nat.le_of_ble_eq_true rfl) dX1_init_13 (fun q_294 k_295 H hK1 hP1 hD1 hS => ?_)
    obtain ⟨rfl, -⟩ := lv_ad (k := 6) hK1 rfl
    clear hK1
    have hnq_294 := add_q hD1
    obtain ⟨S_296, eS_296⟩ : ∃ zq, zq = addO S_273 q_294 17 := ⟨_, rfl⟩
    have hP : va_P (dC, dI) vwCl (oW cq S_296) H := by rw [eS_296]; exact cP (onew hD1 (by rw [oE_17 add_K, add_P])) hP1
    have hD : va_D A (oW cq S_296) := by rw [eS_296]; exact cD (onew hD1 (by rw [oE_17 add_K, add_P])) hD1
    clear hP1 hD1
    have hIS_296 : oInv S_296 := by rw [eS_296]; exact oInv.add hIS_273 hnq_294 (by decide +kernel)
    have XS_296 : oX [] S_273 S_296 := by rw [eS_296]; exact oX.add hnq_294
    have nzq_294 : q_294 ∉ oL Z := oXc.nin X_292 hnq_294
    have ik_297 : oI S_296 o 2 = 0 := by rw [eS_296, add_In hnq_294 (oX.ty XS_273 to).1]; exact ik_274
    have ik_298 : oI S_296 o 4 = 0 := by rw [eS_296, add_In hnq_294 (oX.ty XS_273 to).1]; exact ik_275
    have ik_299 : oI S_296 o 5 = 0 := by rw [eS_296, add_In hnq_294 (oX.ty XS_273 to).1]; exact ik_276
    have ik_300 : oI S_296 o 7 = 0 := by rw [eS_296, add_In hnq_294 (oX.ty XS_273 to).1]; exact ik_278
    have ik_301 : oI S_296 o 9 = 0 := by rw [eS_296, add_In hnq_294 (oX.ty XS_273 to).1]; exact ik_279
    have ik_302 : oI S_296 o 10 = 0 := by rw [eS_296, add_In hnq_294 (oX.ty XS_273 to).1]; exact ik_280
    have ik_303 : oI S_296 o 11 = 0 := by rw [eS_296, add_In hnq_294 (oX.ty XS_273 to).1]; exact ik_281
    have ik_304 : oI S_296 o 13 = 0 := by rw [eS_296, add_In hnq_294 (oX.ty XS_273 to).1]; exact ik_282
    have ik_305 : oI S_296 o 16 = 0 := by rw [eS_296, add_In hnq_294 (oX.ty XS_273 to).1]; exact ik_283
    have ik_306 : oI S_296 o 17 = 0 := by rw [eS_296, add_In hnq_294 (oX.ty XS_273 to).1]; exact ik_284
    have ik_307 : oI S_296 o 6 = 1000000 := by rw [eS_296, add_In hnq_294 (oX.ty XS_273 to).1]; exact pk_293
    have pz_308 : oP S_296 o 0 = none := by rw [eS_296, add_Pn hnq_294 (oX.ty XS_273 to).1]; exact pz_285
    have pz_309 : oP S_296 o 1 = none := by rw [eS_296, add_Pn hnq_294 (oX.ty XS_273 to).1]; exact pz_286
    have pz_310 : oP S_296 o 3 = none := by rw [eS_296, add_Pn hnq_294 (oX.ty XS_273 to).1]; exact pz_287
    have pz_311 : oP S_296 o 8 = none := by rw [eS_296, add_Pn hnq_294 (oX.ty XS_273 to).1]; exact pz_288
    have pz_312 : oP S_296 o 12 = none := by rw [eS_296, add_Pn hnq_294 (oX.ty XS_273 to).1]; exact pz_289
    have pz_313 : oP S_296 o 14 = none := by rw [eS_296, add_Pn hnq_294 (oX.ty XS_273 to).1]; exact pz_290
    have pz_314 : oP S_296 o 15 = none := by rw [eS_296, add_Pn hnq_294 (oX.ty XS_273 to).1]; exact pz_291
    have X_315 : oXc ([] : List Nat) o Z S_296 := oXc.st X_292 XS_296 (by decide +kernel)
    have tq_294 : oty S_296 q_294 17 := by rw [eS_296]; exact add_ty
    refine W.widen (k := 1) (n := 6) (Nat.le_of_ble_eq_true rfl) (Nat.le_of_ble_eq_true rfl) ?_
    have t_316 : oty S_296 o 31 := (oX.ty XS_296 (oX.ty XS_273 to))
    obtain ⟨q_317, hq_317⟩ := og (cq := cq) t_316.1 (oE_31 t_316.2)
    refine va_putF (D := (dC, dI)) (ci := 1) (v := .ref q_294) (ty := .array (.object "ShipOffice$Fine")) (C := RX1) (T := TX1) (N := 18) hx hb hts in_wsX1_init_X1 tyX1 tyX1_ok nmX1 hown hK hP hD hS q_317 hq_317 rfl 12 (by decide +kernel) (hts (.fieldLink RX1 18 "ShipOffice$Agreement" "fines" "[LShipOffice$Fine;") iw_X1_init_5) (fun _ h9 => h9) rfl hin rfl (by decide +kernel) rfl rfl (Nat.le_of_ble_eq_true rfl) dX1_init_16 (fun H locs hP1 hD1 hS => ?_)
    obtain ⟨S_318, eS_318⟩ : ∃ zq, zq = setP S_296 o 12 (some q_294) := ⟨_, rfl⟩
    have hP : va_P (dC, dI) vwCl (oW cq S_318) H := by rw [eS_318]; exact cP (oset t_316.1 hq_317 hD rfl (he_31_12 t_316.2) neP) hP1
    have hD : va_D A (oW cq S_318) := by rw [eS_318]; exact cD (oset t_316.1 hq_317 hD rfl (he_31_12 t_316.2) neP) hD1
    clear hP1 hD1
    have hIS_318 : oInv S_318 := by rw [eS_318]; exact oInv.P (k := 31) hIS_296 t_316.2 (by decide +kernel) rfl (by decide +kernel) tq_294 (by decide +kernel)
    have XS_318 : oX [2031] S_296 S_318 := by rw [eS_318]; exact oX.P (k := 31) (key := 2031) t_316.2 rfl (List.mem_singleton.mpr rfl)
    have ik_319 : oI S_318 o 2 = 0 := by rw [eS_318]; exact ik_297
    have ik_320 : oI S_318 o 4 = 0 := by rw [eS_318]; exact ik_298
    have ik_321 : oI S_318 o 5 = 0 := by rw [eS_318]; exact ik_299
    have ik_322 : oI S_318 o 7 = 0 := by rw [eS_318]; exact ik_300
    have ik_323 : oI S_318 o 9 = 0 := by rw [eS_318]; exact ik_301
    have ik_324 : oI S_318 o 10 = 0 := by rw [eS_318]; exact ik_302
    have ik_325 : oI S_318 o 11 = 0 := by rw [eS_318]; exact ik_303
    have ik_326 : oI S_318 o 13 = 0 := by rw [eS_318]; exact ik_304
    have ik_327 : oI S_318 o 16 = 0 := by rw [eS_318]; exact ik_305
    have ik_328 : oI S_318 o 17 = 0 := by rw [eS_318]; exact ik_306
    have ik_329 : oI S_318 o 6 = 1000000 := by rw [eS_318]; exact ik_307
    have pz_330 : oP S_318 o 0 = none := by rw [eS_318, setP_ne (by decide +kernel)]; exact pz_308
    have pz_331 : oP S_318 o 1 = none := by rw [eS_318, setP_ne (by decide +kernel)]; exact pz_309
    have pz_332 : oP S_318 o 3 = none := by rw [eS_318, setP_ne (by decide +kernel)]; exact pz_310
    have pz_333 : oP S_318 o 8 = none := by rw [eS_318, setP_ne (by decide +kernel)]; exact pz_311
    have pz_335 : oP S_318 o 14 = none := by rw [eS_318, setP_ne (by decide +kernel)]; exact pz_313
    have pz_336 : oP S_318 o 15 = none := by rw [eS_318, setP_ne (by decide +kernel)]; exact pz_314
    have X_337 : oXc ([] : List Nat) o Z S_318 := by rw [eS_318]; exact oXc.P X_315
    have pk_338 : oP S_318 o 12 = some q_294 := by rw [eS_318, setP_same]
    refine lv_aload_n hx hb dX1_init_19 rfl (lv_at hl 0 rfl) ?_
    refine lv_bipush (v := 20) hx hb dX1_init_20 (by decide +kernel) ?_
    refine va_newa (atype := .int) (ty := .int) (a0 := (20, .inl (fun _ => 0))) hx hb (hts (.arrayClass .int) iw_X1_init_6) rfl hK hP hD hS hA (fun _ => rfl) (by decide +kernel) (by decide +kernel) (by decide +kernel) (Nat.le_of_ble_eq_true rfl) (Nat.le_of_ble_eq_true rfl) dX1_init_22 (fun q_339 k_340 H hK1 hP1 hD1 hS => ?_)
    obtain ⟨rfl, -⟩ := lv_ad (k := 0) hK1 rfl
    clear hK1
    have hnq_339 := add_q hD1
    obtain ⟨S_341, eS_341⟩ : ∃ zq, zq = addO S_318 q_339 120 := ⟨_, rfl⟩
    have hP : va_P (dC, dI) vwCl (oW cq S_341) H := by rw [eS_341]; exact cP (onew hD1 (by rw [oE_a1 (n := 20) add_K (by decide +kernel), add_I])) hP1
    have hD : va_D A (oW cq S_341) := by rw [eS_341]; exact cD (onew hD1 (by rw [oE_a1 (n := 20) add_K (by decide +kernel), add_I])) hD1
    clear hP1 hD1
    have hIS_341 : oInv S_341 := by rw [eS_341]; exact oInv.add hIS_318 hnq_339 (by decide +kernel)
    have XS_341 : oX [] S_318 S_341 := by rw [eS_341]; exact oX.add hnq_339
    have nzq_339 : q_339 ∉ oL Z := oXc.nin X_337 hnq_339
    have pk_342 : oP S_341 o 12 = some q_294 := by rw [eS_341, add_Pn hnq_339 (oX.ty XS_318 t_316).1]; exact pk_338
    have ik_343 : oI S_341 o 2 = 0 := by rw [eS_341, add_In hnq_339 (oX.ty XS_318 t_316).1]; exact ik_319
    have ik_344 : oI S_341 o 4 = 0 := by rw [eS_341, add_In hnq_339 (oX.ty XS_318 t_316).1]; exact ik_320
    have ik_345 : oI S_341 o 5 = 0 := by rw [eS_341, add_In hnq_339 (oX.ty XS_318 t_316).1]; exact ik_321
    have ik_346 : oI S_341 o 7 = 0 := by rw [eS_341, add_In hnq_339 (oX.ty XS_318 t_316).1]; exact ik_322
    have ik_347 : oI S_341 o 9 = 0 := by rw [eS_341, add_In hnq_339 (oX.ty XS_318 t_316).1]; exact ik_323
    have ik_348 : oI S_341 o 10 = 0 := by rw [eS_341, add_In hnq_339 (oX.ty XS_318 t_316).1]; exact ik_324
    have ik_349 : oI S_341 o 11 = 0 := by rw [eS_341, add_In hnq_339 (oX.ty XS_318 t_316).1]; exact ik_325
    have ik_350 : oI S_341 o 13 = 0 := by rw [eS_341, add_In hnq_339 (oX.ty XS_318 t_316).1]; exact ik_326
    have ik_351 : oI S_341 o 16 = 0 := by rw [eS_341, add_In hnq_339 (oX.ty XS_318 t_316).1]; exact ik_327
    have ik_352 : oI S_341 o 17 = 0 := by rw [eS_341, add_In hnq_339 (oX.ty XS_318 t_316).1]; exact ik_328
    have ik_353 : oI S_341 o 6 = 1000000 := by rw [eS_341, add_In hnq_339 (oX.ty XS_318 t_316).1]; exact ik_329
    have pz_354 : oP S_341 o 0 = none := by rw [eS_341, add_Pn hnq_339 (oX.ty XS_318 t_316).1]; exact pz_330
    have pz_355 : oP S_341 o 1 = none := by rw [eS_341, add_Pn hnq_339 (oX.ty XS_318 t_316).1]; exact pz_331
    have pz_356 : oP S_341 o 3 = none := by rw [eS_341, add_Pn hnq_339 (oX.ty XS_318 t_316).1]; exact pz_332
    have pz_357 : oP S_341 o 8 = none := by rw [eS_341, add_Pn hnq_339 (oX.ty XS_318 t_316).1]; exact pz_333
    have pz_358 : oP S_341 o 14 = none := by rw [eS_341, add_Pn hnq_339 (oX.ty XS_318 t_316).1]; exact pz_335
    have pz_359 : oP S_341 o 15 = none := by rw [eS_341, add_Pn hnq_339 (oX.ty XS_318 t_316).1]; exact pz_336
    have X_360 : oXc ([] : List Nat) o Z S_341 := oXc.st X_337 XS_341 (by decide +kernel)
    have tq_339 : oty S_341 q_339 120 := by rw [eS_341]; exact add_ty
    refine W.widen (k := 2) (n := 26) (Nat.le_of_ble_eq_true rfl) (Nat.le_of_ble_eq_true rfl) ?_
    have t_361 : oty S_341 o 31 := (oX.ty XS_341 (oX.ty XS_318 t_316))
    obtain ⟨q_362, hq_362⟩ := og (cq := cq) t_361.1 (oE_31 t_361.2)
    refine va_putF (D := (dC, dI)) (ci := 1) (v := .ref q_339) (ty := .array .int) (C := RX1) (T := TX1) (N := 18) hx hb hts in_wsX1_init_X1 tyX1 tyX1_ok nmX1 hown hK hP hD hS q_362 hq_362 rfl 14 (by decide +kernel) (hts (.fieldLink RX1 22 "ShipOffice$Agreement" "shortTold" "[I") iw_X1_init_7) (fun _ h9 => h9) rfl hin rfl (by decide +kernel) rfl rfl (Nat.le_of_ble_eq_true rfl) dX1_init_24 (fun H locs hP1 hD1 hS => ?_)
    obtain ⟨S_363, eS_363⟩ : ∃ zq, zq = setP S_341 o 14 (some q_339) := ⟨_, rfl⟩
    have hP : va_P (dC, dI) vwCl (oW cq S_363) H := by rw [eS_363]; exact cP (oset t_361.1 hq_362 hD rfl (he_31_14 t_361.2) neP) hP1
    have hD : va_D A (oW cq S_363) := by rw [eS_363]; exact cD (oset t_361.1 hq_362 hD rfl (he_31_14 t_361.2) neP) hD1
    clear hP1 hD1
    have hIS_363 : oInv S_363 := by rw [eS_363]; exact oInv.P (k := 31) hIS_341 t_361.2 (by decide +kernel) rfl (by decide +kernel) tq_339 (by decide +kernel)
    have XS_363 : oX [2031] S_341 S_363 := by rw [eS_363]; exact oX.P (k := 31) (key := 2031) t_361.2 rfl (List.mem_singleton.mpr rfl)
    have pk_364 : oP S_363 o 12 = some q_294 := by rw [eS_363, setP_ne (by decide +kernel)]; exact pk_342
    have ik_365 : oI S_363 o 2 = 0 := by rw [eS_363]; exact ik_343
    have ik_366 : oI S_363 o 4 = 0 := by rw [eS_363]; exact ik_344
    have ik_367 : oI S_363 o 5 = 0 := by rw [eS_363]; exact ik_345
    have ik_368 : oI S_363 o 7 = 0 := by rw [eS_363]; exact ik_346
    have ik_369 : oI S_363 o 9 = 0 := by rw [eS_363]; exact ik_347
    have ik_370 : oI S_363 o 10 = 0 := by rw [eS_363]; exact ik_348
    have ik_371 : oI S_363 o 11 = 0 := by rw [eS_363]; exact ik_349
    have ik_372 : oI S_363 o 13 = 0 := by rw [eS_363]; exact ik_350
    have ik_373 : oI S_363 o 16 = 0 := by rw [eS_363]; exact ik_351
    have ik_374 : oI S_363 o 17 = 0 := by rw [eS_363]; exact ik_352
    have ik_375 : oI S_363 o 6 = 1000000 := by rw [eS_363]; exact ik_353
    have pz_376 : oP S_363 o 0 = none := by rw [eS_363, setP_ne (by decide +kernel)]; exact pz_354
    have pz_377 : oP S_363 o 1 = none := by rw [eS_363, setP_ne (by decide +kernel)]; exact pz_355
    have pz_378 : oP S_363 o 3 = none := by rw [eS_363, setP_ne (by decide +kernel)]; exact pz_356
    have pz_379 : oP S_363 o 8 = none := by rw [eS_363, setP_ne (by decide +kernel)]; exact pz_357
    have pz_381 : oP S_363 o 15 = none := by rw [eS_363, setP_ne (by decide +kernel)]; exact pz_359
    have X_382 : oXc ([] : List Nat) o Z S_363 := by rw [eS_363]; exact oXc.P X_360
    have pk_383 : oP S_363 o 14 = some q_339 := by rw [eS_363, setP_same]
    refine lv_aload_n hx hb dX1_init_27 rfl (lv_at hl 0 rfl) ?_
    refine lv_bipush (v := 20) hx hb dX1_init_28 (by decide +kernel) ?_
    refine va_newa (atype := .int) (ty := .int) (a0 := (20, .inl (fun _ => 0))) hx hb (hts (.arrayClass .int) iw_X1_init_6) rfl hK hP hD hS hA (fun _ => rfl) (by decide +kernel) (by decide +kernel) (by decide +kernel) (Nat.le_of_ble_eq_true rfl) (Nat.le_of_ble_eq_true rfl) dX1_init_30 (fun q_384 k_385 H hK1 hP1 hD1 hS => ?_)
    obtain ⟨rfl, -⟩ := lv_ad (k := 0) hK1 rfl
    clear hK1
    have hnq_384 := add_q hD1
    obtain ⟨S_386, eS_386⟩ : ∃ zq, zq = addO S_363 q_384 64 := ⟨_, rfl⟩
    have hP : va_P (dC, dI) vwCl (oW cq S_386) H := by rw [eS_386]; exact cP (onew hD1 (by rw [oE_64 add_K, add_I])) hP1
    have hD : va_D A (oW cq S_386) := by rw [eS_386]; exact cD (onew hD1 (by rw [oE_64 add_K, add_I])) hD1
    clear hP1 hD1
    have hIS_386 : oInv S_386 := by rw [eS_386]; exact oInv.add hIS_363 hnq_384 (by decide +kernel)
    have XS_386 : oX [] S_363 S_386 := by rw [eS_386]; exact oX.add hnq_384
    have nzq_384 : q_384 ∉ oL Z := oXc.nin X_382 hnq_384
    have pk_387 : oP S_386 o 12 = some q_294 := by rw [eS_386, add_Pn hnq_384 (oX.ty XS_363 t_361).1]; exact pk_364
    have pk_388 : oP S_386 o 14 = some q_339 := by rw [eS_386, add_Pn hnq_384 (oX.ty XS_363 t_361).1]; exact pk_383
    have ik_389 : oI S_386 o 2 = 0 := by rw [eS_386, add_In hnq_384 (oX.ty XS_363 t_361).1]; exact ik_365
    have ik_390 : oI S_386 o 4 = 0 := by rw [eS_386, add_In hnq_384 (oX.ty XS_363 t_361).1]; exact ik_366
    have ik_391 : oI S_386 o 5 = 0 := by rw [eS_386, add_In hnq_384 (oX.ty XS_363 t_361).1]; exact ik_367
    have ik_392 : oI S_386 o 7 = 0 := by rw [eS_386, add_In hnq_384 (oX.ty XS_363 t_361).1]; exact ik_368
    have ik_393 : oI S_386 o 9 = 0 := by rw [eS_386, add_In hnq_384 (oX.ty XS_363 t_361).1]; exact ik_369
    have ik_394 : oI S_386 o 10 = 0 := by rw [eS_386, add_In hnq_384 (oX.ty XS_363 t_361).1]; exact ik_370
    have ik_395 : oI S_386 o 11 = 0 := by rw [eS_386, add_In hnq_384 (oX.ty XS_363 t_361).1]; exact ik_371
    have ik_396 : oI S_386 o 13 = 0 := by rw [eS_386, add_In hnq_384 (oX.ty XS_363 t_361).1]; exact ik_372
    have ik_397 : oI S_386 o 16 = 0 := by rw [eS_386, add_In hnq_384 (oX.ty XS_363 t_361).1]; exact ik_373
    have ik_398 : oI S_386 o 17 = 0 := by rw [eS_386, add_In hnq_384 (oX.ty XS_363 t_361).1]; exact ik_374
    have ik_399 : oI S_386 o 6 = 1000000 := by rw [eS_386, add_In hnq_384 (oX.ty XS_363 t_361).1]; exact ik_375
    have pz_400 : oP S_386 o 0 = none := by rw [eS_386, add_Pn hnq_384 (oX.ty XS_363 t_361).1]; exact pz_376
    have pz_401 : oP S_386 o 1 = none := by rw [eS_386, add_Pn hnq_384 (oX.ty XS_363 t_361).1]; exact pz_377
    have pz_402 : oP S_386 o 3 = none := by rw [eS_386, add_Pn hnq_384 (oX.ty XS_363 t_361).1]; exact pz_378
    have pz_403 : oP S_386 o 8 = none := by rw [eS_386, add_Pn hnq_384 (oX.ty XS_363 t_361).1]; exact pz_379
    have pz_404 : oP S_386 o 15 = none := by rw [eS_386, add_Pn hnq_384 (oX.ty XS_363 t_361).1]; exact pz_381
    have X_405 : oXc ([] : List Nat) o Z S_386 := oXc.st X_382 XS_386 (by decide +kernel)
    have tq_384 : oty S_386 q_384 64 := by rw [eS_386]; exact add_ty
    refine W.widen (k := 3) (n := 46) (Nat.le_of_ble_eq_true rfl) (Nat.le_of_ble_eq_true rfl) ?_
    have t_406 : oty S_386 o 31 := (oX.ty XS_386 (oX.ty XS_363 t_361))
    obtain ⟨q_407, hq_407⟩ := og (cq := cq) t_406.1 (oE_31 t_406.2)
    refine va_putF (D := (dC, dI)) (ci := 1) (v := .ref q_384) (ty := .array .int) (C := RX1) (T := TX1) (N := 18) hx hb hts in_wsX1_init_X1 tyX1 tyX1_ok nmX1 hown hK hP hD hS q_407 hq_407 rfl 15 (by decide +kernel) (hts (.fieldLink RX1 26 "ShipOffice$Agreement" "shortSum" "[I") iw_X1_init_8) (fun _ h9 => h9) rfl hin rfl (by decide +kernel) rfl rfl (Nat.le_of_ble_eq_true rfl) dX1_init_32 (fun H locs hP1 hD1 hS => ?_)
    obtain ⟨S_408, eS_408⟩ : ∃ zq, zq = setP S_386 o 15 (some q_384) := ⟨_, rfl⟩
    have hP : va_P (dC, dI) vwCl (oW cq S_408) H := by rw [eS_408]; exact cP (oset t_406.1 hq_407 hD rfl (he_31_15 t_406.2) neP) hP1
    have hD : va_D A (oW cq S_408) := by rw [eS_408]; exact cD (oset t_406.1 hq_407 hD rfl (he_31_15 t_406.2) neP) hD1
    clear hP1 hD1
    have hIS_408 : oInv S_408 := by rw [eS_408]; exact oInv.P (k := 31) hIS_386 t_406.2 (by decide +kernel) rfl (by decide +kernel) tq_384 (by decide +kernel)
    have XS_408 : oX [2031] S_386 S_408 := by rw [eS_408]; exact oX.P (k := 31) (key := 2031) t_406.2 rfl (List.mem_singleton.mpr rfl)
    have pk_409 : oP S_408 o 12 = some q_294 := by rw [eS_408, setP_ne (by decide +kernel)]; exact pk_387
    have pk_410 : oP S_408 o 14 = some q_339 := by rw [eS_408, setP_ne (by decide +kernel)]; exact pk_388
    have ik_411 : oI S_408 o 2 = 0 := by rw [eS_408]; exact ik_389
    have ik_412 : oI S_408 o 4 = 0 := by rw [eS_408]; exact ik_390
    have ik_413 : oI S_408 o 5 = 0 := by rw [eS_408]; exact ik_391
    have ik_414 : oI S_408 o 7 = 0 := by rw [eS_408]; exact ik_392
    have ik_415 : oI S_408 o 9 = 0 := by rw [eS_408]; exact ik_393
    have ik_416 : oI S_408 o 10 = 0 := by rw [eS_408]; exact ik_394
    have ik_417 : oI S_408 o 11 = 0 := by rw [eS_408]; exact ik_395
    have ik_418 : oI S_408 o 13 = 0 := by rw [eS_408]; exact ik_396
    have ik_419 : oI S_408 o 16 = 0 := by rw [eS_408]; exact ik_397
    have ik_420 : oI S_408 o 17 = 0 := by rw [eS_408]; exact ik_398
    have ik_421 : oI S_408 o 6 = 1000000 := by rw [eS_408]; exact ik_399
    have pz_422 : oP S_408 o 0 = none := by rw [eS_408, setP_ne (by decide +kernel)]; exact pz_400
    have pz_423 : oP S_408 o 1 = none := by rw [eS_408, setP_ne (by decide +kernel)]; exact pz_401
    have pz_424 : oP S_408 o 3 = none := by rw [eS_408, setP_ne (by decide +kernel)]; exact pz_402
    have pz_425 : oP S_408 o 8 = none := by rw [eS_408, setP_ne (by decide +kernel)]; exact pz_403
    have X_427 : oXc ([] : List Nat) o Z S_408 := by rw [eS_408]; exact oXc.P X_405
    have pk_428 : oP S_408 o 15 = some q_384 := by rw [eS_408, setP_same]
    refine lv_aload_n hx hb dX1_init_35 rfl (lv_at hl 0 rfl) ?_
    refine lv_aload_n hx hb dX1_init_36 rfl (lv_at hl 1 rfl) ?_
    have t_429 : oty S_408 o 31 := (oX.ty XS_408 t_406)
    obtain ⟨q_430, hq_430⟩ := og (cq := cq) t_429.1 (oE_31 t_429.2)
    have t_431 : oty S_408 a1 6 := (oX.ty XS_408 (oX.ty XS_386 (oX.ty XS_363 (oX.ty XS_341 (oX.ty XS_318 (oX.ty XS_296 (oX.ty XS_273 ta1)))))))
    refine va_putF (D := (dC, dI)) (ci := 1) (v := .ref a1) (ty := .object "ShipOffice$Man") (C := RX1) (T := TX1) (N := 18) hx hb hts in_wsX1_init_X1 tyX1 tyX1_ok nmX1 hown hK hP hD hS q_430 hq_430 rfl 0 (by decide +kernel) (hts (.fieldLink RX1 29 "ShipOffice$Agreement" "man" "LShipOffice$Man;") iw_X1_init_9) (fun _ h9 => h9) rfl hin rfl (by decide +kernel) rfl rfl (Nat.le_of_ble_eq_true rfl) dX1_init_37 (fun H locs hP1 hD1 hS => ?_)
    obtain ⟨S_432, eS_432⟩ : ∃ zq, zq = setP S_408 o 0 (some a1) := ⟨_, rfl⟩
    have hP : va_P (dC, dI) vwCl (oW cq S_432) H := by rw [eS_432]; exact cP (oset t_429.1 hq_430 hD rfl (he_31_0 t_429.2) neP) hP1
    have hD : va_D A (oW cq S_432) := by rw [eS_432]; exact cD (oset t_429.1 hq_430 hD rfl (he_31_0 t_429.2) neP) hD1
    clear hP1 hD1
    have hIS_432 : oInv S_432 := by rw [eS_432]; exact oInv.P (k := 31) hIS_408 t_429.2 (by decide +kernel) rfl (by decide +kernel) t_431 (by decide +kernel)
    have XS_432 : oX [2031] S_408 S_432 := by rw [eS_432]; exact oX.P (k := 31) (key := 2031) t_429.2 rfl (List.mem_singleton.mpr rfl)
    have pk_433 : oP S_432 o 12 = some q_294 := by rw [eS_432, setP_ne (by decide +kernel)]; exact pk_409
    have pk_434 : oP S_432 o 14 = some q_339 := by rw [eS_432, setP_ne (by decide +kernel)]; exact pk_410
    have pk_435 : oP S_432 o 15 = some q_384 := by rw [eS_432, setP_ne (by decide +kernel)]; exact pk_428
    have ik_436 : oI S_432 o 2 = 0 := by rw [eS_432]; exact ik_411
    have ik_437 : oI S_432 o 4 = 0 := by rw [eS_432]; exact ik_412
    have ik_438 : oI S_432 o 5 = 0 := by rw [eS_432]; exact ik_413
    have ik_439 : oI S_432 o 7 = 0 := by rw [eS_432]; exact ik_414
    have ik_440 : oI S_432 o 9 = 0 := by rw [eS_432]; exact ik_415
    have ik_441 : oI S_432 o 10 = 0 := by rw [eS_432]; exact ik_416
    have ik_442 : oI S_432 o 11 = 0 := by rw [eS_432]; exact ik_417
    have ik_443 : oI S_432 o 13 = 0 := by rw [eS_432]; exact ik_418
    have ik_444 : oI S_432 o 16 = 0 := by rw [eS_432]; exact ik_419
    have ik_445 : oI S_432 o 17 = 0 := by rw [eS_432]; exact ik_420
    have ik_446 : oI S_432 o 6 = 1000000 := by rw [eS_432]; exact ik_421
    have pz_448 : oP S_432 o 1 = none := by rw [eS_432, setP_ne (by decide +kernel)]; exact pz_423
    have pz_449 : oP S_432 o 3 = none := by rw [eS_432, setP_ne (by decide +kernel)]; exact pz_424
    have pz_450 : oP S_432 o 8 = none := by rw [eS_432, setP_ne (by decide +kernel)]; exact pz_425
    have X_451 : oXc ([] : List Nat) o Z S_432 := by rw [eS_432]; exact oXc.P X_427
    have pk_452 : oP S_432 o 0 = some a1 := by rw [eS_432, setP_same]
    refine lv_aload_n hx hb dX1_init_40 rfl (lv_at hl 0 rfl) ?_
    refine lv_aload_n hx hb dX1_init_41 rfl (lv_at hl 2 rfl) ?_
    have t_453 : oty S_432 o 31 := (oX.ty XS_432 t_429)
    obtain ⟨q_454, hq_454⟩ := og (cq := cq) t_453.1 (oE_31 t_453.2)
    have t_455 : oty S_432 a2 9 := (oX.ty XS_432 (oX.ty XS_408 (oX.ty XS_386 (oX.ty XS_363 (oX.ty XS_341 (oX.ty XS_318 (oX.ty XS_296 (oX.ty XS_273 ta2))))))))
    refine va_putF (D := (dC, dI)) (ci := 1) (v := .ref a2) (ty := .object "ShipOffice$Voyage") (C := RX1) (T := TX1) (N := 18) hx hb hts in_wsX1_init_X1 tyX1 tyX1_ok nmX1 hown hK hP hD hS q_454 hq_454 rfl 1 (by decide +kernel) (hts (.fieldLink RX1 33 "ShipOffice$Agreement" "voyage" "LShipOffice$Voyage;") iw_X1_init_10) (fun _ h9 => h9) rfl hin rfl (by decide +kernel) rfl rfl (Nat.le_of_ble_eq_true rfl) dX1_init_42 (fun H locs hP1 hD1 hS => ?_)
    obtain ⟨S_456, eS_456⟩ : ∃ zq, zq = setP S_432 o 1 (some a2) := ⟨_, rfl⟩
    have hP : va_P (dC, dI) vwCl (oW cq S_456) H := by rw [eS_456]; exact cP (oset t_453.1 hq_454 hD rfl (he_31_1 t_453.2) neP) hP1
    have hD : va_D A (oW cq S_456) := by rw [eS_456]; exact cD (oset t_453.1 hq_454 hD rfl (he_31_1 t_453.2) neP) hD1
    clear hP1 hD1
    have hIS_456 : oInv S_456 := by rw [eS_456]; exact oInv.P (k := 31) hIS_432 t_453.2 (by decide +kernel) rfl (by decide +kernel) t_455 (by decide +kernel)
    have XS_456 : oX [2031] S_432 S_456 := by rw [eS_456]; exact oX.P (k := 31) (key := 2031) t_453.2 rfl (List.mem_singleton.mpr rfl)
    have pk_457 : oP S_456 o 12 = some q_294 := by rw [eS_456, setP_ne (by decide +kernel)]; exact pk_433
    have pk_458 : oP S_456 o 14 = some q_339 := by rw [eS_456, setP_ne (by decide +kernel)]; exact pk_434
    have pk_459 : oP S_456 o 15 = some q_384 := by rw [eS_456, setP_ne (by decide +kernel)]; exact pk_435
    have pk_460 : oP S_456 o 0 = some a1 := by rw [eS_456, setP_ne (by decide +kernel)]; exact pk_452
    have ik_461 : oI S_456 o 2 = 0 := by rw [eS_456]; exact ik_436
    have ik_462 : oI S_456 o 4 = 0 := by rw [eS_456]; exact ik_437
    have ik_463 : oI S_456 o 5 = 0 := by rw [eS_456]; exact ik_438
    have ik_464 : oI S_456 o 7 = 0 := by rw [eS_456]; exact ik_439
    have ik_465 : oI S_456 o 9 = 0 := by rw [eS_456]; exact ik_440
    have ik_466 : oI S_456 o 10 = 0 := by rw [eS_456]; exact ik_441
    have ik_467 : oI S_456 o 11 = 0 := by rw [eS_456]; exact ik_442
    have ik_468 : oI S_456 o 13 = 0 := by rw [eS_456]; exact ik_443
    have ik_469 : oI S_456 o 16 = 0 := by rw [eS_456]; exact ik_444
    have ik_470 : oI S_456 o 17 = 0 := by rw [eS_456]; exact ik_445
    have ik_471 : oI S_456 o 6 = 1000000 := by rw [eS_456]; exact ik_446
    have pz_473 : oP S_456 o 3 = none := by rw [eS_456, setP_ne (by decide +kernel)]; exact pz_449
    have pz_474 : oP S_456 o 8 = none := by rw [eS_456, setP_ne (by decide +kernel)]; exact pz_450
    have X_475 : oXc ([] : List Nat) o Z S_456 := by rw [eS_456]; exact oXc.P X_451
    have pk_476 : oP S_456 o 1 = some a2 := by rw [eS_456, setP_same]
    refine lv_aload_n hx hb dX1_init_45 rfl (lv_at hl 0 rfl) ?_
    refine lv_iload_n hx hb dX1_init_46 rfl (lv_at hl 3 rfl) ?_
    have t_477 : oty S_456 o 31 := (oX.ty XS_456 t_453)
    obtain ⟨q_478, hq_478⟩ := og (cq := cq) t_477.1 (oE_31 t_477.2)
    refine va_putF (D := (dC, dI)) (ci := 1) (v := .int x3) (ty := .int) (C := RX1) (T := TX1) (N := 18) hx hb hts in_wsX1_init_X1 tyX1 tyX1_ok nmX1 hown hK hP hD hS q_478 hq_478 rfl 2 (by decide +kernel) (hts (.fieldLink RX1 37 "ShipOffice$Agreement" "signedOn" "I") iw_X1_init_11) (fun _ h9 => h9) rfl hin rfl (by decide +kernel) rfl rfl (Nat.le_of_ble_eq_true rfl) dX1_init_47 (fun H locs hP1 hD1 hS => ?_)
    obtain ⟨S_479, eS_479⟩ : ∃ zq, zq = setI S_456 o 2 x3 := ⟨_, rfl⟩
    have hP : va_P (dC, dI) vwCl (oW cq S_479) H := by rw [eS_479]; exact cP (oset t_477.1 hq_478 hD rfl (he_31_2 t_477.2) neI) hP1
    have hD : va_D A (oW cq S_479) := by rw [eS_479]; exact cD (oset t_477.1 hq_478 hD rfl (he_31_2 t_477.2) neI) hD1
    clear hP1 hD1
    have hIS_479 : oInv S_479 := by rw [eS_479]; exact oInv.I0 (k := 31) (lo := -2147483648) (hi := 2147483647) hIS_456 t_477.2 (by decide +kernel) rfl rfl rfl (iv_all _)
    have XS_479 : oX [2031] S_456 S_479 := by rw [eS_479]; exact oX.I (k := 31) (key := 2031) t_477.2 rfl (List.mem_singleton.mpr rfl)
    have pk_480 : oP S_479 o 12 = some q_294 := by rw [eS_479]; exact pk_457
    have pk_481 : oP S_479 o 14 = some q_339 := by rw [eS_479]; exact pk_458
    have pk_482 : oP S_479 o 15 = some q_384 := by rw [eS_479]; exact pk_459
    have pk_483 : oP S_479 o 0 = some a1 := by rw [eS_479]; exact pk_460
    have pk_484 : oP S_479 o 1 = some a2 := by rw [eS_479]; exact pk_476
    have ik_486 : oI S_479 o 4 = 0 := by rw [eS_479, setI_ne (by decide +kernel)]; exact ik_462
    have ik_487 : oI S_479 o 5 = 0 := by rw [eS_479, setI_ne (by decide +kernel)]; exact ik_463
    have ik_488 : oI S_479 o 7 = 0 := by rw [eS_479, setI_ne (by decide +kernel)]; exact ik_464
    have ik_489 : oI S_479 o 9 = 0 := by rw [eS_479, setI_ne (by decide +kernel)]; exact ik_465
    have ik_490 : oI S_479 o 10 = 0 := by rw [eS_479, setI_ne (by decide +kernel)]; exact ik_466
    have ik_491 : oI S_479 o 11 = 0 := by rw [eS_479, setI_ne (by decide +kernel)]; exact ik_467
    have ik_492 : oI S_479 o 13 = 0 := by rw [eS_479, setI_ne (by decide +kernel)]; exact ik_468
    have ik_493 : oI S_479 o 16 = 0 := by rw [eS_479, setI_ne (by decide +kernel)]; exact ik_469
    have ik_494 : oI S_479 o 17 = 0 := by rw [eS_479, setI_ne (by decide +kernel)]; exact ik_470
    have ik_495 : oI S_479 o 6 = 1000000 := by rw [eS_479, setI_ne (by decide +kernel)]; exact ik_471
    have pz_496 : oP S_479 o 3 = none := by rw [eS_479]; exact pz_473
    have pz_497 : oP S_479 o 8 = none := by rw [eS_479]; exact pz_474
    have X_498 : oXc ([] : List Nat) o Z S_479 := by rw [eS_479]; exact oXc.I X_475
    have pk_499 : oI S_479 o 2 = x3 := by rw [eS_479, setI_same]
    refine lv_aload_n hx hb dX1_init_50 rfl (lv_at hl 0 rfl) ?_
    refine lv_aload hx hb dX1_init_51 (lv_at hl 4 rfl) ?_
    have t_500 : oty S_479 o 31 := (oX.ty XS_479 t_477)
    obtain ⟨q_501, hq_501⟩ := og (cq := cq) t_500.1 (oE_31 t_500.2)
    have t_502 : oty S_479 br4 1 := (oX.ty XS_479 (oX.ty XS_456 (oX.ty XS_432 (oX.ty XS_408 (oX.ty XS_386 (oX.ty XS_363 (oX.ty XS_341 (oX.ty XS_318 (oX.ty XS_296 (oX.ty XS_273 tbbr4))))))))))
    refine va_putF (D := (dC, dI)) (ci := 1) (v := .ref br4) (ty := .object "ShipOffice$Agreement") (C := RX1) (T := TX1) (N := 18) hx hb hts in_wsX1_init_X1 tyX1 tyX1_ok nmX1 hown hK hP hD hS q_501 hq_501 rfl 3 (by decide +kernel) (hts (.fieldLink RX1 40 "ShipOffice$Agreement" "paper" "LShipOffice$Agreement;") iw_X1_init_12) (fun _ h9 => h9) rfl hin rfl (by decide +kernel) rfl rfl (Nat.le_of_ble_eq_true rfl) dX1_init_53 (fun H locs hP1 hD1 hS => ?_)
    obtain ⟨S_503, eS_503⟩ : ∃ zq, zq = setP S_479 o 3 (some br4) := ⟨_, rfl⟩
    have hP : va_P (dC, dI) vwCl (oW cq S_503) H := by rw [eS_503]; exact cP (oset t_500.1 hq_501 hD rfl (he_31_3 t_500.2) neP) hP1
    have hD : va_D A (oW cq S_503) := by rw [eS_503]; exact cD (oset t_500.1 hq_501 hD rfl (he_31_3 t_500.2) neP) hD1
    clear hP1 hD1
    have hIS_503 : oInv S_503 := by rw [eS_503]; exact oInv.P (k := 31) hIS_479 t_500.2 (by decide +kernel) rfl (by decide +kernel) t_502 (by decide +kernel)
    have XS_503 : oX [2031] S_479 S_503 := by rw [eS_503]; exact oX.P (k := 31) (key := 2031) t_500.2 rfl (List.mem_singleton.mpr rfl)
    have pk_504 : oP S_503 o 12 = some q_294 := by rw [eS_503, setP_ne (by decide +kernel)]; exact pk_480
    have pk_505 : oP S_503 o 14 = some q_339 := by rw [eS_503, setP_ne (by decide +kernel)]; exact pk_481
    have pk_506 : oP S_503 o 15 = some q_384 := by rw [eS_503, setP_ne (by decide +kernel)]; exact pk_482
    have pk_507 : oP S_503 o 0 = some a1 := by rw [eS_503, setP_ne (by decide +kernel)]; exact pk_483
    have pk_508 : oP S_503 o 1 = some a2 := by rw [eS_503, setP_ne (by decide +kernel)]; exact pk_484
    have ik_509 : oI S_503 o 4 = 0 := by rw [eS_503]; exact ik_486
    have ik_510 : oI S_503 o 5 = 0 := by rw [eS_503]; exact ik_487
    have ik_511 : oI S_503 o 7 = 0 := by rw [eS_503]; exact ik_488
    have ik_512 : oI S_503 o 9 = 0 := by rw [eS_503]; exact ik_489
    have ik_513 : oI S_503 o 10 = 0 := by rw [eS_503]; exact ik_490
    have ik_514 : oI S_503 o 11 = 0 := by rw [eS_503]; exact ik_491
    have ik_515 : oI S_503 o 13 = 0 := by rw [eS_503]; exact ik_492
    have ik_516 : oI S_503 o 16 = 0 := by rw [eS_503]; exact ik_493
    have ik_517 : oI S_503 o 17 = 0 := by rw [eS_503]; exact ik_494
    have ik_518 : oI S_503 o 6 = 1000000 := by rw [eS_503]; exact ik_495
    have ik_519 : oI S_503 o 2 = x3 := by rw [eS_503]; exact pk_499
    have pz_521 : oP S_503 o 8 = none := by rw [eS_503, setP_ne (by decide +kernel)]; exact pz_497
    have X_522 : oXc ([] : List Nat) o Z S_503 := by rw [eS_503]; exact oXc.P X_498
    have pk_523 : oP S_503 o 3 = some br4 := by rw [eS_503, setP_same]
    have t_525 : oty S_503 o 31 := (oX.ty XS_503 t_500)
    obtain ⟨S_524, eS_524⟩ : ∃ zq, zq = setK S_503 o 1 := ⟨_, rfl⟩
    have hP : va_P (dC, dI) vwCl (oW cq S_524) H := by rw [eS_524]; exact cP (ret_W (c := 1) t_525.2 (by decide +kernel)) hP
    have hD : va_D A (oW cq S_524) := by rw [eS_524]; exact cD (ret_W (c := 1) t_525.2 (by decide +kernel)) hD
    have hIS_524 : oInv S_524 := by rw [eS_524]; exact oInv.ret (c := 1) hIS_503 t_525 (by decide +kernel) (fun i hi => by rcases nn_1 hi with rfl | rfl | rfl | rfl | rfl <;> first | exact ⟨_, pk_507⟩ | exact ⟨_, pk_508⟩ | exact ⟨_, pk_523⟩ | exact ⟨_, pk_504⟩ | exact ⟨_, pk_505⟩ | exact ⟨_, pk_506⟩) (fun i p hp => by rcases ct_1 hp with rfl <;> first | (rw [ik_519]; decide) | (rw [ik_509]; decide) | (rw [ik_510]; decide) | (rw [ik_518]; decide) | (rw [ik_511]; decide) | (rw [ik_512]; decide) | (rw [ik_513]; decide) | (rw [ik_514]; decide) | (rw [ik_515]; decide) | (rw [ik_516]; decide) | (rw [ik_517]; decide)) (fun h => absurd h (by decide +kernel)) (fun h => absurd h (by decide +kernel)) (fun h => absurd h (by decide +kernel))
    have XS_524 : oXc ([] : List Nat) o Z S_524 := by rw [eS_524]; exact oXc.K X_522
    have tS_524 : oty S_524 o 1 := by rw [eS_524]; exact K_ty t_525.1
    have pk_526 : oP S_524 o 12 = some q_294 := by rw [eS_524]; exact pk_504
    have pk_527 : oP S_524 o 14 = some q_339 := by rw [eS_524]; exact pk_505
    have pk_528 : oP S_524 o 15 = some q_384 := by rw [eS_524]; exact pk_506
    have pk_529 : oP S_524 o 0 = some a1 := by rw [eS_524]; exact pk_507
    have pk_530 : oP S_524 o 1 = some a2 := by rw [eS_524]; exact pk_508
    have pk_531 : oP S_524 o 3 = some br4 := by rw [eS_524]; exact pk_523
    have ik_532 : oI S_524 o 4 = 0 := by rw [eS_524]; exact ik_509
    have ik_533 : oI S_524 o 5 = 0 := by rw [eS_524]; exact ik_510
    have ik_534 : oI S_524 o 7 = 0 := by rw [eS_524]; exact ik_511
    have ik_535 : oI S_524 o 9 = 0 := by rw [eS_524]; exact ik_512
    have ik_536 : oI S_524 o 10 = 0 := by rw [eS_524]; exact ik_513
    have ik_537 : oI S_524 o 11 = 0 := by rw [eS_524]; exact ik_514
    have ik_538 : oI S_524 o 13 = 0 := by rw [eS_524]; exact ik_515
    have ik_539 : oI S_524 o 16 = 0 := by rw [eS_524]; exact ik_516
    have ik_540 : oI S_524 o 17 = 0 := by rw [eS_524]; exact ik_517
    have ik_541 : oI S_524 o 6 = 1000000 := by rw [eS_524]; exact ik_518
    have ik_542 : oI S_524 o 2 = x3 := by rw [eS_524]; exact ik_519
    have pz_543 : oP S_524 o 8 = none := by rw [eS_524]; exact pz_521
    exact W.vret hx hb hr (fun t ht hW => ⟨⟨S_524, rfl, ⟨hIS_524, XS_524, ⟨tS_524, ⟨pk_529, pk_530, ik_542, pk_531, ik_532, ik_533, ik_541, ik_534, pz_543, ik_535, ik_536, ik_537, ⟨q_294, pk_526, nzq_294⟩, ik_538, ⟨q_339, pk_527, nzq_339⟩, ⟨q_384, pk_528, nzq_384⟩, ik_539, ik_540⟩⟩⟩, ⟨by rw [ht]; exact hP, va_K.moved hW.alike hK, hD⟩⟩, hS.F ht⟩) hS.2.2 dX1_init_56
