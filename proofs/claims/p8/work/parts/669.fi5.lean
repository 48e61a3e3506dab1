


set_option maxHeartbeats 4000000 in
set_option maxRecDepth 100000 in
theorem c_X10_init_g (l : Launch) (dC : Nat → ClassId) (dI : Nat → Nat → Nat) (sz : Nat) (tL tS tG : Nat) (cq : Nat → ClassId) (Z : oS) (gI : oInv Z) (o : Nat) (to : oty Z o 40) (hz : ∀ j, oI Z o j = 0) : Met l yX10_init wsX10_init ({ frames := 5, cells := 39, slots := 901, locals := 115 }) (va_Pc [.ref o] (pcO (dC, dI) (oT cq) (oW cq Z) sz tL tS tG (oW cq Z))) (va_Qv (fun (u : oS) => oInv u ∧ oXc [5001] o Z u ∧ (oty u o 10 ∧ (oI u o 0 = 0 ∧ oI u o 2 = 0 ∧ oI u o 4 = 0 ∧ oI u o 6 = 0 ∧ oI u o 7 = 0 ∧ oI u o 14 = 0) ∧ (∀ sea ml, oP u o 10 = some sea → oP u sea 0 = some ml → oI u ml = fun _ => 0) ∧ (∀ tp, oP u o 9 = some tp → oI u tp 1 = 0) ∧ (∀ lw, oP u o 8 = some lw → lawI u lw) ∧ ∀ rf, oP u o 15 = some rf → oI u rf = fun _ => 0)) (fun u t => va_P (dC, dI) vwCl (oW cq u) t.heap ∧ va_K (dC, dI) vwCl (oT cq) t ∧ va_D (va_A (oW cq Z) sz) (oW cq u)) (va_A (oW cq Z) sz)) 39 901 (va_A (oW cq Z) sz) := by
  refine Met.ofW (cc := cX10_init) (maxL := 1) (ret := none) (by decide +kernel) rfl ?_
  intro p e s m args below meth c s₁ B hml hv
  obtain ⟨rfl, ⟨hsz, hP, hK, hD0⟩, hZ⟩ := hv
  have hx := B.exec
  have hb := B.bytes
  have hr := B.returns
  have hts := atoms_spec (ws := wsX10_init) B.pre
  have hown : s.vm.findClass RX10 = some m.cls := findClass_of_methodNamed B.named
  have hlocks := B.notSynchronized
  have hin : meth.name = "<init>" := (name_of_methodNamed B.named B.method).1
  subst hsz
  have hD := hD0.self (sz := s.heap.size)
  generalize hAe : va_A (oW cq Z) s.heap.size = A at hD hZ ⊢
  have hA : ∀ q : Nat, s.heap.size ≤ q → A q := fun q h => by rw [← hAe]; exact Or.inr h
  have hS : va_S A s.heap s.heap [] := va_S.rf
  have hP : va_P (dC, dI) vwCl (oW cq Z) s.heap := hP
  have hl := lv_entry ([.ref o]) (n := 1) (Nat.le_of_ble_eq_true rfl)
  rw [lg_entry_eq]
  generalize (lg_sl ([.ref o]) ++ List.replicate (1 - (lg_sl ([.ref o])).length) Slot.unset).toArray = ls at hl ⊢
  have hl : lv_has ls 1 [(0, .ref o)] := hl
  refine lv_aload_n hx hb dX10_init_0 rfl (lv_at hl 0 rfl) ?_
  refine W.objInit hx hb hown (hts (.methodLink RX10 3 objectInit) iw_X10_init_1) (hts (.instanceMethod objectInit) iw_X10_init_2) (hts (.code objectInit ⟨#[0xb1]⟩ 1 none) (in_obj_wsX10_init)) rfl (by rw [hml]; exact hl.1) rfl dX10_init_1 (Nat.le_of_ble_eq_true rfl) (Nat.le_of_ble_eq_true rfl) ?_
  refine W.eq (g2 := F0 m 4 ls []) rfl ?_
  refine lv_aload_n hx hb dX10_init_4 rfl (lv_at hl 0 rfl) ?_
  refine lv_bipush (v := 40) hx hb dX10_init_5 (by decide +kernel) ?_
  refine va_newq (N' := 40) hx hb hown (hts (.classLink RX10 9 RX6) iw_X10_init_3) hZ.1.2.2.2.2.2.2.2.1 hK hP hD hS hA (by decide +kernel) (by decide +kernel) (by decide +kernel) (Nat.le_of_ble_eq_true rfl) (Nat.le_of_ble_eq_true rfl) dX10_init_7 (fun q_1 k_2 H hK1 hP1 hD1 hS => ?_)
  obtain ⟨rfl, -⟩ := lv_ad (k := 3) hK1 rfl
  clear hK1
  have hnq_1 := add_q hD1
  obtain ⟨S_3, eS_3⟩ : ∃ zq, zq = addO Z q_1 14 := ⟨_, rfl⟩
  have hP : va_P (dC, dI) vwCl (oW cq S_3) H := by rw [eS_3]; exact cP (onew hD1 (by rw [oE_14 add_K, add_P])) hP1
  have hD : va_D A (oW cq S_3) := by rw [eS_3]; exact cD (onew hD1 (by rw [oE_14 add_K, add_P])) hD1
  clear hP1 hD1
  have hIS_3 : oInv S_3 := by rw [eS_3]; exact oInv.add gI hnq_1 (by decide +kernel)
  have XS_3 : oX [] Z S_3 := by rw [eS_3]; exact oX.add hnq_1
  have nzq_1 : q_1 ∉ oL Z := hnq_1
  have ik_4 : oI S_3 o 0 = 0 := by rw [eS_3, add_In hnq_1 to.1]; exact (hz 0)
  have ik_5 : oI S_3 o 2 = 0 := by rw [eS_3, add_In hnq_1 to.1]; exact (hz 2)
  have ik_6 : oI S_3 o 4 = 0 := by rw [eS_3, add_In hnq_1 to.1]; exact (hz 4)
  have ik_7 : oI S_3 o 6 = 0 := by rw [eS_3, add_In hnq_1 to.1]; exact (hz 6)
  have ik_8 : oI S_3 o 7 = 0 := by rw [eS_3, add_In hnq_1 to.1]; exact (hz 7)
  have ik_9 : oI S_3 o 14 = 0 := by rw [eS_3, add_In hnq_1 to.1]; exact (hz 14)
  have X_10 : oXc [5001] o Z S_3 := oXc.st oXc.rf XS_3 (by decide +kernel)
  have tq_1 : oty S_3 q_1 14 := by rw [eS_3]; exact add_ty
  refine W.widen (k := 1) (n := 40) (Nat.le_of_ble_eq_true rfl) (Nat.le_of_ble_eq_true rfl) ?_
  have t_11 : oty S_3 o 40 := (oX.ty XS_3 to)
  obtain ⟨q_12, hq_12⟩ := og (cq := cq) t_11.1 (oE_40 t_11.2)
  refine va_putF (D := (dC, dI)) (ci := 10) (v := .ref q_1) (ty := .array (.object "ShipOffice$Man")) (C := RX10) (T := TX10) (N := 16) hx hb hts in_wsX10_init_X10 tyX10 tyX10_ok nmX10 hown hK hP hD hS q_12 hq_12 rfl 1 (by decide +kernel) (hts (.fieldLink RX10 11 "ShipOffice" "men" "[LShipOffice$Man;") iw_X10_init_4) (fun _ h9 => h9) rfl hin rfl (by decide +kernel) rfl rfl (Nat.le_of_ble_eq_true rfl) dX10_init_10 (fun H locs hP1 hD1 hS => ?_)
  obtain ⟨S_13, eS_13⟩ : ∃ zq, zq = setP S_3 o 1 (some q_1) := ⟨_, rfl⟩
  have hP : va_P (dC, dI) vwCl (oW cq S_13) H := by rw [eS_13]; exact cP (oset t_11.1 hq_12 hD rfl (he_40_1 t_11.2) neP) hP1
  have hD : va_D A (oW cq S_13) := by rw [eS_13]; exact cD (oset t_11.1 hq_12 hD rfl (he_40_1 t_11.2) neP) hD1
  clear hP1 hD1
  have hIS_13 : oInv S_13 := by rw [eS_13]; exact oInv.P (k := 40) hIS_3 t_11.2 (by decide +kernel) rfl (by decide +kernel) tq_1 (by decide +kernel)
  have XS_13 : oX [2040] S_3 S_13 := by rw [eS_13]; exact oX.P (k := 40) (key := 2040) t_11.2 rfl (List.mem_singleton.mpr rfl)
  have ik_14 : oI S_13 o 0 = 0 := by rw [eS_13]; exact ik_4
  have ik_15 : oI S_13 o 2 = 0 := by rw [eS_13]; exact ik_5
  have ik_16 : oI S_13 o 4 = 0 := by rw [eS_13]; exact ik_6
  have ik_17 : oI S_13 o 6 = 0 := by rw [eS_13]; exact ik_7
  have ik_18 : oI S_13 o 7 = 0 := by rw [eS_13]; exact ik_8
  have ik_19 : oI S_13 o 14 = 0 := by rw [eS_13]; exact ik_9
  have X_20 : oXc [5001] o Z S_13 := by rw [eS_13]; exact oXc.P X_10
  have pk_21 : oP S_13 o 1 = some q_1 := by rw [eS_13, setP_same]
  refine lv_aload_n hx hb dX10_init_13 rfl (lv_at hl 0 rfl) ?_
  refine lv_bipush (v := 20) hx hb dX10_init_14 (by decide +kernel) ?_
  refine va_newq (N' := 20) hx hb hown (hts (.classLink RX10 15 RX9) iw_X10_init_5) hZ.1.2.2.2.2.2.2.2.2.1 hK hP hD hS hA (by decide +kernel) (by decide +kernel) (by decide +kernel) (Nat.le_of_ble_eq_true rfl) (Nat.le_of_ble_eq_true rfl) dX10_init_16 (fun q_22 k_23 H hK1 hP1 hD1 hS => ?_)
  obtain ⟨rfl, -⟩ := lv_ad (k := 4) hK1 rfl
  clear hK1
  have hnq_22 := add_q hD1
  obtain ⟨S_24, eS_24⟩ : ∃ zq, zq = addO S_13 q_22 15 := ⟨_, rfl⟩
  have hP : va_P (dC, dI) vwCl (oW cq S_24) H := by rw [eS_24]; exact cP (onew hD1 (by rw [oE_15 add_K, add_P])) hP1
  have hD : va_D A (oW cq S_24) := by rw [eS_24]; exact cD (onew hD1 (by rw [oE_15 add_K, add_P])) hD1
  clear hP1 hD1
  have hIS_24 : oInv S_24 := by rw [eS_24]; exact oInv.add hIS_13 hnq_22 (by decide +kernel)
  have XS_24 : oX [] S_13 S_24 := by rw [eS_24]; exact oX.add hnq_22
  have nzq_22 : q_22 ∉ oL Z := oXc.nin X_20 hnq_22
  have pk_25 : oP S_24 o 1 = some q_1 := by rw [eS_24, add_Pn hnq_22 (oX.ty XS_13 t_11).1]; exact pk_21
  have ik_26 : oI S_24 o 0 = 0 := by rw [eS_24, add_In hnq_22 (oX.ty XS_13 t_11).1]; exact ik_14
  have ik_27 : oI S_24 o 2 = 0 := by rw [eS_24, add_In hnq_22 (oX.ty XS_13 t_11).1]; exact ik_15
  have ik_28 : oI S_24 o 4 = 0 := by rw [eS_24, add_In hnq_22 (oX.ty XS_13 t_11).1]; exact ik_16
  have ik_29 : oI S_24 o 6 = 0 := by rw [eS_24, add_In hnq_22 (oX.ty XS_13 t_11).1]; exact ik_17
  have ik_30 : oI S_24 o 7 = 0 := by rw [eS_24, add_In hnq_22 (oX.ty XS_13 t_11).1]; exact ik_18
  have ik_31 : oI S_24 o 14 = 0 := by rw [eS_24, add_In hnq_22 (oX.ty XS_13 t_11).1]; exact ik_19
  have X_32 : oXc [5001] o Z S_24 := oXc.st X_20 XS_24 (by decide +kernel)
  have tq_22 : oty S_24 q_22 15 := by rw [eS_24]; exact add_ty
  refine W.widen (k := 2) (n := 60) (Nat.le_of_ble_eq_true rfl) (Nat.le_of_ble_eq_true rfl) ?_
  have t_33 : oty S_24 o 40 := (oX.ty XS_24 (oX.ty XS_13 t_11))
  obtain ⟨q_34, hq_34⟩ := og (cq := cq) t_33.1 (oE_40 t_33.2)
  refine va_putF (D := (dC, dI)) (ci := 10) (v := .ref q_22) (ty := .array (.object "ShipOffice$Voyage")) (C := RX10) (T := TX10) (N := 16) hx hb hts in_wsX10_init_X10 tyX10 tyX10_ok nmX10 hown hK hP hD hS q_34 hq_34 rfl 3 (by decide +kernel) (hts (.fieldLink RX10 17 "ShipOffice" "voyages" "[LShipOffice$Voyage;") iw_X10_init_6) (fun _ h9 => h9) rfl hin rfl (by decide +kernel) rfl rfl (Nat.le_of_ble_eq_true rfl) dX10_init_19 (fun H locs hP1 hD1 hS => ?_)
  obtain ⟨S_35, eS_35⟩ : ∃ zq, zq = setP S_24 o 3 (some q_22) := ⟨_, rfl⟩
  have hP : va_P (dC, dI) vwCl (oW cq S_35) H := by rw [eS_35]; exact cP (oset t_33.1 hq_34 hD rfl (he_40_3 t_33.2) neP) hP1
  have hD : va_D A (oW cq S_35) := by rw [eS_35]; exact cD (oset t_33.1 hq_34 hD rfl (he_40_3 t_33.2) neP) hD1
  clear hP1 hD1
  have hIS_35 : oInv S_35 := by rw [eS_35]; exact oInv.P (k := 40) hIS_24 t_33.2 (by decide +kernel) rfl (by decide +kernel) tq_22 (by decide +kernel)
  have XS_35 : oX [2040] S_24 S_35 := by rw [eS_35]; exact oX.P (k := 40) (key := 2040) t_33.2 rfl (List.mem_singleton.mpr rfl)
  have pk_36 : oP S_35 o 1 = some q_1 := by rw [eS_35, setP_ne (by decide +kernel)]; exact pk_25
  have ik_37 : oI S_35 o 0 = 0 := by rw [eS_35]; exact ik_26
  have ik_38 : oI S_35 o 2 = 0 := by rw [eS_35]; exact ik_27
  have ik_39 : oI S_35 o 4 = 0 := by rw [eS_35]; exact ik_28
  have ik_40 : oI S_35 o 6 = 0 := by rw [eS_35]; exact ik_29
  have ik_41 : oI S_35 o 7 = 0 := by rw [eS_35]; exact ik_30
  have ik_42 : oI S_35 o 14 = 0 := by rw [eS_35]; exact ik_31
  have X_43 : oXc [5001] o Z S_35 := by rw [eS_35]; exact oXc.P X_32
  have pk_44 : oP S_35 o 3 = some q_22 := by rw [eS_35, setP_same]
  refine lv_aload_n hx hb dX10_init_22 rfl (lv_at hl 0 rfl) ?_
  refine lv_bipush (v := 60) hx hb dX10_init_23 (by decide +kernel) ?_
  refine va_newq (N' := 60) hx hb hown (hts (.classLink RX10 21 RX1) iw_X10_init_7) hZ.1.2.2.2.2.2.2.2.2.2 hK hP hD hS hA (by decide +kernel) (by decide +kernel) (by decide +kernel) (Nat.le_of_ble_eq_true rfl) (Nat.le_of_ble_eq_true rfl) dX10_init_25 (fun q_45 k_46 H hK1 hP1 hD1 hS => ?_)
  obtain ⟨rfl, -⟩ := lv_ad (k := 5) hK1 rfl
  clear hK1
  have hnq_45 := add_q hD1
  obtain ⟨S_47, eS_47⟩ : ∃ zq, zq = addO S_35 q_45 16 := ⟨_, rfl⟩
  have hP : va_P (dC, dI) vwCl (oW cq S_47) H := by rw [eS_47]; exact cP (onew hD1 (by rw [oE_16 add_K, add_P])) hP1
  have hD : va_D A (oW cq S_47) := by rw [eS_47]; exact cD (onew hD1 (by rw [oE_16 add_K, add_P])) hD1
  clear hP1 hD1
  have hIS_47 : oInv S_47 := by rw [eS_47]; exact oInv.add hIS_35 hnq_45 (by decide +kernel)
  have XS_47 : oX [] S_35 S_47 := by rw [eS_47]; exact oX.add hnq_45
  have nzq_45 : q_45 ∉ oL Z := oXc.nin X_43 hnq_45
  have pk_48 : oP S_47 o 1 = some q_1 := by rw [eS_47, add_Pn hnq_45 (oX.ty XS_35 t_33).1]; exact pk_36
  have pk_49 : oP S_47 o 3 = some q_22 := by rw [eS_47, add_Pn hnq_45 (oX.ty XS_35 t_33).1]; exact pk_44
  have ik_50 : oI S_47 o 0 = 0 := by rw [eS_47, add_In hnq_45 (oX.ty XS_35 t_33).1]; exact ik_37
  have ik_51 : oI S_47 o 2 = 0 := by rw [eS_47, add_In hnq_45 (oX.ty XS_35 t_33).1]; exact ik_38
  have ik_52 : oI S_47 o 4 = 0 := by rw [eS_47, add_In hnq_45 (oX.ty XS_35 t_33).1]; exact ik_39
  have ik_53 : oI S_47 o 6 = 0 := by rw [eS_47, add_In hnq_45 (oX.ty XS_35 t_33).1]; exact ik_40
  have ik_54 : oI S_47 o 7 = 0 := by rw [eS_47, add_In hnq_45 (oX.ty XS_35 t_33).1]; exact ik_41
  have ik_55 : oI S_47 o 14 = 0 := by rw [eS_47, add_In hnq_45 (oX.ty XS_35 t_33).1]; exact ik_42
  have X_56 : oXc [5001] o Z S_47 := oXc.st X_43 XS_47 (by decide +kernel)
  have tq_45 : oty S_47 q_45 16 := by rw [eS_47]; exact add_ty
  refine W.widen (k := 3) (n := 120) (Nat.le_of_ble_eq_true rfl) (Nat.le_of_ble_eq_true rfl) ?_
  have t_57 : oty S_47 o 40 := (oX.ty XS_47 (oX.ty XS_35 t_33))
  obtain ⟨q_58, hq_58⟩ := og (cq := cq) t_57.1 (oE_40 t_57.2)
  refine va_putF (D := (dC, dI)) (ci := 10) (v := .ref q_45) (ty := .array (.object "ShipOffice$Agreement")) (C := RX10) (T := TX10) (N := 16) hx hb hts in_wsX10_init_X10 tyX10 tyX10_ok nmX10 hown hK hP hD hS q_58 hq_58 rfl 5 (by decide +kernel) (hts (.fieldLink RX10 23 "ShipOffice" "agreements" "[LShipOffice$Agreement;") iw_X10_init_8) (fun _ h9 => h9) rfl hin rfl (by decide +kernel) rfl rfl (Nat.le_of_ble_eq_true rfl) dX10_init_28 (fun H locs hP1 hD1 hS => ?_)
  obtain ⟨S_59, eS_59⟩ : ∃ zq, zq = setP S_47 o 5 (some q_45) := ⟨_, rfl⟩
  have hP : va_P (dC, dI) vwCl (oW cq S_59) H := by rw [eS_59]; exact cP (oset t_57.1 hq_58 hD rfl (he_40_5 t_57.2) neP) hP1
  have hD : va_D A (oW cq S_59) := by rw [eS_59]; exact cD (oset t_57.1 hq_58 hD rfl (he_40_5 t_57.2) neP) hD1
  clear hP1 hD1
  have hIS_59 : oInv S_59 := by rw [eS_59]; exact oInv.P (k := 40) hIS_47 t_57.2 (by decide +kernel) rfl (by decide +kernel) tq_45 (by decide +kernel)
  have XS_59 : oX [2040] S_47 S_59 := by rw [eS_59]; exact oX.P (k := 40) (key := 2040) t_57.2 rfl (List.mem_singleton.mpr rfl)
  have pk_60 : oP S_59 o 1 = some q_1 := by rw [eS_59, setP_ne (by decide +kernel)]; exact pk_48
  have pk_61 : oP S_59 o 3 = some q_22 := by rw [eS_59, setP_ne (by decide +kernel)]; exact pk_49
  have ik_62 : oI S_59 o 0 = 0 := by rw [eS_59]; exact ik_50
  have ik_63 : oI S_59 o 2 = 0 := by rw [eS_59]; exact ik_51
  have ik_64 : oI S_59 o 4 = 0 := by rw [eS_59]; exact ik_52
  have ik_65 : oI S_59 o 6 = 0 := by rw [eS_59]; exact ik_53
  have ik_66 : oI S_59 o 7 = 0 := by rw [eS_59]; exact ik_54
  have ik_67 : oI S_59 o 14 = 0 := by rw [eS_59]; exact ik_55
  have X_68 : oXc [5001] o Z S_59 := by rw [eS_59]; exact oXc.P X_56
  have pk_69 : oP S_59 o 5 = some q_45 := by rw [eS_59, setP_same]
  refine lv_aload_n hx hb dX10_init_31 rfl (lv_at hl 0 rfl) ?_
  refine va_new (ci := 5) (fs := [.null, .null, .int 0]) (C := RX5) (T := TX5) (N := 3) hx hb hts in_wsX10_init_X5 tyX5 tyX5_ok hown (hts (.classLink RX10 27 RX5) iw_X10_init_9) (hts (.instantiable RX5 3) iw_X10_init_10) (hts (.initialized RX5) iw_X10_init_11) hK hP hD hS hA rfl (fun j hj => by rcases (show j = 0 ∨ j = 1 ∨ j = 2 by omega) with rfl | rfl | rfl <;> rfl) (Nat.le_of_ble_eq_true rfl) (Nat.le_of_ble_eq_true rfl) dX10_init_32 (fun q_70 H hP1 hD1 hS => ?_)
  have hnq_70 := add_q hD1
  obtain ⟨S_71, eS_71⟩ : ∃ zq, zq = addO S_59 q_70 35 := ⟨_, rfl⟩
  have hP : va_P (dC, dI) vwCl (oW cq S_71) H := by rw [eS_71]; exact cP (onew hD1 (by rw [oE_35 add_K, add_I, add_P]; rfl)) hP1
  have hD : va_D A (oW cq S_71) := by rw [eS_71]; exact cD (onew hD1 (by rw [oE_35 add_K, add_I, add_P]; rfl)) hD1
  clear hP1 hD1
  have hIS_71 : oInv S_71 := by rw [eS_71]; exact oInv.add hIS_59 hnq_70 (by decide +kernel)
  have XS_71 : oX [] S_59 S_71 := by rw [eS_71]; exact oX.add hnq_70
  have nzq_70 : q_70 ∉ oL Z := oXc.nin X_68 hnq_70
  have pk_72 : oP S_71 o 1 = some q_1 := by rw [eS_71, add_Pn hnq_70 (oX.ty XS_59 t_57).1]; exact pk_60
  have pk_73 : oP S_71 o 3 = some q_22 := by rw [eS_71, add_Pn hnq_70 (oX.ty XS_59 t_57).1]; exact pk_61
  have pk_74 : oP S_71 o 5 = some q_45 := by rw [eS_71, add_Pn hnq_70 (oX.ty XS_59 t_57).1]; exact pk_69
  have ik_75 : oI S_71 o 0 = 0 := by rw [eS_71, add_In hnq_70 (oX.ty XS_59 t_57).1]; exact ik_62
  have ik_76 : oI S_71 o 2 = 0 := by rw [eS_71, add_In hnq_70 (oX.ty XS_59 t_57).1]; exact ik_63
  have ik_77 : oI S_71 o 4 = 0 := by rw [eS_71, add_In hnq_70 (oX.ty XS_59 t_57).1]; exact ik_64
  have ik_78 : oI S_71 o 6 = 0 := by rw [eS_71, add_In hnq_70 (oX.ty XS_59 t_57).1]; exact ik_65
  have ik_79 : oI S_71 o 7 = 0 := by rw [eS_71, add_In hnq_70 (oX.ty XS_59 t_57).1]; exact ik_66
  have ik_80 : oI S_71 o 14 = 0 := by rw [eS_71, add_In hnq_70 (oX.ty XS_59 t_57).1]; exact ik_67
  have X_81 : oXc [5001] o Z S_71 := oXc.st X_68 XS_71 (by decide +kernel)
  have tq_70 : oty S_71 q_70 35 := by rw [eS_71]; exact add_ty
  refine W.widen (k := 4) (n := 123) (Nat.le_of_ble_eq_true rfl) (Nat.le_of_ble_eq_true rfl) ?_
  refine lv_dup hx hb dX10_init_35 rfl ?_
  have hFc := o_free hD hS hA
  refine va_callv (va_runI (As := []) (rest := [.ref q_70, .ref o]) ⟨hx, hb, hml, hown, hts⟩ (c_X5_init_g l dC dI H.size tL tS tG cq S_71 hIS_71 q_70 tq_70 (fun j => by rw [eS_71, add_I])) (cwI 0 hts gX10_init_X5_init rfl rfl rfl (hts (.initialized RX5) iw_X10_init_11) (hts (.methodLink RX10 29 yX5_init) iw_X10_init_12) (hts (.instanceMethod yX5_init) iw_X10_init_13) rfl (by decide +kernel) ⟨(Nat.le_of_ble_eq_true rfl), (Nat.le_of_ble_eq_true rfl)⟩) (pr_SO hP hK hD (hZ.go hS hFc)) rfl rfl hl.1 rfl (lv_room (Nat.le_of_ble_eq_true rfl)) dX10_init_36 ⟨(Nat.le_of_ble_eq_true rfl), (Nat.le_of_ble_eq_true rfl)⟩) hS (fun q _ h => hFc q h) hFc (fun u t H locs ht hvm w_82 hB hz1 hk1 hS => ?_)
  obtain ⟨S_84, rfl⟩ : ∃ z, z = u := ⟨_, rfl⟩
  obtain ⟨hP1, hK1, hD1⟩ := hB
  rw [ht] at hP1
  have hP : va_P (dC, dI) vwCl (oW cq S_84) H := hP1
  have hD : va_D A (oW cq S_84) := hD1.weaken (fun _ _ _ h => hFc _ h)
  clear hP1 hK1 hD1 hk1 hz1 hvm ht hFc
  refine W.widen (k := 26) (n := 533) (Nat.le_of_ble_eq_true rfl) (Nat.le_of_ble_eq_true rfl) ?_
  obtain ⟨hIS_84, XS_84, hx_85⟩ := w_82
  obtain ⟨hxS_84, hcS_84⟩ := hx_85
  have X_86 : oXc [5001] o Z S_84 := oXc.c X_81 XS_84 nzq_70 (by decide +kernel)
  have pk_87 : oP S_84 o 1 = some q_1 := by rw [oXc.p XS_84 (ty_ne (oX.ty XS_71 (oX.ty XS_59 t_57)) tq_70 (by decide +kernel)) (oX.ty XS_71 (oX.ty XS_59 t_57)) (by decide +kernel)]; exact pk_72
  have pk_88 : oP S_84 o 3 = some q_22 := by rw [oXc.p XS_84 (ty_ne (oX.ty XS_71 (oX.ty XS_59 t_57)) tq_70 (by decide +kernel)) (oX.ty XS_71 (oX.ty XS_59 t_57)) (by decide +kernel)]; exact pk_73
  have pk_89 : oP S_84 o 5 = some q_45 := by rw [oXc.p XS_84 (ty_ne (oX.ty XS_71 (oX.ty XS_59 t_57)) tq_70 (by decide +kernel)) (oX.ty XS_71 (oX.ty XS_59 t_57)) (by decide +kernel)]; exact pk_74
  have ik_90 : oI S_84 o 0 = 0 := by rw [oXc.i XS_84 (ty_ne (oX.ty XS_71 (oX.ty XS_59 t_57)) tq_70 (by decide +kernel)) (oX.ty XS_71 (oX.ty XS_59 t_57)) (by decide +kernel)]; exact ik_75
  have ik_91 : oI S_84 o 2 = 0 := by rw [oXc.i XS_84 (ty_ne (oX.ty XS_71 (oX.ty XS_59 t_57)) tq_70 (by decide +kernel)) (oX.ty XS_71 (oX.ty XS_59 t_57)) (by decide +kernel)]; exact ik_76
  have ik_92 : oI S_84 o 4 = 0 := by rw [oXc.i XS_84 (ty_ne (oX.ty XS_71 (oX.ty XS_59 t_57)) tq_70 (by decide +kernel)) (oX.ty XS_71 (oX.ty XS_59 t_57)) (by decide +kernel)]; exact ik_77
  have ik_93 : oI S_84 o 6 = 0 := by rw [oXc.i XS_84 (ty_ne (oX.ty XS_71 (oX.ty XS_59 t_57)) tq_70 (by decide +kernel)) (oX.ty XS_71 (oX.ty XS_59 t_57)) (by decide +kernel)]; exact ik_78
  have ik_94 : oI S_84 o 7 = 0 := by rw [oXc.i XS_84 (ty_ne (oX.ty XS_71 (oX.ty XS_59 t_57)) tq_70 (by decide +kernel)) (oX.ty XS_71 (oX.ty XS_59 t_57)) (by decide +kernel)]; exact ik_79
  have ik_95 : oI S_84 o 14 = 0 := by rw [oXc.i XS_84 (ty_ne (oX.ty XS_71 (oX.ty XS_59 t_57)) tq_70 (by decide +kernel)) (oX.ty XS_71 (oX.ty XS_59 t_57)) (by decide +kernel)]; exact ik_80
  have hlI : lawI S_84 q_70 := hcS_84
  have t_96 : oty S_84 o 40 := (oXc.ty XS_84 (ty_ne (oX.ty XS_71 (oX.ty XS_59 t_57)) tq_70 (by decide +kernel)) (oX.ty XS_71 (oX.ty XS_59 t_57)))
  obtain ⟨q_97, hq_97⟩ := og (cq := cq) t_96.1 (oE_40 t_96.2)
  refine va_putF (D := (dC, dI)) (ci := 10) (v := .ref q_70) (ty := .object "ShipOffice$Law") (C := RX10) (T := TX10) (N := 16) hx hb hts in_wsX10_init_X10 tyX10 tyX10_ok nmX10 hown hK hP hD hS q_97 hq_97 rfl 8 (by decide +kernel) (hts (.fieldLink RX10 30 "ShipOffice" "law" "LShipOffice$Law;") iw_X10_init_14) (fun _ h9 => h9) rfl hin rfl (by decide +kernel) rfl rfl (Nat.le_of_ble_eq_true rfl) dX10_init_39 (fun H locs hP1 hD1 hS => ?_)
  obtain ⟨S_98, eS_98⟩ : ∃ zq, zq = setP S_84 o 8 (some q_70) := ⟨_, rfl⟩
  have hP : va_P (dC, dI) vwCl (oW cq S_98) H := by rw [eS_98]; exact cP (oset t_96.1 hq_97 hD rfl (he_40_8 t_96.2) neP) hP1
  have hD : va_D A (oW cq S_98) := by rw [eS_98]; exact cD (oset t_96.1 hq_97 hD rfl (he_40_8 t_96.2) neP) hD1
  clear hP1 hD1
  have hIS_98 : oInv S_98 := by rw [eS_98]; exact oInv.P (k := 40) hIS_84 t_96.2 (by decide +kernel) rfl (by decide +kernel) hxS_84 (by decide +kernel)
  have XS_98 : oX [2040] S_84 S_98 := by rw [eS_98]; exact oX.P (k := 40) (key := 2040) t_96.2 rfl (List.mem_singleton.mpr rfl)
  have pk_99 : oP S_98 o 1 = some q_1 := by rw [eS_98, setP_ne (by decide +kernel)]; exact pk_87
  have pk_100 : oP S_98 o 3 = some q_22 := by rw [eS_98, setP_ne (by decide +kernel)]; exact pk_88
  have pk_101 : oP S_98 o 5 = some q_45 := by rw [eS_98, setP_ne (by decide +kernel)]; exact pk_89
  have ik_102 : oI S_98 o 0 = 0 := by rw [eS_98]; exact ik_90
  have ik_103 : oI S_98 o 2 = 0 := by rw [eS_98]; exact ik_91
  have ik_104 : oI S_98 o 4 = 0 := by rw [eS_98]; exact ik_92
  have ik_105 : oI S_98 o 6 = 0 := by rw [eS_98]; exact ik_93
  have ik_106 : oI S_98 o 7 = 0 := by rw [eS_98]; exact ik_94
  have ik_107 : oI S_98 o 14 = 0 := by rw [eS_98]; exact ik_95
  have X_108 : oXc [5001] o Z S_98 := by rw [eS_98]; exact oXc.P X_86
  have xm_109 : oX [2040, 5001] S_84 S_98 := oX.st oX.rf XS_98 (by decide +kernel)
  have pk_110 : oP S_98 o 8 = some q_70 := by rw [eS_98, setP_same]
  refine lv_aload_n hx hb dX10_init_42 rfl (lv_at hl 0 rfl) ?_
  refine va_new (ci := 8) (fs := [.null, .int 0, .null, .int 0, .int 0, .int 0]) (C := RX8) (T := TX8) (N := 6) hx hb hts in_wsX10_init_X8 tyX8 tyX8_ok hown (hts (.classLink RX10 34 RX8) iw_X10_init_15) (hts (.instantiable RX8 6) iw_X10_init_16) (hts (.initialized RX8) iw_X10_init_17) hK hP hD hS hA rfl (fun j hj => by rcases (show j = 0 ∨ j = 1 ∨ j = 2 ∨ j = 3 ∨ j = 4 ∨ j = 5 by omega) with rfl | rfl | rfl | rfl | rfl | rfl <;> rfl) (Nat.le_of_ble_eq_true rfl) (Nat.le_of_ble_eq_true rfl) dX10_init_43 (fun q_111 H hP1 hD1 hS => ?_)
  have hnq_111 := add_q hD1
  obtain ⟨S_112, eS_112⟩ : ∃ zq, zq = addO S_98 q_111 38 := ⟨_, rfl⟩
  have hP : va_P (dC, dI) vwCl (oW cq S_112) H := by rw [eS_112]; exact cP (onew hD1 (by rw [oE_38 add_K, add_I, add_P]; rfl)) hP1
  have hD : va_D A (oW cq S_112) := by rw [eS_112]; exact cD (onew hD1 (by rw [oE_38 add_K, add_I, add_P]; rfl)) hD1
  clear hP1 hD1
  have hIS_112 : oInv S_112 := by rw [eS_112]; exact oInv.add hIS_98 hnq_111 (by decide +kernel)
  have XS_112 : oX [] S_98 S_112 := by rw [eS_112]; exact oX.add hnq_111
  have nzq_111 : q_111 ∉ oL Z := oXc.nin X_108 hnq_111
  have pk_113 : oP S_112 o 1 = some q_1 := by rw [eS_112, add_Pn hnq_111 (oX.ty XS_98 t_96).1]; exact pk_99
  have pk_114 : oP S_112 o 3 = some q_22 := by rw [eS_112, add_Pn hnq_111 (oX.ty XS_98 t_96).1]; exact pk_100
  have pk_115 : oP S_112 o 5 = some q_45 := by rw [eS_112, add_Pn hnq_111 (oX.ty XS_98 t_96).1]; exact pk_101
  have pk_116 : oP S_112 o 8 = some q_70 := by rw [eS_112, add_Pn hnq_111 (oX.ty XS_98 t_96).1]; exact pk_110
  have ik_117 : oI S_112 o 0 = 0 := by rw [eS_112, add_In hnq_111 (oX.ty XS_98 t_96).1]; exact ik_102
  have ik_118 : oI S_112 o 2 = 0 := by rw [eS_112, add_In hnq_111 (oX.ty XS_98 t_96).1]; exact ik_103
  have ik_119 : oI S_112 o 4 = 0 := by rw [eS_112, add_In hnq_111 (oX.ty XS_98 t_96).1]; exact ik_104
  have ik_120 : oI S_112 o 6 = 0 := by rw [eS_112, add_In hnq_111 (oX.ty XS_98 t_96).1]; exact ik_105
  have ik_121 : oI S_112 o 7 = 0 := by rw [eS_112, add_In hnq_111 (oX.ty XS_98 t_96).1]; exact ik_106
  have ik_122 : oI S_112 o 14 = 0 := by rw [eS_112, add_In hnq_111 (oX.ty XS_98 t_96).1]; exact ik_107
  have X_123 : oXc [5001] o Z S_112 := oXc.st X_108 XS_112 (by decide +kernel)
  have xm_124 : oX [2040, 5001] S_84 S_112 := oX.st xm_109 XS_112 (by decide +kernel)
  have tq_111 : oty S_112 q_111 38 := by rw [eS_112]; exact add_ty
  refine W.widen (k := 27) (n := 539) (Nat.le_of_ble_eq_true rfl) (Nat.le_of_ble_eq_true rfl) ?_
  refine lv_dup hx hb dX10_init_46 rfl ?_
  have hFc := o_free hD hS hA
  refine va_callv (va_runI (As := []) (rest := [.ref q_111, .ref o]) ⟨hx, hb, hml, hown, hts⟩ (c_X8_init l dC dI H.size cq S_112 hIS_112 q_111 tq_111 (fun j => by rw [eS_112, add_I])) (cwI 0 hts gX10_init_X8_init rfl rfl rfl (hts (.initialized RX8) iw_X10_init_17) (hts (.methodLink RX10 36 yX8_init) iw_X10_init_18) (hts (.instanceMethod yX8_init) iw_X10_init_19) rfl (by decide +kernel) ⟨(Nat.le_of_ble_eq_true rfl), (Nat.le_of_ble_eq_true rfl)⟩) (pr_S hP hK hD) rfl rfl hl.1 rfl (lv_room (Nat.le_of_ble_eq_true rfl)) dX10_init_47 ⟨(Nat.le_of_ble_eq_true rfl), (Nat.le_of_ble_eq_true rfl)⟩) hS (fun q _ h => hFc q h) hFc (fun u t H locs ht hvm w_125 hB hz1 hk1 hS => ?_)
  obtain ⟨S_127, rfl⟩ : ∃ z, z = u := ⟨_, rfl⟩
  obtain ⟨hP1, hK1, hD1⟩ := hB
  rw [ht] at hP1
  have hP : va_P (dC, dI) vwCl (oW cq S_127) H := hP1
  have hD : va_D A (oW cq S_127) := hD1.weaken (fun _ _ _ h => hFc _ h)
  clear hP1 hK1 hD1 hk1 hz1 hvm ht hFc
  refine W.widen (k := 29) (n := 659) (Nat.le_of_ble_eq_true rfl) (Nat.le_of_ble_eq_true rfl) ?_
  obtain ⟨hIS_127, XS_127, hx_128⟩ := w_125
  obtain ⟨hxS_127, hcS_127⟩ := hx_128
  have X_129 : oXc [5001] o Z S_127 := oXc.c X_123 XS_127 nzq_111 (by decide +kernel)
  have pk_130 : oP S_127 o 1 = some q_1 := by rw [oXc.p XS_127 (ty_ne (oX.ty XS_112 (oX.ty XS_98 t_96)) tq_111 (by decide +kernel)) (oX.ty XS_112 (oX.ty XS_98 t_96)) (by decide +kernel)]; exact pk_113
  have pk_131 : oP S_127 o 3 = some q_22 := by rw [oXc.p XS_127 (ty_ne (oX.ty XS_112 (oX.ty XS_98 t_96)) tq_111 (by decide +kernel)) (oX.ty XS_112 (oX.ty XS_98 t_96)) (by decide +kernel)]; exact pk_114
  have pk_132 : oP S_127 o 5 = some q_45 := by rw [oXc.p XS_127 (ty_ne (oX.ty XS_112 (oX.ty XS_98 t_96)) tq_111 (by decide +kernel)) (oX.ty XS_112 (oX.ty XS_98 t_96)) (by decide +kernel)]; exact pk_115
  have pk_133 : oP S_127 o 8 = some q_70 := by rw [oXc.p XS_127 (ty_ne (oX.ty XS_112 (oX.ty XS_98 t_96)) tq_111 (by decide +kernel)) (oX.ty XS_112 (oX.ty XS_98 t_96)) (by decide +kernel)]; exact pk_116
  have ik_134 : oI S_127 o 0 = 0 := by rw [oXc.i XS_127 (ty_ne (oX.ty XS_112 (oX.ty XS_98 t_96)) tq_111 (by decide +kernel)) (oX.ty XS_112 (oX.ty XS_98 t_96)) (by decide +kernel)]; exact ik_117
  have ik_135 : oI S_127 o 2 = 0 := by rw [oXc.i XS_127 (ty_ne (oX.ty XS_112 (oX.ty XS_98 t_96)) tq_111 (by decide +kernel)) (oX.ty XS_112 (oX.ty XS_98 t_96)) (by decide +kernel)]; exact ik_118
  have ik_136 : oI S_127 o 4 = 0 := by rw [oXc.i XS_127 (ty_ne (oX.ty XS_112 (oX.ty XS_98 t_96)) tq_111 (by decide +kernel)) (oX.ty XS_112 (oX.ty XS_98 t_96)) (by decide +kernel)]; exact ik_119
  have ik_137 : oI S_127 o 6 = 0 := by rw [oXc.i XS_127 (ty_ne (oX.ty XS_112 (oX.ty XS_98 t_96)) tq_111 (by decide +kernel)) (oX.ty XS_112 (oX.ty XS_98 t_96)) (by decide +kernel)]; exact ik_120
  have ik_138 : oI S_127 o 7 = 0 := by rw [oXc.i XS_127 (ty_ne (oX.ty XS_112 (oX.ty XS_98 t_96)) tq_111 (by decide +kernel)) (oX.ty XS_112 (oX.ty XS_98 t_96)) (by decide +kernel)]; exact ik_121
  have ik_139 : oI S_127 o 14 = 0 := by rw [oXc.i XS_127 (ty_ne (oX.ty XS_112 (oX.ty XS_98 t_96)) tq_111 (by decide +kernel)) (oX.ty XS_112 (oX.ty XS_98 t_96)) (by decide +kernel)]; exact ik_122
  have xm_140 : oX [2040, 5001] S_84 S_127 := oX.c xm_124 XS_127 (oX.nin xm_109 hnq_111) (by decide +kernel)
  have t_141 : oty S_127 o 40 := (oXc.ty XS_127 (ty_ne (oX.ty XS_112 (oX.ty XS_98 t_96)) tq_111 (by decide +kernel)) (oX.ty XS_112 (oX.ty XS_98 t_96)))
  obtain ⟨q_142, hq_142⟩ := og (cq := cq) t_141.1 (oE_40 t_141.2)
  refine va_putF (D := (dC, dI)) (ci := 10) (v := .ref q_111) (ty := .object "ShipOffice$Tape") (C := RX10) (T := TX10) (N := 16) hx hb hts in_wsX10_init_X10 tyX10 tyX10_ok nmX10 hown hK hP hD hS q_142 hq_142 rfl 9 (by decide +kernel) (hts (.fieldLink RX10 37 "ShipOffice" "tape" "LShipOffice$Tape;") iw_X10_init_20) (fun _ h9 => h9) rfl hin rfl (by decide +kernel) rfl rfl (Nat.le_of_ble_eq_true rfl) dX10_init_50 (fun H locs hP1 hD1 hS => ?_)
  obtain ⟨S_143, eS_143⟩ : ∃ zq, zq = setP S_127 o 9 (some q_111) := ⟨_, rfl⟩
  have hP : va_P (dC, dI) vwCl (oW cq S_143) H := by rw [eS_143]; exact cP (oset t_141.1 hq_142 hD rfl (he_40_9 t_141.2) neP) hP1
  have hD : va_D A (oW cq S_143) := by rw [eS_143]; exact cD (oset t_141.1 hq_142 hD rfl (he_40_9 t_141.2) neP) hD1
  clear hP1 hD1
  have hIS_143 : oInv S_143 := by rw [eS_143]; exact oInv.P (k := 40) hIS_127 t_141.2 (by decide +kernel) rfl (by decide +kernel) hxS_127 (by decide +kernel)
  have XS_143 : oX [2040] S_127 S_143 := by rw [eS_143]; exact oX.P (k := 40) (key := 2040) t_141.2 rfl (List.mem_singleton.mpr rfl)
  have pk_144 : oP S_143 o 1 = some q_1 := by rw [eS_143, setP_ne (by decide +kernel)]; exact pk_130
  have pk_145 : oP S_143 o 3 = some q_22 := by rw [eS_143, setP_ne (by decide +kernel)]; exact pk_131
  have pk_146 : oP S_143 o 5 = some q_45 := by rw [eS_143, setP_ne (by decide +kernel)]; exact pk_132
  have pk_147 : oP S_143 o 8 = some q_70 := by rw [eS_143, setP_ne (by decide +kernel)]; exact pk_133
  have ik_148 : oI S_143 o 0 = 0 := by rw [eS_143]; exact ik_134
  have ik_149 : oI S_143 o 2 = 0 := by rw [eS_143]; exact ik_135
  have ik_150 : oI S_143 o 4 = 0 := by rw [eS_143]; exact ik_136
  have ik_151 : oI S_143 o 6 = 0 := by rw [eS_143]; exact ik_137
  have ik_152 : oI S_143 o 7 = 0 := by rw [eS_143]; exact ik_138
  have ik_153 : oI S_143 o 14 = 0 := by rw [eS_143]; exact ik_139
  have ik_154 : oI S_143 q_111 1 = 0 := by rw [eS_143]; exact hcS_127
  have X_155 : oXc [5001] o Z S_143 := by rw [eS_143]; exact oXc.P X_129
  have xm_156 : oX [2040, 5001] S_84 S_143 := oX.st xm_140 XS_143 (by decide +kernel)
  have pk_157 : oP S_143 o 9 = some q_111 := by rw [eS_143, setP_same]
  refine lv_aload_n hx hb dX10_init_53 rfl (lv_at hl 0 rfl) ?_
  refine va_new (ci := 7) (fs := [.null, .null]) (C := RX7) (T := TX7) (N := 2) hx hb hts in_wsX10_init_X7 tyX7 tyX7_ok hown (hts (.classLink RX10 41 RX7) iw_X10_init_21) (hts (.instantiable RX7 2) iw_X10_init_22) (hts (.initialized RX7) iw_X10_init_23) hK hP hD hS hA rfl (fun j hj => by rcases (show j = 0 ∨ j = 1 by omega) with rfl | rfl <;> rfl) (Nat.le_of_ble_eq_true rfl) (Nat.le_of_ble_eq_true rfl) dX10_init_54 (fun q_158 H hP1 hD1 hS => ?_)
  have hnq_158 := add_q hD1
  obtain ⟨S_159, eS_159⟩ : ∃ zq, zq = addO S_143 q_158 37 := ⟨_, rfl⟩
  have hP : va_P (dC, dI) vwCl (oW cq S_159) H := by rw [eS_159]; exact cP (onew hD1 (by rw [oE_37 add_K, add_P]; rfl)) hP1
  have hD : va_D A (oW cq S_159) := by rw [eS_159]; exact cD (onew hD1 (by rw [oE_37 add_K, add_P]; rfl)) hD1
  clear hP1 hD1
  have hIS_159 : oInv S_159 := by rw [eS_159]; exact oInv.add hIS_143 hnq_158 (by decide +kernel)
  have XS_159 : oX [] S_143 S_159 := by rw [eS_159]; exact oX.add hnq_158
  have nzq_158 : q_158 ∉ oL Z := oXc.nin X_155 hnq_158
  have pk_160 : oP S_159 o 1 = some q_1 := by rw [eS_159, add_Pn hnq_158 (oX.ty XS_143 t_141).1]; exact pk_144
  have pk_161 : oP S_159 o 3 = some q_22 := by rw [eS_159, add_Pn hnq_158 (oX.ty XS_143 t_141).1]; exact pk_145
  have pk_162 : oP S_159 o 5 = some q_45 := by rw [eS_159, add_Pn hnq_158 (oX.ty XS_143 t_141).1]; exact pk_146
  have pk_163 : oP S_159 o 8 = some q_70 := by rw [eS_159, add_Pn hnq_158 (oX.ty XS_143 t_141).1]; exact pk_147
  have pk_164 : oP S_159 o 9 = some q_111 := by rw [eS_159, add_Pn hnq_158 (oX.ty XS_143 t_141).1]; exact pk_157
  have ik_165 : oI S_159 o 0 = 0 := by rw [eS_159, add_In hnq_158 (oX.ty XS_143 t_141).1]; exact ik_148
  have ik_166 : oI S_159 o 2 = 0 := by rw [eS_159, add_In hnq_158 (oX.ty XS_143 t_141).1]; exact ik_149
  have ik_167 : oI S_159 o 4 = 0 := by rw [eS_159, add_In hnq_158 (oX.ty XS_143 t_141).1]; exact ik_150
  have ik_168 : oI S_159 o 6 = 0 := by rw [eS_159, add_In hnq_158 (oX.ty XS_143 t_141).1]; exact ik_151
  have ik_169 : oI S_159 o 7 = 0 := by rw [eS_159, add_In hnq_158 (oX.ty XS_143 t_141).1]; exact ik_152
  have ik_170 : oI S_159 o 14 = 0 := by rw [eS_159, add_In hnq_158 (oX.ty XS_143 t_141).1]; exact ik_153
  have ik_171 : oI S_159 q_111 1 = 0 := by rw [eS_159, add_In hnq_158 (oX.ty XS_143 hxS_127).1]; exact ik_154
  have X_172 : oXc [5001] o Z S_159 := oXc.st X_155 XS_159 (by decide +kernel)
  have xm_173 : oX [2040, 5001] S_84 S_159 := oX.st xm_156 XS_159 (by decide +kernel)
  have tq_158 : oty S_159 q_158 37 := by rw [eS_159]; exact add_ty
  refine W.widen (k := 30) (n := 661) (Nat.le_of_ble_eq_true rfl) (Nat.le_of_ble_eq_true rfl) ?_
  refine lv_dup hx hb dX10_init_57 rfl ?_
  have hFc := o_free hD hS hA
  refine va_callv (va_runI (As := []) (rest := [.ref q_158, .ref o]) ⟨hx, hb, hml, hown, hts⟩ (c_X7_init l dC dI H.size cq S_159 hIS_159 q_158 tq_158) (cwI 0 hts gX10_init_X7_init rfl rfl rfl (hts (.initialized RX7) iw_X10_init_23) (hts (.methodLink RX10 43 yX7_init) iw_X10_init_24) (hts (.instanceMethod yX7_init) iw_X10_init_25) rfl (by decide +kernel) ⟨(Nat.le_of_ble_eq_true rfl), (Nat.le_of_ble_eq_true rfl)⟩) (pr_S hP hK hD) rfl rfl hl.1 rfl (lv_room (Nat.le_of_ble_eq_true rfl)) dX10_init_58 ⟨(Nat.le_of_ble_eq_true rfl), (Nat.le_of_ble_eq_true rfl)⟩) hS (fun q _ h => hFc q h) hFc (fun u t H locs ht hvm w_174 hB hz1 hk1 hS => ?_)
  obtain ⟨S_176, rfl⟩ : ∃ z, z = u := ⟨_, rfl⟩
  obtain ⟨hP1, hK1, hD1⟩ := hB
  rw [ht] at hP1
  have hP : va_P (dC, dI) vwCl (oW cq S_176) H := hP1
  have hD : va_D A (oW cq S_176) := hD1.weaken (fun _ _ _ h => hFc _ h)
  clear hP1 hK1 hD1 hk1 hz1 hvm ht hFc
  refine W.widen (k := 32) (n := 771) (Nat.le_of_ble_eq_true rfl) (Nat.le_of_ble_eq_true rfl) ?_
  obtain ⟨hIS_176, XS_176, hx_177⟩ := w_174
  obtain ⟨hxS_176, hcS_176⟩ := hx_177
  have X_178 : oXc [5001] o Z S_176 := oXc.c X_172 XS_176 nzq_158 (by decide +kernel)
  have pk_179 : oP S_176 o 1 = some q_1 := by rw [oXc.p XS_176 (ty_ne (oX.ty XS_159 (oX.ty XS_143 t_141)) tq_158 (by decide +kernel)) (oX.ty XS_159 (oX.ty XS_143 t_141)) (by decide +kernel)]; exact pk_160
  have pk_180 : oP S_176 o 3 = some q_22 := by rw [oXc.p XS_176 (ty_ne (oX.ty XS_159 (oX.ty XS_143 t_141)) tq_158 (by decide +kernel)) (oX.ty XS_159 (oX.ty XS_143 t_141)) (by decide +kernel)]; exact pk_161
  have pk_181 : oP S_176 o 5 = some q_45 := by rw [oXc.p XS_176 (ty_ne (oX.ty XS_159 (oX.ty XS_143 t_141)) tq_158 (by decide +kernel)) (oX.ty XS_159 (oX.ty XS_143 t_141)) (by decide +kernel)]; exact pk_162
  have pk_182 : oP S_176 o 8 = some q_70 := by rw [oXc.p XS_176 (ty_ne (oX.ty XS_159 (oX.ty XS_143 t_141)) tq_158 (by decide +kernel)) (oX.ty XS_159 (oX.ty XS_143 t_141)) (by decide +kernel)]; exact pk_163
  have pk_183 : oP S_176 o 9 = some q_111 := by rw [oXc.p XS_176 (ty_ne (oX.ty XS_159 (oX.ty XS_143 t_141)) tq_158 (by decide +kernel)) (oX.ty XS_159 (oX.ty XS_143 t_141)) (by decide +kernel)]; exact pk_164
  have ik_184 : oI S_176 o 0 = 0 := by rw [oXc.i XS_176 (ty_ne (oX.ty XS_159 (oX.ty XS_143 t_141)) tq_158 (by decide +kernel)) (oX.ty XS_159 (oX.ty XS_143 t_141)) (by decide +kernel)]; exact ik_165
  have ik_185 : oI S_176 o 2 = 0 := by rw [oXc.i XS_176 (ty_ne (oX.ty XS_159 (oX.ty XS_143 t_141)) tq_158 (by decide +kernel)) (oX.ty XS_159 (oX.ty XS_143 t_141)) (by decide +kernel)]; exact ik_166
  have ik_186 : oI S_176 o 4 = 0 := by rw [oXc.i XS_176 (ty_ne (oX.ty XS_159 (oX.ty XS_143 t_141)) tq_158 (by decide +kernel)) (oX.ty XS_159 (oX.ty XS_143 t_141)) (by decide +kernel)]; exact ik_167
  have ik_187 : oI S_176 o 6 = 0 := by rw [oXc.i XS_176 (ty_ne (oX.ty XS_159 (oX.ty XS_143 t_141)) tq_158 (by decide +kernel)) (oX.ty XS_159 (oX.ty XS_143 t_141)) (by decide +kernel)]; exact ik_168
  have ik_188 : oI S_176 o 7 = 0 := by rw [oXc.i XS_176 (ty_ne (oX.ty XS_159 (oX.ty XS_143 t_141)) tq_158 (by decide +kernel)) (oX.ty XS_159 (oX.ty XS_143 t_141)) (by decide +kernel)]; exact ik_169
  have ik_189 : oI S_176 o 14 = 0 := by rw [oXc.i XS_176 (ty_ne (oX.ty XS_159 (oX.ty XS_143 t_141)) tq_158 (by decide +kernel)) (oX.ty XS_159 (oX.ty XS_143 t_141)) (by decide +kernel)]; exact ik_170
  have ik_190 : oI S_176 q_111 1 = 0 := by rw [oXc.i XS_176 (ty_ne (oX.ty XS_159 (oX.ty XS_143 hxS_127)) tq_158 (by decide +kernel)) (oX.ty XS_159 (oX.ty XS_143 hxS_127)) (by decide +kernel)]; exact ik_171
  obtain ⟨b_191, hb_191⟩ := oInv.nn (i := 0) hIS_176 hxS_176 rfl
  have tb_191 : oty S_176 b_191 200 := oInv.rd hIS_176 hxS_176.2 hb_191 rfl rfl
  have zf_192 : oI S_176 b_191 = fun _ => 0 := hcS_176 b_191 hb_191
  have xm_193 : oX [2040, 5001] S_84 S_176 := oX.c xm_173 XS_176 (oX.nin xm_156 hnq_158) (by decide +kernel)
  have t_194 : oty S_176 o 40 := (oXc.ty XS_176 (ty_ne (oX.ty XS_159 (oX.ty XS_143 t_141)) tq_158 (by decide +kernel)) (oX.ty XS_159 (oX.ty XS_143 t_141)))
  obtain ⟨q_195, hq_195⟩ := og (cq := cq) t_194.1 (oE_40 t_194.2)
  refine va_putF (D := (dC, dI)) (ci := 10) (v := .ref q_158) (ty := .object "ShipOffice$Sea") (C := RX10) (T := TX10) (N := 16) hx hb hts in_wsX10_init_X10 tyX10 tyX10_ok nmX10 hown hK hP hD hS q_195 hq_195 rfl 10 (by decide +kernel) (hts (.fieldLink RX10 44 "ShipOffice" "sea" "LShipOffice$Sea;") iw_X10_init_26) (fun _ h9 => h9) rfl hin rfl (by decide +kernel) rfl rfl (Nat.le_of_ble_eq_true rfl) dX10_init_61 (fun H locs hP1 hD1 hS => ?_)
  obtain ⟨S_196, eS_196⟩ : ∃ zq, zq = setP S_176 o 10 (some q_158) := ⟨_, rfl⟩
  have hP : va_P (dC, dI) vwCl (oW cq S_196) H := by rw [eS_196]; exact cP (oset t_194.1 hq_195 hD rfl (he_40_10 t_194.2) neP) hP1
  have hD : va_D A (oW cq S_196) := by rw [eS_196]; exact cD (oset t_194.1 hq_195 hD rfl (he_40_10 t_194.2) neP) hD1
  clear hP1 hD1
  have hIS_196 : oInv S_196 := by rw [eS_196]; exact oInv.P (k := 40) hIS_176 t_194.2 (by decide +kernel) rfl (by decide +kernel) hxS_176 (by decide +kernel)
  have XS_196 : oX [2040] S_176 S_196 := by rw [eS_196]; exact oX.P (k := 40) (key := 2040) t_194.2 rfl (List.mem_singleton.mpr rfl)
  have pk_197 : oP S_196 o 1 = some q_1 := by rw [eS_196, setP_ne (by decide +kernel)]; exact pk_179
  have pk_198 : oP S_196 o 3 = some q_22 := by rw [eS_196, setP_ne (by decide +kernel)]; exact pk_180
  have pk_199 : oP S_196 o 5 = some q_45 := by rw [eS_196, setP_ne (by decide +kernel)]; exact pk_181
  have pk_200 : oP S_196 o 8 = some q_70 := by rw [eS_196, setP_ne (by decide +kernel)]; exact pk_182
  have pk_201 : oP S_196 o 9 = some q_111 := by rw [eS_196, setP_ne (by decide +kernel)]; exact pk_183
  have pk_202 : oP S_196 q_158 0 = some b_191 := by rw [eS_196, setP_oth (ty_ne hxS_176 t_194 (by decide +kernel))]; exact hb_191
  have ik_203 : oI S_196 o 0 = 0 := by rw [eS_196]; exact ik_184
  have ik_204 : oI S_196 o 2 = 0 := by rw [eS_196]; exact ik_185
  have ik_205 : oI S_196 o 4 = 0 := by rw [eS_196]; exact ik_186
  have ik_206 : oI S_196 o 6 = 0 := by rw [eS_196]; exact ik_187
  have ik_207 : oI S_196 o 7 = 0 := by rw [eS_196]; exact ik_188
  have ik_208 : oI S_196 o 14 = 0 := by rw [eS_196]; exact ik_189
  have ik_209 : oI S_196 q_111 1 = 0 := by rw [eS_196]; exact ik_190
  have zf_210 : oI S_196 b_191 = fun _ => 0 := by rw [eS_196]; exact zf_192
  have X_211 : oXc [5001] o Z S_196 := by rw [eS_196]; exact oXc.P X_178
  have xm_212 : oX [2040, 5001] S_84 S_196 := oX.st xm_193 XS_196 (by decide +kernel)
  have pk_213 : oP S_196 o 10 = some q_158 := by rw [eS_196, setP_same]
  refine lv_aload_n hx hb dX10_init_64 rfl (lv_at hl 0 rfl) ?_
  refine va_new (ci := 4) (fs := [.null, .null, .int 0, .null, .int 0, .int 0]) (C := RX4) (T := TX4) (N := 6) hx hb hts in_wsX10_init_X4 tyX4 tyX4_ok hown (hts (.classLink RX10 48 RX4) iw_X10_init_27) (hts (.instantiable RX4 6) iw_X10_init_28) (hts (.initialized RX4) iw_X10_init_29) hK hP hD hS hA rfl (fun j hj => by rcases (show j = 0 ∨ j = 1 ∨ j = 2 ∨ j = 3 ∨ j = 4 ∨ j = 5 by omega) with rfl | rfl | rfl | rfl | rfl | rfl <;> rfl) (Nat.le_of_ble_eq_true rfl) (Nat.le_of_ble_eq_true rfl) dX10_init_65 (fun q_214 H hP1 hD1 hS => ?_)
  have hnq_214 := add_q hD1
  obtain ⟨S_215, eS_215⟩ : ∃ zq, zq = addO S_196 q_214 34 := ⟨_, rfl⟩
  have hP : va_P (dC, dI) vwCl (oW cq S_215) H := by rw [eS_215]; exact cP (onew hD1 (by rw [oE_34 add_K, add_I, add_P]; rfl)) hP1
  have hD : va_D A (oW cq S_215) := by rw [eS_215]; exact cD (onew hD1 (by rw [oE_34 add_K, add_I, add_P]; rfl)) hD1
  clear hP1 hD1
  have hIS_215 : oInv S_215 := by rw [eS_215]; exact oInv.add hIS_196 hnq_214 (by decide +kernel)
  have XS_215 : oX [] S_196 S_215 := by rw [eS_215]; exact oX.add hnq_214
  have nzq_214 : q_214 ∉ oL Z := oXc.nin X_211 hnq_214
  have pk_216 : oP S_215 o 1 = some q_1 := by rw [eS_215, add_Pn hnq_214 (oX.ty XS_196 t_194).1]; exact pk_197
  have pk_217 : oP S_215 o 3 = some q_22 := by rw [eS_215, add_Pn hnq_214 (oX.ty XS_196 t_194).1]; exact pk_198
  have pk_218 : oP S_215 o 5 = some q_45 := by rw [eS_215, add_Pn hnq_214 (oX.ty XS_196 t_194).1]; exact pk_199
  have pk_219 : oP S_215 o 8 = some q_70 := by rw [eS_215, add_Pn hnq_214 (oX.ty XS_196 t_194).1]; exact pk_200
  have pk_220 : oP S_215 o 9 = some q_111 := by rw [eS_215, add_Pn hnq_214 (oX.ty XS_196 t_194).1]; exact pk_201
  have pk_221 : oP S_215 q_158 0 = some b_191 := by rw [eS_215, add_Pn hnq_214 (oX.ty XS_196 hxS_176).1]; exact pk_202
  have pk_222 : oP S_215 o 10 = some q_158 := by rw [eS_215, add_Pn hnq_214 (oX.ty XS_196 t_194).1]; exact pk_213
  have ik_223 : oI S_215 o 0 = 0 := by rw [eS_215, add_In hnq_214 (oX.ty XS_196 t_194).1]; exact ik_203
  have ik_224 : oI S_215 o 2 = 0 := by rw [eS_215, add_In hnq_214 (oX.ty XS_196 t_194).1]; exact ik_204
  have ik_225 : oI S_215 o 4 = 0 := by rw [eS_215, add_In hnq_214 (oX.ty XS_196 t_194).1]; exact ik_205
  have ik_226 : oI S_215 o 6 = 0 := by rw [eS_215, add_In hnq_214 (oX.ty XS_196 t_194).1]; exact ik_206
  have ik_227 : oI S_215 o 7 = 0 := by rw [eS_215, add_In hnq_214 (oX.ty XS_196 t_194).1]; exact ik_207
  have ik_228 : oI S_215 o 14 = 0 := by rw [eS_215, add_In hnq_214 (oX.ty XS_196 t_194).1]; exact ik_208
  have ik_229 : oI S_215 q_111 1 = 0 := by rw [eS_215, add_In hnq_214 (oX.ty XS_196 (oXc.ty XS_176 (ty_ne (oX.ty XS_159 (oX.ty XS_143 hxS_127)) tq_158 (by decide +kernel)) (oX.ty XS_159 (oX.ty XS_143 hxS_127)))).1]; exact ik_209
  have zf_230 : oI S_215 b_191 = fun _ => 0 := by rw [eS_215, add_If hnq_214 (oX.ty XS_196 tb_191).1]; exact zf_210
  have X_231 : oXc [5001] o Z S_215 := oXc.st X_211 XS_215 (by decide +kernel)
  have xm_232 : oX [2040, 5001] S_84 S_215 := oX.st xm_212 XS_215 (by decide +kernel)
  have tq_214 : oty S_215 q_214 34 := by rw [eS_215]; exact add_ty
  refine W.widen (k := 33) (n := 777) (Nat.le_of_ble_eq_true rfl) (Nat.le_of_ble_eq_true rfl) ?_
  refine lv_dup hx hb dX10_init_68 rfl ?_
  have hFc := o_free hD hS hA
  refine va_callv (va_runI (As := []) (rest := [.ref q_214, .ref o]) ⟨hx, hb, hml, hown, hts⟩ (c_X4_init l dC dI H.size cq S_215 hIS_215 q_214 tq_214) (cwI 0 hts gX10_init_X4_init rfl rfl rfl (hts (.initialized RX4) iw_X10_init_29) (hts (.methodLink RX10 50 yX4_init) iw_X10_init_30) (hts (.instanceMethod yX4_init) iw_X10_init_31) rfl (by decide +kernel) ⟨(Nat.le_of_ble_eq_true rfl), (Nat.le_of_ble_eq_true rfl)⟩) (pr_S hP hK hD) rfl rfl hl.1 rfl (lv_room (Nat.le_of_ble_eq_true rfl)) dX10_init_69 ⟨(Nat.le_of_ble_eq_true rfl), (Nat.le_of_ble_eq_true rfl)⟩) hS (fun q _ h => hFc q h) hFc (fun u t H locs ht hvm w_233 hB hz1 hk1 hS => ?_)
  obtain ⟨S_235, rfl⟩ : ∃ z, z = u := ⟨_, rfl⟩
  obtain ⟨hP1, hK1, hD1⟩ := hB
  rw [ht] at hP1
  have hP : va_P (dC, dI) vwCl (oW cq S_235) H := hP1
  have hD : va_D A (oW cq S_235) := hD1.weaken (fun _ _ _ h => hFc _ h)
  clear hP1 hK1 hD1 hk1 hz1 hvm ht hFc
  refine W.widen (k := 36) (n := 874) (Nat.le_of_ble_eq_true rfl) (Nat.le_of_ble_eq_true rfl) ?_
  obtain ⟨hIS_235, XS_235, hx_236⟩ := w_233
  have hxS_235 := hx_236
  have X_237 : oXc [5001] o Z S_235 := oXc.c X_231 XS_235 nzq_214 (by decide +kernel)
  have pk_238 : oP S_235 o 1 = some q_1 := by rw [oXc.p XS_235 (ty_ne (oX.ty XS_215 (oX.ty XS_196 t_194)) tq_214 (by decide +kernel)) (oX.ty XS_215 (oX.ty XS_196 t_194)) (by decide +kernel)]; exact pk_216
  have pk_239 : oP S_235 o 3 = some q_22 := by rw [oXc.p XS_235 (ty_ne (oX.ty XS_215 (oX.ty XS_196 t_194)) tq_214 (by decide +kernel)) (oX.ty XS_215 (oX.ty XS_196 t_194)) (by decide +kernel)]; exact pk_217
  have pk_240 : oP S_235 o 5 = some q_45 := by rw [oXc.p XS_235 (ty_ne (oX.ty XS_215 (oX.ty XS_196 t_194)) tq_214 (by decide +kernel)) (oX.ty XS_215 (oX.ty XS_196 t_194)) (by decide +kernel)]; exact pk_218
  have pk_241 : oP S_235 o 8 = some q_70 := by rw [oXc.p XS_235 (ty_ne (oX.ty XS_215 (oX.ty XS_196 t_194)) tq_214 (by decide +kernel)) (oX.ty XS_215 (oX.ty XS_196 t_194)) (by decide +kernel)]; exact pk_219
  have pk_242 : oP S_235 o 9 = some q_111 := by rw [oXc.p XS_235 (ty_ne (oX.ty XS_215 (oX.ty XS_196 t_194)) tq_214 (by decide +kernel)) (oX.ty XS_215 (oX.ty XS_196 t_194)) (by decide +kernel)]; exact pk_220
  have pk_243 : oP S_235 q_158 0 = some b_191 := by rw [oXc.p XS_235 (ty_ne (oX.ty XS_215 (oX.ty XS_196 hxS_176)) tq_214 (by decide +kernel)) (oX.ty XS_215 (oX.ty XS_196 hxS_176)) (by decide +kernel)]; exact pk_221
  have pk_244 : oP S_235 o 10 = some q_158 := by rw [oXc.p XS_235 (ty_ne (oX.ty XS_215 (oX.ty XS_196 t_194)) tq_214 (by decide +kernel)) (oX.ty XS_215 (oX.ty XS_196 t_194)) (by decide +kernel)]; exact pk_222
  have ik_245 : oI S_235 o 0 = 0 := by rw [oXc.i XS_235 (ty_ne (oX.ty XS_215 (oX.ty XS_196 t_194)) tq_214 (by decide +kernel)) (oX.ty XS_215 (oX.ty XS_196 t_194)) (by decide +kernel)]; exact ik_223
  have ik_246 : oI S_235 o 2 = 0 := by rw [oXc.i XS_235 (ty_ne (oX.ty XS_215 (oX.ty XS_196 t_194)) tq_214 (by decide +kernel)) (oX.ty XS_215 (oX.ty XS_196 t_194)) (by decide +kernel)]; exact ik_224
  have ik_247 : oI S_235 o 4 = 0 := by rw [oXc.i XS_235 (ty_ne (oX.ty XS_215 (oX.ty XS_196 t_194)) tq_214 (by decide +kernel)) (oX.ty XS_215 (oX.ty XS_196 t_194)) (by decide +kernel)]; exact ik_225
  have ik_248 : oI S_235 o 6 = 0 := by rw [oXc.i XS_235 (ty_ne (oX.ty XS_215 (oX.ty XS_196 t_194)) tq_214 (by decide +kernel)) (oX.ty XS_215 (oX.ty XS_196 t_194)) (by decide +kernel)]; exact ik_226
  have ik_249 : oI S_235 o 7 = 0 := by rw [oXc.i XS_235 (ty_ne (oX.ty XS_215 (oX.ty XS_196 t_194)) tq_214 (by decide +kernel)) (oX.ty XS_215 (oX.ty XS_196 t_194)) (by decide +kernel)]; exact ik_227
  have ik_250 : oI S_235 o 14 = 0 := by rw [oXc.i XS_235 (ty_ne (oX.ty XS_215 (oX.ty XS_196 t_194)) tq_214 (by decide +kernel)) (oX.ty XS_215 (oX.ty XS_196 t_194)) (by decide +kernel)]; exact ik_228
  have ik_251 : oI S_235 q_111 1 = 0 := by rw [oXc.i XS_235 (ty_ne (oX.ty XS_215 (oX.ty XS_196 (oXc.ty XS_176 (ty_ne (oX.ty XS_159 (oX.ty XS_143 hxS_127)) tq_158 (by decide +kernel)) (oX.ty XS_159 (oX.ty XS_143 hxS_127))))) tq_214 (by decide +kernel)) (oX.ty XS_215 (oX.ty XS_196 (oXc.ty XS_176 (ty_ne (oX.ty XS_159 (oX.ty XS_143 hxS_127)) tq_158 (by decide +kernel)) (oX.ty XS_159 (oX.ty XS_143 hxS_127))))) (by decide +kernel)]; exact ik_229
  have zf_252 : oI S_235 b_191 = fun _ => 0 := by rw [oXc.f XS_235 (ty_ne (oX.ty XS_215 (oX.ty XS_196 tb_191)) tq_214 (by decide +kernel)) (oX.ty XS_215 (oX.ty XS_196 tb_191)) (fun _ => nkw (by decide +kernel) (by decide +kernel) (by decide +kernel))]; exact zf_230
  have xm_253 : oX [2040, 5001] S_84 S_235 := oX.c xm_232 XS_235 (oX.nin xm_212 hnq_214) (by decide +kernel)
  have t_254 : oty S_235 o 40 := (oXc.ty XS_235 (ty_ne (oX.ty XS_215 (oX.ty XS_196 t_194)) tq_214 (by decide +kernel)) (oX.ty XS_215 (oX.ty XS_196 t_194)))
  obtain ⟨q_255, hq_255⟩ := og (cq := cq) t_254.1 (oE_40 t_254.2)
  refine va_putF (D := (dC, dI)) (ci := 10) (v := .ref q_214) (ty := .object "ShipOffice$Hiring") (C := RX10) (T := TX10) (N := 16) hx hb hts in_wsX10_init_X10 tyX10 tyX10_ok nmX10 hown hK hP hD hS q_255 hq_255 rfl 11 (by decide +kernel) (hts (.fieldLink RX10 51 "ShipOffice" "hiring" "LShipOffice$Hiring;") iw_X10_init_32) (fun _ h9 => h9) rfl hin rfl (by decide +kernel) rfl rfl (Nat.le_of_ble_eq_true rfl) dX10_init_72 (fun H locs hP1 hD1 hS => ?_)
  obtain ⟨S_256, eS_256⟩ : ∃ zq, zq = setP S_235 o 11 (some q_214) := ⟨_, rfl⟩
  have hP : va_P (dC, dI) vwCl (oW cq S_256) H := by rw [eS_256]; exact cP (oset t_254.1 hq_255 hD rfl (he_40_11 t_254.2) neP) hP1
  have hD : va_D A (oW cq S_256) := by rw [eS_256]; exact cD (oset t_254.1 hq_255 hD rfl (he_40_11 t_254.2) neP) hD1
  clear hP1 hD1
  have hIS_256 : oInv S_256 := by rw [eS_256]; exact oInv.P (k := 40) hIS_235 t_254.2 (by decide +kernel) rfl (by decide +kernel) hxS_235 (by decide +kernel)
  have XS_256 : oX [2040] S_235 S_256 := by rw [eS_256]; exact oX.P (k := 40) (key := 2040) t_254.2 rfl (List.mem_singleton.mpr rfl)
  have pk_257 : oP S_256 o 1 = some q_1 := by rw [eS_256, setP_ne (by decide +kernel)]; exact pk_238
  have pk_258 : oP S_256 o 3 = some q_22 := by rw [eS_256, setP_ne (by decide +kernel)]; exact pk_239
  have pk_259 : oP S_256 o 5 = some q_45 := by rw [eS_256, setP_ne (by decide +kernel)]; exact pk_240
  have pk_260 : oP S_256 o 8 = some q_70 := by rw [eS_256, setP_ne (by decide +kernel)]; exact pk_241
  have pk_261 : oP S_256 o 9 = some q_111 := by rw [eS_256, setP_ne (by decide +kernel)]; exact pk_242
  have pk_262 : oP S_256 q_158 0 = some b_191 := by rw [eS_256, setP_oth (ty_ne (oXc.ty XS_235 (ty_ne (oX.ty XS_215 (oX.ty XS_196 hxS_176)) tq_214 (by decide +kernel)) (oX.ty XS_215 (oX.ty XS_196 hxS_176))) t_254 (by decide +kernel))]; exact pk_243
  have pk_263 : oP S_256 o 10 = some q_158 := by rw [eS_256, setP_ne (by decide +kernel)]; exact pk_244
  have ik_264 : oI S_256 o 0 = 0 := by rw [eS_256]; exact ik_245
  have ik_265 : oI S_256 o 2 = 0 := by rw [eS_256]; exact ik_246
  have ik_266 : oI S_256 o 4 = 0 := by rw [eS_256]; exact ik_247
  have ik_267 : oI S_256 o 6 = 0 := by rw [eS_256]; exact ik_248
  have ik_268 : oI S_256 o 7 = 0 := by rw [eS_256]; exact ik_249
  have ik_269 : oI S_256 o 14 = 0 := by rw [eS_256]; exact ik_250
  have ik_270 : oI S_256 q_111 1 = 0 := by rw [eS_256]; exact ik_251
  have zf_271 : oI S_256 b_191 = fun _ => 0 := by rw [eS_256]; exact zf_252
  have X_272 : oXc [5001] o Z S_256 := by rw [eS_256]; exact oXc.P X_237
  have xm_273 : oX [2040, 5001] S_84 S_256 := oX.st xm_253 XS_256 (by decide +kernel)
  have pk_274 : oP S_256 o 11 = some q_214 := by rw [eS_256, setP_same]
  refine lv_aload_n hx hb dX10_init_75 rfl (lv_at hl 0 rfl) ?_
  refine va_gets hx hb hZ.1.1 hS hown (hts (.fieldLink RX10 55 "ShipOffice" "LETTERS" "[C") iw_X10_init_33) (fun _ h9 => h9) dX10_init_76 ?_
  refine va_tlen (v := 8) hx hb hZ.1.2.1 hS rfl dX10_init_79 ?_
  refine va_newa (atype := .int) (ty := .int) (a0 := (8, .inl (fun _ => 0))) hx hb (hts (.arrayClass .int) iw_X10_init_34) rfl hK hP hD hS hA (fun _ => rfl) (by decide +kernel) (by decide +kernel) (by decide +kernel) (Nat.le_of_ble_eq_true rfl) (Nat.le_of_ble_eq_true rfl) dX10_init_80 (fun q_275 k_276 H hK1 hP1 hD1 hS => ?_)
  obtain ⟨rfl, -⟩ := lv_ad (k := 0) hK1 rfl
  clear hK1
  have hnq_275 := add_q hD1
  obtain ⟨S_277, eS_277⟩ : ∃ zq, zq = addO S_256 q_275 108 := ⟨_, rfl⟩
  have hP : va_P (dC, dI) vwCl (oW cq S_277) H := by rw [eS_277]; exact cP (onew hD1 (by rw [oE_a1 (n := 8) add_K (by decide +kernel), add_I])) hP1
  have hD : va_D A (oW cq S_277) := by rw [eS_277]; exact cD (onew hD1 (by rw [oE_a1 (n := 8) add_K (by decide +kernel), add_I])) hD1
  clear hP1 hD1
  have hIS_277 : oInv S_277 := by rw [eS_277]; exact oInv.add hIS_256 hnq_275 (by decide +kernel)
  have XS_277 : oX [] S_256 S_277 := by rw [eS_277]; exact oX.add hnq_275
  have nzq_275 : q_275 ∉ oL Z := oXc.nin X_272 hnq_275
  have pk_278 : oP S_277 o 1 = some q_1 := by rw [eS_277, add_Pn hnq_275 (oX.ty XS_256 t_254).1]; exact pk_257
  have pk_279 : oP S_277 o 3 = some q_22 := by rw [eS_277, add_Pn hnq_275 (oX.ty XS_256 t_254).1]; exact pk_258
  have pk_280 : oP S_277 o 5 = some q_45 := by rw [eS_277, add_Pn hnq_275 (oX.ty XS_256 t_254).1]; exact pk_259
  have pk_281 : oP S_277 o 8 = some q_70 := by rw [eS_277, add_Pn hnq_275 (oX.ty XS_256 t_254).1]; exact pk_260
  have pk_282 : oP S_277 o 9 = some q_111 := by rw [eS_277, add_Pn hnq_275 (oX.ty XS_256 t_254).1]; exact pk_261
  have pk_283 : oP S_277 q_158 0 = some b_191 := by rw [eS_277, add_Pn hnq_275 (oX.ty XS_256 (oXc.ty XS_235 (ty_ne (oX.ty XS_215 (oX.ty XS_196 hxS_176)) tq_214 (by decide +kernel)) (oX.ty XS_215 (oX.ty XS_196 hxS_176)))).1]; exact pk_262
  have pk_284 : oP S_277 o 10 = some q_158 := by rw [eS_277, add_Pn hnq_275 (oX.ty XS_256 t_254).1]; exact pk_263
  have pk_285 : oP S_277 o 11 = some q_214 := by rw [eS_277, add_Pn hnq_275 (oX.ty XS_256 t_254).1]; exact pk_274
  have ik_286 : oI S_277 o 0 = 0 := by rw [eS_277, add_In hnq_275 (oX.ty XS_256 t_254).1]; exact ik_264
  have ik_287 : oI S_277 o 2 = 0 := by rw [eS_277, add_In hnq_275 (oX.ty XS_256 t_254).1]; exact ik_265
  have ik_288 : oI S_277 o 4 = 0 := by rw [eS_277, add_In hnq_275 (oX.ty XS_256 t_254).1]; exact ik_266
  have ik_289 : oI S_277 o 6 = 0 := by rw [eS_277, add_In hnq_275 (oX.ty XS_256 t_254).1]; exact ik_267
  have ik_290 : oI S_277 o 7 = 0 := by rw [eS_277, add_In hnq_275 (oX.ty XS_256 t_254).1]; exact ik_268
  have ik_291 : oI S_277 o 14 = 0 := by rw [eS_277, add_In hnq_275 (oX.ty XS_256 t_254).1]; exact ik_269
  have ik_292 : oI S_277 q_111 1 = 0 := by rw [eS_277, add_In hnq_275 (oX.ty XS_256 (oXc.ty XS_235 (ty_ne (oX.ty XS_215 (oX.ty XS_196 (oXc.ty XS_176 (ty_ne (oX.ty XS_159 (oX.ty XS_143 hxS_127)) tq_158 (by decide +kernel)) (oX.ty XS_159 (oX.ty XS_143 hxS_127))))) tq_214 (by decide +kernel)) (oX.ty XS_215 (oX.ty XS_196 (oXc.ty XS_176 (ty_ne (oX.ty XS_159 (oX.ty XS_143 hxS_127)) tq_158 (by decide +kernel)) (oX.ty XS_159 (oX.ty XS_143 hxS_127))))))).1]; exact ik_270
  have zf_293 : oI S_277 b_191 = fun _ => 0 := by rw [eS_277, add_If hnq_275 (oX.ty XS_256 (oXc.ty XS_235 (ty_ne (oX.ty XS_215 (oX.ty XS_196 tb_191)) tq_214 (by decide +kernel)) (oX.ty XS_215 (oX.ty XS_196 tb_191)))).1]; exact zf_271
  have X_294 : oXc [5001] o Z S_277 := oXc.st X_272 XS_277 (by decide +kernel)
  have xm_295 : oX [2040, 5001] S_84 S_277 := oX.st xm_273 XS_277 (by decide +kernel)
  have tq_275 : oty S_277 q_275 108 := by rw [eS_277]; exact add_ty
  refine W.widen (k := 37) (n := 882) (Nat.le_of_ble_eq_true rfl) (Nat.le_of_ble_eq_true rfl) ?_
  have t_296 : oty S_277 o 40 := (oX.ty XS_277 (oX.ty XS_256 t_254))
  obtain ⟨q_297, hq_297⟩ := og (cq := cq) t_296.1 (oE_40 t_296.2)
  refine va_putF (D := (dC, dI)) (ci := 10) (v := .ref q_275) (ty := .array .int) (C := RX10) (T := TX10) (N := 16) hx hb hts in_wsX10_init_X10 tyX10 tyX10_ok nmX10 hown hK hP hD hS q_297 hq_297 rfl 12 (by decide +kernel) (hts (.fieldLink RX10 59 "ShipOffice" "letters" "[I") iw_X10_init_35) (fun _ h9 => h9) rfl hin rfl (by decide +kernel) rfl rfl (Nat.le_of_ble_eq_true rfl) dX10_init_82 (fun H locs hP1 hD1 hS => ?_)
  obtain ⟨S_298, eS_298⟩ : ∃ zq, zq = setP S_277 o 12 (some q_275) := ⟨_, rfl⟩
  have hP : va_P (dC, dI) vwCl (oW cq S_298) H := by rw [eS_298]; exact cP (oset t_296.1 hq_297 hD rfl (he_40_12 t_296.2) neP) hP1
  have hD : va_D A (oW cq S_298) := by rw [eS_298]; exact cD (oset t_296.1 hq_297 hD rfl (he_40_12 t_296.2) neP) hD1
  clear hP1 hD1
  have hIS_298 : oInv S_298 := by rw [eS_298]; exact oInv.P (k := 40) hIS_277 t_296.2 (by decide +kernel) rfl (by decide +kernel) tq_275 (by decide +kernel)
  have XS_298 : oX [2040] S_277 S_298 := by rw [eS_298]; exact oX.P (k := 40) (key := 2040) t_296.2 rfl (List.mem_singleton.mpr rfl)
  have pk_299 : oP S_298 o 1 = some q_1 := by rw [eS_298, setP_ne (by decide +kernel)]; exact pk_278
  have pk_300 : oP S_298 o 3 = some q_22 := by rw [eS_298, setP_ne (by decide +kernel)]; exact pk_279
  have pk_301 : oP S_298 o 5 = some q_45 := by rw [eS_298, setP_ne (by decide +kernel)]; exact pk_280
  have pk_302 : oP S_298 o 8 = some q_70 := by rw [eS_298, setP_ne (by decide +kernel)]; exact pk_281
  have pk_303 : oP S_298 o 9 = some q_111 := by rw [eS_298, setP_ne (by decide +kernel)]; exact pk_282
  have pk_304 : oP S_298 q_158 0 = some b_191 := by rw [eS_298, setP_oth (ty_ne (oX.ty XS_277 (oX.ty XS_256 (oXc.ty XS_235 (ty_ne (oX.ty XS_215 (oX.ty XS_196 hxS_176)) tq_214 (by decide +kernel)) (oX.ty XS_215 (oX.ty XS_196 hxS_176))))) t_296 (by decide +kernel))]; exact pk_283
  have pk_305 : oP S_298 o 10 = some q_158 := by rw [eS_298, setP_ne (by decide +kernel)]; exact pk_284
  have pk_306 : oP S_298 o 11 = some q_214 := by rw [eS_298, setP_ne (by decide +kernel)]; exact pk_285
  have ik_307 : oI S_298 o 0 = 0 := by rw [eS_298]; exact ik_286
  have ik_308 : oI S_298 o 2 = 0 := by rw [eS_298]; exact ik_287
  have ik_309 : oI S_298 o 4 = 0 := by rw [eS_298]; exact ik_288
  have ik_310 : oI S_298 o 6 = 0 := by rw [eS_298]; exact ik_289
  have ik_311 : oI S_298 o 7 = 0 := by rw [eS_298]; exact ik_290
  have ik_312 : oI S_298 o 14 = 0 := by rw [eS_298]; exact ik_291
  have ik_313 : oI S_298 q_111 1 = 0 := by rw [eS_298]; exact ik_292
  have zf_314 : oI S_298 b_191 = fun _ => 0 := by rw [eS_298]; exact zf_293
  have X_315 : oXc [5001] o Z S_298 := by rw [eS_298]; exact oXc.P X_294
  have xm_316 : oX [2040, 5001] S_84 S_298 := oX.st xm_295 XS_298 (by decide +kernel)
  have pk_317 : oP S_298 o 12 = some q_275 := by rw [eS_298, setP_same]
  refine lv_aload_n hx hb dX10_init_85 rfl (lv_at hl 0 rfl) ?_
  refine lv_bipush (v := 12) hx hb dX10_init_86 (by decide +kernel) ?_
  refine va_newa (atype := .int) (ty := .int) (a0 := (12, .inl (fun _ => 0))) hx hb (hts (.arrayClass .int) iw_X10_init_34) rfl hK hP hD hS hA (fun _ => rfl) (by decide +kernel) (by decide +kernel) (by decide +kernel) (Nat.le_of_ble_eq_true rfl) (Nat.le_of_ble_eq_true rfl) dX10_init_88 (fun q_318 k_319 H hK1 hP1 hD1 hS => ?_)
  obtain ⟨rfl, -⟩ := lv_ad (k := 0) hK1 rfl
  clear hK1
  have hnq_318 := add_q hD1
  obtain ⟨S_320, eS_320⟩ : ∃ zq, zq = addO S_298 q_318 112 := ⟨_, rfl⟩
  have hP : va_P (dC, dI) vwCl (oW cq S_320) H := by rw [eS_320]; exact cP (onew hD1 (by rw [oE_a1 (n := 12) add_K (by decide +kernel), add_I])) hP1
  have hD : va_D A (oW cq S_320) := by rw [eS_320]; exact cD (onew hD1 (by rw [oE_a1 (n := 12) add_K (by decide +kernel), add_I])) hD1
  clear hP1 hD1
  have hIS_320 : oInv S_320 := by rw [eS_320]; exact oInv.add hIS_298 hnq_318 (by decide +kernel)
  have XS_320 : oX [] S_298 S_320 := by rw [eS_320]; exact oX.add hnq_318
  have nzq_318 : q_318 ∉ oL Z := oXc.nin X_315 hnq_318
  have pk_321 : oP S_320 o 1 = some q_1 := by rw [eS_320, add_Pn hnq_318 (oX.ty XS_298 t_296).1]; exact pk_299
  have pk_322 : oP S_320 o 3 = some q_22 := by rw [eS_320, add_Pn hnq_318 (oX.ty XS_298 t_296).1]; exact pk_300
  have pk_323 : oP S_320 o 5 = some q_45 := by rw [eS_320, add_Pn hnq_318 (oX.ty XS_298 t_296).1]; exact pk_301
  have pk_324 : oP S_320 o 8 = some q_70 := by rw [eS_320, add_Pn hnq_318 (oX.ty XS_298 t_296).1]; exact pk_302
  have pk_325 : oP S_320 o 9 = some q_111 := by rw [eS_320, add_Pn hnq_318 (oX.ty XS_298 t_296).1]; exact pk_303
  have pk_326 : oP S_320 q_158 0 = some b_191 := by rw [eS_320, add_Pn hnq_318 (oX.ty XS_298 (oX.ty XS_277 (oX.ty XS_256 (oXc.ty XS_235 (ty_ne (oX.ty XS_215 (oX.ty XS_196 hxS_176)) tq_214 (by decide +kernel)) (oX.ty XS_215 (oX.ty XS_196 hxS_176)))))).1]; exact pk_304
  have pk_327 : oP S_320 o 10 = some q_158 := by rw [eS_320, add_Pn hnq_318 (oX.ty XS_298 t_296).1]; exact pk_305
  have pk_328 : oP S_320 o 11 = some q_214 := by rw [eS_320, add_Pn hnq_318 (oX.ty XS_298 t_296).1]; exact pk_306
  have pk_329 : oP S_320 o 12 = some q_275 := by rw [eS_320, add_Pn hnq_318 (oX.ty XS_298 t_296).1]; exact pk_317
  have ik_330 : oI S_320 o 0 = 0 := by rw [eS_320, add_In hnq_318 (oX.ty XS_298 t_296).1]; exact ik_307
  have ik_331 : oI S_320 o 2 = 0 := by rw [eS_320, add_In hnq_318 (oX.ty XS_298 t_296).1]; exact ik_308
  have ik_332 : oI S_320 o 4 = 0 := by rw [eS_320, add_In hnq_318 (oX.ty XS_298 t_296).1]; exact ik_309
  have ik_333 : oI S_320 o 6 = 0 := by rw [eS_320, add_In hnq_318 (oX.ty XS_298 t_296).1]; exact ik_310
  have ik_334 : oI S_320 o 7 = 0 := by rw [eS_320, add_In hnq_318 (oX.ty XS_298 t_296).1]; exact ik_311
  have ik_335 : oI S_320 o 14 = 0 := by rw [eS_320, add_In hnq_318 (oX.ty XS_298 t_296).1]; exact ik_312
  have ik_336 : oI S_320 q_111 1 = 0 := by rw [eS_320, add_In hnq_318 (oX.ty XS_298 (oX.ty XS_277 (oX.ty XS_256 (oXc.ty XS_235 (ty_ne (oX.ty XS_215 (oX.ty XS_196 (oXc.ty XS_176 (ty_ne (oX.ty XS_159 (oX.ty XS_143 hxS_127)) tq_158 (by decide +kernel)) (oX.ty XS_159 (oX.ty XS_143 hxS_127))))) tq_214 (by decide +kernel)) (oX.ty XS_215 (oX.ty XS_196 (oXc.ty XS_176 (ty_ne (oX.ty XS_159 (oX.ty XS_143 hxS_127)) tq_158 (by decide +kernel)) (oX.ty XS_159 (oX.ty XS_143 hxS_127))))))))).1]; exact ik_313
  have zf_337 : oI S_320 b_191 = fun _ => 0 := by rw [eS_320, add_If hnq_318 (oX.ty XS_298 (oX.ty XS_277 (oX.ty XS_256 (oXc.ty XS_235 (ty_ne (oX.ty XS_215 (oX.ty XS_196 tb_191)) tq_214 (by decide +kernel)) (oX.ty XS_215 (oX.ty XS_196 tb_191)))))).1]; exact zf_314
  have X_338 : oXc [5001] o Z S_320 := oXc.st X_315 XS_320 (by decide +kernel)
  have xm_339 : oX [2040, 5001] S_84 S_320 := oX.st xm_316 XS_320 (by decide +kernel)
  have tq_318 : oty S_320 q_318 112 := by rw [eS_320]; exact add_ty
  refine W.widen (k := 38) (n := 894) (Nat.le_of_ble_eq_true rfl) (Nat.le_of_ble_eq_true rfl) ?_
  have t_340 : oty S_320 o 40 := (oX.ty XS_320 (oX.ty XS_298 t_296))
  obtain ⟨q_341, hq_341⟩ := og (cq := cq) t_340.1 (oE_40 t_340.2)
  refine va_putF (D := (dC, dI)) (ci := 10) (v := .ref q_318) (ty := .array .int) (C := RX10) (T := TX10) (N := 16) hx hb hts in_wsX10_init_X10 tyX10 tyX10_ok nmX10 hown hK hP hD hS q_341 hq_341 rfl 13 (by decide +kernel) (hts (.fieldLink RX10 63 "ShipOffice" "row" "[I") iw_X10_init_36) (fun _ h9 => h9) rfl hin rfl (by decide +kernel) rfl rfl (Nat.le_of_ble_eq_true rfl) dX10_init_90 (fun H locs hP1 hD1 hS => ?_)
  obtain ⟨S_342, eS_342⟩ : ∃ zq, zq = setP S_320 o 13 (some q_318) := ⟨_, rfl⟩
  have hP : va_P (dC, dI) vwCl (oW cq S_342) H := by rw [eS_342]; exact cP (oset t_340.1 hq_341 hD rfl (he_40_13 t_340.2) neP) hP1
  have hD : va_D A (oW cq S_342) := by rw [eS_342]; exact cD (oset t_340.1 hq_341 hD rfl (he_40_13 t_340.2) neP) hD1
  clear hP1 hD1
  have hIS_342 : oInv S_342 := by rw [eS_342]; exact oInv.P (k := 40) hIS_320 t_340.2 (by decide +kernel) rfl (by decide +kernel) tq_318 (by decide +kernel)
  have XS_342 : oX [2040] S_320 S_342 := by rw [eS_342]; exact oX.P (k := 40) (key := 2040) t_340.2 rfl (List.mem_singleton.mpr rfl)
  have pk_343 : oP S_342 o 1 = some q_1 := by rw [eS_342, setP_ne (by decide +kernel)]; exact pk_321
  have pk_344 : oP S_342 o 3 = some q_22 := by rw [eS_342, setP_ne (by decide +kernel)]; exact pk_322
  have pk_345 : oP S_342 o 5 = some q_45 := by rw [eS_342, setP_ne (by decide +kernel)]; exact pk_323
  have pk_346 : oP S_342 o 8 = some q_70 := by rw [eS_342, setP_ne (by decide +kernel)]; exact pk_324
  have pk_347 : oP S_342 o 9 = some q_111 := by rw [eS_342, setP_ne (by decide +kernel)]; exact pk_325
  have pk_348 : oP S_342 q_158 0 = some b_191 := by rw [eS_342, setP_oth (ty_ne (oX.ty XS_320 (oX.ty XS_298 (oX.ty XS_277 (oX.ty XS_256 (oXc.ty XS_235 (ty_ne (oX.ty XS_215 (oX.ty XS_196 hxS_176)) tq_214 (by decide +kernel)) (oX.ty XS_215 (oX.ty XS_196 hxS_176))))))) t_340 (by decide +kernel))]; exact pk_326
  have pk_349 : oP S_342 o 10 = some q_158 := by rw [eS_342, setP_ne (by decide +kernel)]; exact pk_327
  have pk_350 : oP S_342 o 11 = some q_214 := by rw [eS_342, setP_ne (by decide +kernel)]; exact pk_328
  have pk_351 : oP S_342 o 12 = some q_275 := by rw [eS_342, setP_ne (by decide +kernel)]; exact pk_329
  have ik_352 : oI S_342 o 0 = 0 := by rw [eS_342]; exact ik_330
  have ik_353 : oI S_342 o 2 = 0 := by rw [eS_342]; exact ik_331
  have ik_354 : oI S_342 o 4 = 0 := by rw [eS_342]; exact ik_332
  have ik_355 : oI S_342 o 6 = 0 := by rw [eS_342]; exact ik_333
  have ik_356 : oI S_342 o 7 = 0 := by rw [eS_342]; exact ik_334
  have ik_357 : oI S_342 o 14 = 0 := by rw [eS_342]; exact ik_335
  have ik_358 : oI S_342 q_111 1 = 0 := by rw [eS_342]; exact ik_336
  have zf_359 : oI S_342 b_191 = fun _ => 0 := by rw [eS_342]; exact zf_337
  have X_360 : oXc [5001] o Z S_342 := by rw [eS_342]; exact oXc.P X_338
  have xm_361 : oX [2040, 5001] S_84 S_342 := oX.st xm_339 XS_342 (by decide +kernel)
  have pk_362 : oP S_342 o 13 = some q_318 := by rw [eS_342, setP_same]
  refine lv_aload_n hx hb dX10_init_93 rfl (lv_at hl 0 rfl) ?_
  refine lv_bipush (v := 7) hx hb dX10_init_94 (by decide +kernel) ?_
  refine va_newa (atype := .int) (ty := .int) (a0 := (7, .inl (fun _ => 0))) hx hb (hts (.arrayClass .int) iw_X10_init_34) rfl hK hP hD hS hA (fun _ => rfl) (by decide +kernel) (by decide +kernel) (by decide +kernel) (Nat.le_of_ble_eq_true rfl) (Nat.le_of_ble_eq_true rfl) dX10_init_96 (fun q_363 k_364 H hK1 hP1 hD1 hS => ?_)
  obtain ⟨rfl, -⟩ := lv_ad (k := 0) hK1 rfl
  clear hK1
  have hnq_363 := add_q hD1
  obtain ⟨S_365, eS_365⟩ : ∃ zq, zq = addO S_342 q_363 107 := ⟨_, rfl⟩
  have hP : va_P (dC, dI) vwCl (oW cq S_365) H := by rw [eS_365]; exact cP (onew hD1 (by rw [oE_a1 (n := 7) add_K (by decide +kernel), add_I])) hP1
  have hD : va_D A (oW cq S_365) := by rw [eS_365]; exact cD (onew hD1 (by rw [oE_a1 (n := 7) add_K (by decide +kernel), add_I])) hD1
  clear hP1 hD1
  have hIS_365 : oInv S_365 := by rw [eS_365]; exact oInv.add hIS_342 hnq_363 (by decide +kernel)
  have XS_365 : oX [] S_342 S_365 := by rw [eS_365]; exact oX.add hnq_363
  have nzq_363 : q_363 ∉ oL Z := oXc.nin X_360 hnq_363
  have pk_366 : oP S_365 o 1 = some q_1 := by rw [eS_365, add_Pn hnq_363 (oX.ty XS_342 t_340).1]; exact pk_343
  have pk_367 : oP S_365 o 3 = some q_22 := by rw [eS_365, add_Pn hnq_363 (oX.ty XS_342 t_340).1]; exact pk_344
  have pk_368 : oP S_365 o 5 = some q_45 := by rw [eS_365, add_Pn hnq_363 (oX.ty XS_342 t_340).1]; exact pk_345
  have pk_369 : oP S_365 o 8 = some q_70 := by rw [eS_365, add_Pn hnq_363 (oX.ty XS_342 t_340).1]; exact pk_346
  have pk_370 : oP S_365 o 9 = some q_111 := by rw [eS_365, add_Pn hnq_363 (oX.ty XS_342 t_340).1]; exact pk_347
  have pk_371 : oP S_365 q_158 0 = some b_191 := by rw [eS_365, add_Pn hnq_363 (oX.ty XS_342 (oX.ty XS_320 (oX.ty XS_298 (oX.ty XS_277 (oX.ty XS_256 (oXc.ty XS_235 (ty_ne (oX.ty XS_215 (oX.ty XS_196 hxS_176)) tq_214 (by decide +kernel)) (oX.ty XS_215 (oX.ty XS_196 hxS_176)))))))).1]; exact pk_348
  have pk_372 : oP S_365 o 10 = some q_158 := by rw [eS_365, add_Pn hnq_363 (oX.ty XS_342 t_340).1]; exact pk_349
  have pk_373 : oP S_365 o 11 = some q_214 := by rw [eS_365, add_Pn hnq_363 (oX.ty XS_342 t_340).1]; exact pk_350
  have pk_374 : oP S_365 o 12 = some q_275 := by rw [eS_365, add_Pn hnq_363 (oX.ty XS_342 t_340).1]; exact pk_351
  have pk_375 : oP S_365 o 13 = some q_318 := by rw [eS_365, add_Pn hnq_363 (oX.ty XS_342 t_340).1]; exact pk_362
  have ik_376 : oI S_365 o 0 = 0 := by rw [eS_365, add_In hnq_363 (oX.ty XS_342 t_340).1]; exact ik_352
  have ik_377 : oI S_365 o 2 = 0 := by rw [eS_365, add_In hnq_363 (oX.ty XS_342 t_340).1]; exact ik_353
  have ik_378 : oI S_365 o 4 = 0 := by rw [eS_365, add_In hnq_363 (oX.ty XS_342 t_340).1]; exact ik_354
  have ik_379 : oI S_365 o 6 = 0 := by rw [eS_365, add_In hnq_363 (oX.ty XS_342 t_340).1]; exact ik_355
  have ik_380 : oI S_365 o 7 = 0 := by rw [eS_365, add_In hnq_363 (oX.ty XS_342 t_340).1]; exact ik_356
  have ik_381 : oI S_365 o 14 = 0 := by rw [eS_365, add_In hnq_363 (oX.ty XS_342 t_340).1]; exact ik_357
  have ik_382 : oI S_365 q_111 1 = 0 := by rw [eS_365, add_In hnq_363 (oX.ty XS_342 (oX.ty XS_320 (oX.ty XS_298 (oX.ty XS_277 (oX.ty XS_256 (oXc.ty XS_235 (ty_ne (oX.ty XS_215 (oX.ty XS_196 (oXc.ty XS_176 (ty_ne (oX.ty XS_159 (oX.ty XS_143 hxS_127)) tq_158 (by decide +kernel)) (oX.ty XS_159 (oX.ty XS_143 hxS_127))))) tq_214 (by decide +kernel)) (oX.ty XS_215 (oX.ty XS_196 (oXc.ty XS_176 (ty_ne (oX.ty XS_159 (oX.ty XS_143 hxS_127)) tq_158 (by decide +kernel)) (oX.ty XS_159 (oX.ty XS_143 hxS_127))))))))))).1]; exact ik_358
  have zf_383 : oI S_365 b_191 = fun _ => 0 := by rw [eS_365, add_If hnq_363 (oX.ty XS_342 (oX.ty XS_320 (oX.ty XS_298 (oX.ty XS_277 (oX.ty XS_256 (oXc.ty XS_235 (ty_ne (oX.ty XS_215 (oX.ty XS_196 tb_191)) tq_214 (by decide +kernel)) (oX.ty XS_215 (oX.ty XS_196 tb_191)))))))).1]; exact zf_359
  have X_384 : oXc [5001] o Z S_365 := oXc.st X_360 XS_365 (by decide +kernel)
  have xm_385 : oX [2040, 5001] S_84 S_365 := oX.st xm_361 XS_365 (by decide +kernel)
  have tq_363 : oty S_365 q_363 107 := by rw [eS_365]; exact add_ty
  have zf_386 : oI S_365 q_363 = fun _ => 0 := by rw [eS_365]; exact add_I
  refine W.widen (k := 39) (n := 901) (Nat.le_of_ble_eq_true rfl) (Nat.le_of_ble_eq_true rfl) ?_
  have t_387 : oty S_365 o 40 := (oX.ty XS_365 (oX.ty XS_342 t_340))
  obtain ⟨q_388, hq_388⟩ := og (cq := cq) t_387.1 (oE_40 t_387.2)
  refine va_putF (D := (dC, dI)) (ci := 10) (v := .ref q_363) (ty := .array .int) (C := RX10) (T := TX10) (N := 16) hx hb hts in_wsX10_init_X10 tyX10 tyX10_ok nmX10 hown hK hP hD hS q_388 hq_388 rfl 15 (by decide +kernel) (hts (.fieldLink RX10 66 "ShipOffice" "refusals" "[I") iw_X10_init_37) (fun _ h9 => h9) rfl hin rfl (by decide +kernel) rfl rfl (Nat.le_of_ble_eq_true rfl) dX10_init_98 (fun H locs hP1 hD1 hS => ?_)
  obtain ⟨S_389, eS_389⟩ : ∃ zq, zq = setP S_365 o 15 (some q_363) := ⟨_, rfl⟩
  have hP : va_P (dC, dI) vwCl (oW cq S_389) H := by rw [eS_389]; exact cP (oset t_387.1 hq_388 hD rfl (he_40_15 t_387.2) neP) hP1
  have hD : va_D A (oW cq S_389) := by rw [eS_389]; exact cD (oset t_387.1 hq_388 hD rfl (he_40_15 t_387.2) neP) hD1
  clear hP1 hD1
  have hIS_389 : oInv S_389 := by rw [eS_389]; exact oInv.P (k := 40) hIS_365 t_387.2 (by decide +kernel) rfl (by decide +kernel) tq_363 (by decide +kernel)
  have XS_389 : oX [2040] S_365 S_389 := by rw [eS_389]; exact oX.P (k := 40) (key := 2040) t_387.2 rfl (List.mem_singleton.mpr rfl)
  have pk_390 : oP S_389 o 1 = some q_1 := by rw [eS_389, setP_ne (by decide +kernel)]; exact pk_366
  have pk_391 : oP S_389 o 3 = some q_22 := by rw [eS_389, setP_ne (by decide +kernel)]; exact pk_367
  have pk_392 : oP S_389 o 5 = some q_45 := by rw [eS_389, setP_ne (by decide +kernel)]; exact pk_368
  have pk_393 : oP S_389 o 8 = some q_70 := by rw [eS_389, setP_ne (by decide +kernel)]; exact pk_369
  have pk_394 : oP S_389 o 9 = some q_111 := by rw [eS_389, setP_ne (by decide +kernel)]; exact pk_370
  have pk_395 : oP S_389 q_158 0 = some b_191 := by rw [eS_389, setP_oth (ty_ne (oX.ty XS_365 (oX.ty XS_342 (oX.ty XS_320 (oX.ty XS_298 (oX.ty XS_277 (oX.ty XS_256 (oXc.ty XS_235 (ty_ne (oX.ty XS_215 (oX.ty XS_196 hxS_176)) tq_214 (by decide +kernel)) (oX.ty XS_215 (oX.ty XS_196 hxS_176))))))))) t_387 (by decide +kernel))]; exact pk_371
  have pk_396 : oP S_389 o 10 = some q_158 := by rw [eS_389, setP_ne (by decide +kernel)]; exact pk_372
  have pk_397 : oP S_389 o 11 = some q_214 := by rw [eS_389, setP_ne (by decide +kernel)]; exact pk_373
  have pk_398 : oP S_389 o 12 = some q_275 := by rw [eS_389, setP_ne (by decide +kernel)]; exact pk_374
  have pk_399 : oP S_389 o 13 = some q_318 := by rw [eS_389, setP_ne (by decide +kernel)]; exact pk_375
  have ik_400 : oI S_389 o 0 = 0 := by rw [eS_389]; exact ik_376
  have ik_401 : oI S_389 o 2 = 0 := by rw [eS_389]; exact ik_377
  have ik_402 : oI S_389 o 4 = 0 := by rw [eS_389]; exact ik_378
  have ik_403 : oI S_389 o 6 = 0 := by rw [eS_389]; exact ik_379
  have ik_404 : oI S_389 o 7 = 0 := by rw [eS_389]; exact ik_380
  have ik_405 : oI S_389 o 14 = 0 := by rw [eS_389]; exact ik_381
  have ik_406 : oI S_389 q_111 1 = 0 := by rw [eS_389]; exact ik_382
  have zf_407 : oI S_389 b_191 = fun _ => 0 := by rw [eS_389]; exact zf_383
  have zf_408 : oI S_389 q_363 = fun _ => 0 := by rw [eS_389]; exact zf_386
  have X_409 : oXc [5001] o Z S_389 := by rw [eS_389]; exact oXc.P X_384
  have xm_410 : oX [2040, 5001] S_84 S_389 := oX.st xm_385 XS_389 (by decide +kernel)
  have pk_411 : oP S_389 o 15 = some q_363 := by rw [eS_389, setP_same]
  have t_413 : oty S_389 o 40 := (oX.ty XS_389 t_387)
  obtain ⟨S_412, eS_412⟩ : ∃ zq, zq = setK S_389 o 10 := ⟨_, rfl⟩
  have hP : va_P (dC, dI) vwCl (oW cq S_412) H := by rw [eS_412]; exact cP (ret_W (c := 10) t_413.2 (by decide +kernel)) hP
  have hD : va_D A (oW cq S_412) := by rw [eS_412]; exact cD (ret_W (c := 10) t_413.2 (by decide +kernel)) hD
  have hIS_412 : oInv S_412 := by rw [eS_412]; exact oInv.ret (c := 10) hIS_389 t_413 (by decide +kernel) (fun i hi => by rcases nn_10 hi with rfl | rfl | rfl | rfl | rfl | rfl | rfl | rfl | rfl | rfl <;> first | exact ⟨_, pk_390⟩ | exact ⟨_, pk_391⟩ | exact ⟨_, pk_392⟩ | exact ⟨_, pk_393⟩ | exact ⟨_, pk_394⟩ | exact ⟨_, pk_396⟩ | exact ⟨_, pk_397⟩ | exact ⟨_, pk_398⟩ | exact ⟨_, pk_399⟩ | exact ⟨_, pk_411⟩) (fun i p hp => by rcases ct_10 hp with rfl | rfl | rfl <;> first | (rw [ik_400]; decide) | (rw [ik_401]; decide) | (rw [ik_402]; decide) | (rw [ik_403]; decide) | (rw [ik_404]; decide) | (rw [ik_405]; decide)) (fun h => absurd h (by decide +kernel)) (fun h => absurd h (by decide +kernel)) (fun h => absurd h (by decide +kernel))
  have XS_412 : oXc [5001] o Z S_412 := by rw [eS_412]; exact oXc.K X_409
  have tS_412 : oty S_412 o 10 := by rw [eS_412]; exact K_ty t_413.1
  have pk_414 : oP S_412 o 1 = some q_1 := by rw [eS_412]; exact pk_390
  have pk_415 : oP S_412 o 3 = some q_22 := by rw [eS_412]; exact pk_391
  have pk_416 : oP S_412 o 5 = some q_45 := by rw [eS_412]; exact pk_392
  have pk_417 : oP S_412 o 8 = some q_70 := by rw [eS_412]; exact pk_393
  have pk_418 : oP S_412 o 9 = some q_111 := by rw [eS_412]; exact pk_394
  have pk_419 : oP S_412 q_158 0 = some b_191 := by rw [eS_412]; exact pk_395
  have pk_420 : oP S_412 o 10 = some q_158 := by rw [eS_412]; exact pk_396
  have pk_421 : oP S_412 o 11 = some q_214 := by rw [eS_412]; exact pk_397
  have pk_422 : oP S_412 o 12 = some q_275 := by rw [eS_412]; exact pk_398
  have pk_423 : oP S_412 o 13 = some q_318 := by rw [eS_412]; exact pk_399
  have pk_424 : oP S_412 o 15 = some q_363 := by rw [eS_412]; exact pk_411
  have ik_425 : oI S_412 o 0 = 0 := by rw [eS_412]; exact ik_400
  have ik_426 : oI S_412 o 2 = 0 := by rw [eS_412]; exact ik_401
  have ik_427 : oI S_412 o 4 = 0 := by rw [eS_412]; exact ik_402
  have ik_428 : oI S_412 o 6 = 0 := by rw [eS_412]; exact ik_403
  have ik_429 : oI S_412 o 7 = 0 := by rw [eS_412]; exact ik_404
  have ik_430 : oI S_412 o 14 = 0 := by rw [eS_412]; exact ik_405
  have ik_431 : oI S_412 q_111 1 = 0 := by rw [eS_412]; exact ik_406
  have zf_432 : oI S_412 b_191 = fun _ => 0 := by rw [eS_412]; exact zf_407
  have zf_433 : oI S_412 q_363 = fun _ => 0 := by rw [eS_412]; exact zf_408
  have hlF : lawI S_412 q_70 := by rw [eS_412]; exact lawI_K t_413 (by decide +kernel) (lawI_o xm_410 hxS_84 (by decide +kernel) hlI)
  exact W.vret hx hb hr (fun t ht hW => ⟨⟨S_412, rfl, ⟨hIS_412, XS_412, ⟨tS_412, ⟨⟨ik_425, ik_426, ik_427, ik_428, ik_429, ik_430⟩, (fun sea ml q1 q2 => by rw [pk_420] at q1; cases q1; rw [pk_419] at q2; cases q2; exact zf_432), (fun tp q1 => by rw [pk_418] at q1; cases q1; exact ik_431), (fun lw q1 => by rw [pk_417] at q1; cases q1; exact hlF), fun rf q1 => by rw [pk_424] at q1; cases q1; exact zf_433⟩⟩⟩, ⟨by rw [ht]; exact hP, va_K.moved hW.alike hK, hD⟩⟩, hS.F ht⟩) hS.2.2 dX10_init_101
