

/-- a man more, with a row of wages of his own -/
def mnO (Z : oS) (o : Nat) (a b d : Int32) (u : oS) : Prop := ∃ q, q ∉ oL Z ∧ oty u q 6 ∧ (oI u q 0 = oI Z o 2 ∧ oI u q 1 = a ∧ oI u q 2 = b ∧ oI u q 3 = d) ∧ (∃ w, oP u q 4 = some w ∧ w ∉ oL Z ∧ oI u w = fun _ => 0) ∧ oP u (oQ Z o 1) = va_up (oP Z (oQ Z o 1)) (oI Z o 2).toNatClampNeg (some q)
set_option maxHeartbeats 4000000 in
set_option maxRecDepth 100000 in
theorem c_X6_init_c (l : Launch) (dC : Nat → ClassId) (dI : Nat → Nat → Nat) (sz : Nat) (cq : Nat → ClassId) (Z : oS) (gI : oInv Z) (o : Nat) (to : oty Z o 36) (x1 : Int32) (x2 : Int32) (x3 : Int32) (x4 : Int32) : Met l yX6_init wsX6_init ({ frames := 1, cells := 1, slots := 4, locals := 14 }) (va_Pc [.ref o, .int x1, .int x2, .int x3, .int x4] (pcW (dC, dI) (oT cq) (oW cq Z) sz)) (va_Qv (fun (u : oS) => oInv u ∧ oXc ([] : List Nat) o Z u ∧ (oty u o 6 ∧ (oI u o 0 = x1 ∧ oI u o 1 = x2 ∧ oI u o 2 = x3 ∧ oI u o 3 = x4) ∧ ∃ w, oP u o 4 = some w ∧ w ∉ oL Z ∧ oI u w = fun _ => 0)) (fun u t => va_P (dC, dI) vwCl (oW cq u) t.heap ∧ va_K (dC, dI) vwCl (oT cq) t ∧ va_D (va_A (oW cq Z) sz) (oW cq u)) (va_A (oW cq Z) sz)) 1 4 (va_A (oW cq Z) sz) := by
  refine Met.ofW (cc := cX6_init) (maxL := 5) (ret := none) (by decide +kernel) rfl ?_
  intro p e s m args below meth c s₁ B hml hv
  obtain ⟨rfl, hsz, hP, hK, hD0⟩ := hv
  have hx := B.exec
  have hb := B.bytes
  have hr := B.returns
  have hts := atoms_spec (ws := wsX6_init) B.pre
  have hown : s.vm.findClass RX6 = some m.cls := findClass_of_methodNamed B.named
  have hlocks := B.notSynchronized
  have hin : meth.name = "<init>" := (name_of_methodNamed B.named B.method).1
  subst hsz
  have hD := hD0.self (sz := s.heap.size)
  generalize hAe : va_A (oW cq Z) s.heap.size = A at hD ⊢
  have hA : ∀ q : Nat, s.heap.size ≤ q → A q := fun q h => by rw [← hAe]; exact Or.inr h
  have hS : va_S A s.heap s.heap [] := va_S.rf
  have hP : va_P (dC, dI) vwCl (oW cq Z) s.heap := hP
  have hl := lv_entry ([.ref o, .int x1, .int x2, .int x3, .int x4]) (n := 5) (Nat.le_of_ble_eq_true rfl)
  rw [lg_entry_eq]
  generalize (lg_sl ([.ref o, .int x1, .int x2, .int x3, .int x4]) ++ List.replicate (5 - (lg_sl ([.ref o, .int x1, .int x2, .int x3, .int x4])).length) Slot.unset).toArray = ls at hl ⊢
  have hl : lv_has ls 5 [(0, .ref o), (1, .int x1), (2, .int x2), (3, .int x3), (4, .int x4)] := hl
  refine lv_aload_n hx hb dX6_init_0 rfl (lv_at hl 0 rfl) ?_
  refine W.objInit hx hb hown (hts (.methodLink RX6 3 objectInit) iw_X6_init_1) (hts (.instanceMethod objectInit) iw_X6_init_2) (hts (.code objectInit ⟨#[0xb1]⟩ 1 none) (in_obj_wsX6_init)) rfl (by rw [hml]; exact hl.1) rfl dX6_init_1 (Nat.le_of_ble_eq_true rfl) (Nat.le_of_ble_eq_true rfl) ?_
  refine W.eq (g2 := F0 m 4 ls []) rfl ?_
  refine lv_aload_n hx hb dX6_init_4 rfl (lv_at hl 0 rfl) ?_
  refine lv_iconst (v := 4) hx hb dX6_init_5 (by decide +kernel) ?_
  refine va_newa (atype := .int) (ty := .int) (a0 := (4, .inl (fun _ => 0))) hx hb (hts (.arrayClass .int) iw_X6_init_3) rfl hK hP hD hS hA (fun _ => rfl) (by decide +kernel) (by decide +kernel) (by decide +kernel) (Nat.le_of_ble_eq_true rfl) (Nat.le_of_ble_eq_true rfl) dX6_init_6 (fun q_1 k_2 H hK1 hP1 hD1 hS => ?_)
  obtain ⟨rfl, -⟩ := lv_ad (k := 0) hK1 rfl
  clear hK1
  have hnq_1 := add_q hD1
  obtain ⟨S_3, eS_3⟩ : ∃ zq, zq = addO Z q_1 104 := ⟨_, rfl⟩
  have hP : va_P (dC, dI) vwCl (oW cq S_3) H := by rw [eS_3]; exact cP (onew hD1 (by rw [oE_a1 (n := 4) add_K (by decide +kernel), add_I])) hP1
  have hD : va_D A (oW cq S_3) := by rw [eS_3]; exact cD (onew hD1 (by rw [oE_a1 (n := 4) add_K (by decide +kernel), add_I])) hD1
  clear hP1 hD1
  have hIS_3 : oInv S_3 := by rw [eS_3]; exact oInv.add gI hnq_1 (by decide +kernel)
  have XS_3 : oX [] Z S_3 := by rw [eS_3]; exact oX.add hnq_1
  have nzq_1 : q_1 ∉ oL Z := hnq_1
  have X_4 : oXc ([] : List Nat) o Z S_3 := oXc.st oXc.rf XS_3 (by decide +kernel)
  have tq_1 : oty S_3 q_1 104 := by rw [eS_3]; exact add_ty
  have zf_5 : oI S_3 q_1 = fun _ => 0 := by rw [eS_3]; exact add_I
  refine W.widen (k := 1) (n := 4) (Nat.le_of_ble_eq_true rfl) (Nat.le_of_ble_eq_true rfl) ?_
  have t_6 : oty S_3 o 36 := (oX.ty XS_3 to)
  obtain ⟨q_7, hq_7⟩ := og (cq := cq) t_6.1 (oE_36 t_6.2)
  refine va_putF (D := (dC, dI)) (ci := 6) (v := .ref q_1) (ty := .array .int) (C := RX6) (T := TX6) (N := 6) hx hb hts in_wsX6_init_X6 tyX6 tyX6_ok nmX6 hown hK hP hD hS q_7 hq_7 rfl 4 (by decide +kernel) (hts (.fieldLink RX6 9 "ShipOffice$Man" "wages" "[I") iw_X6_init_4) (fun _ h9 => h9) rfl hin rfl (by decide +kernel) rfl rfl (Nat.le_of_ble_eq_true rfl) dX6_init_8 (fun H locs hP1 hD1 hS => ?_)
  obtain ⟨S_8, eS_8⟩ : ∃ zq, zq = setP S_3 o 4 (some q_1) := ⟨_, rfl⟩
  have hP : va_P (dC, dI) vwCl (oW cq S_8) H := by rw [eS_8]; exact cP (oset t_6.1 hq_7 hD rfl (he_36_4 t_6.2) neP) hP1
  have hD : va_D A (oW cq S_8) := by rw [eS_8]; exact cD (oset t_6.1 hq_7 hD rfl (he_36_4 t_6.2) neP) hD1
  clear hP1 hD1
  have hIS_8 : oInv S_8 := by rw [eS_8]; exact oInv.P (k := 36) hIS_3 t_6.2 (by decide +kernel) rfl (by decide +kernel) tq_1 (by decide +kernel)
  have XS_8 : oX [2036] S_3 S_8 := by rw [eS_8]; exact oX.P (k := 36) (key := 2036) t_6.2 rfl (List.mem_singleton.mpr rfl)
  have zf_9 : oI S_8 q_1 = fun _ => 0 := by rw [eS_8]; exact zf_5
  have X_10 : oXc ([] : List Nat) o Z S_8 := by rw [eS_8]; exact oXc.P X_4
  have pk_11 : oP S_8 o 4 = some q_1 := by rw [eS_8, setP_same]
  refine lv_aload_n hx hb dX6_init_11 rfl (lv_at hl 0 rfl) ?_
  refine lv_iload_n hx hb dX6_init_12 rfl (lv_at hl 1 rfl) ?_
  have t_12 : oty S_8 o 36 := (oX.ty XS_8 t_6)
  obtain ⟨q_13, hq_13⟩ := og (cq := cq) t_12.1 (oE_36 t_12.2)
  refine va_putF (D := (dC, dI)) (ci := 6) (v := .int x1) (ty := .int) (C := RX6) (T := TX6) (N := 6) hx hb hts in_wsX6_init_X6 tyX6 tyX6_ok nmX6 hown hK hP hD hS q_13 hq_13 rfl 0 (by decide +kernel) (hts (.fieldLink RX6 15 "ShipOffice$Man" "number" "I") iw_X6_init_5) (fun _ h9 => h9) rfl hin rfl (by decide +kernel) rfl rfl (Nat.le_of_ble_eq_true rfl) dX6_init_13 (fun H locs hP1 hD1 hS => ?_)
  obtain ⟨S_14, eS_14⟩ : ∃ zq, zq = setI S_8 o 0 x1 := ⟨_, rfl⟩
  have hP : va_P (dC, dI) vwCl (oW cq S_14) H := by rw [eS_14]; exact cP (oset t_12.1 hq_13 hD rfl (he_36_0 t_12.2) neI) hP1
  have hD : va_D A (oW cq S_14) := by rw [eS_14]; exact cD (oset t_12.1 hq_13 hD rfl (he_36_0 t_12.2) neI) hD1
  clear hP1 hD1
  have hIS_14 : oInv S_14 := by rw [eS_14]; exact oInv.I0 (k := 36) (lo := -2147483648) (hi := 2147483647) hIS_8 t_12.2 (by decide +kernel) rfl rfl rfl (iv_all _)
  have XS_14 : oX [2036] S_8 S_14 := by rw [eS_14]; exact oX.I (k := 36) (key := 2036) t_12.2 rfl (List.mem_singleton.mpr rfl)
  have pk_15 : oP S_14 o 4 = some q_1 := by rw [eS_14]; exact pk_11
  have zf_16 : oI S_14 q_1 = fun _ => 0 := by rw [eS_14, setI_oth (ty_ne (oX.ty XS_8 tq_1) t_12 (by decide +kernel))]; exact zf_9
  have X_17 : oXc ([] : List Nat) o Z S_14 := by rw [eS_14]; exact oXc.I X_10
  have pk_18 : oI S_14 o 0 = x1 := by rw [eS_14, setI_same]
  refine lv_aload_n hx hb dX6_init_16 rfl (lv_at hl 0 rfl) ?_
  refine lv_iload_n hx hb dX6_init_17 rfl (lv_at hl 2 rfl) ?_
  have t_19 : oty S_14 o 36 := (oX.ty XS_14 t_12)
  obtain ⟨q_20, hq_20⟩ := og (cq := cq) t_19.1 (oE_36 t_19.2)
  refine va_putF (D := (dC, dI)) (ci := 6) (v := .int x2) (ty := .int) (C := RX6) (T := TX6) (N := 6) hx hb hts in_wsX6_init_X6 tyX6 tyX6_ok nmX6 hown hK hP hD hS q_20 hq_20 rfl 1 (by decide +kernel) (hts (.fieldLink RX6 19 "ShipOffice$Man" "name" "I") iw_X6_init_6) (fun _ h9 => h9) rfl hin rfl (by decide +kernel) rfl rfl (Nat.le_of_ble_eq_true rfl) dX6_init_18 (fun H locs hP1 hD1 hS => ?_)
  obtain ⟨S_21, eS_21⟩ : ∃ zq, zq = setI S_14 o 1 x2 := ⟨_, rfl⟩
  have hP : va_P (dC, dI) vwCl (oW cq S_21) H := by rw [eS_21]; exact cP (oset t_19.1 hq_20 hD rfl (he_36_1 t_19.2) neI) hP1
  have hD : va_D A (oW cq S_21) := by rw [eS_21]; exact cD (oset t_19.1 hq_20 hD rfl (he_36_1 t_19.2) neI) hD1
  clear hP1 hD1
  have hIS_21 : oInv S_21 := by rw [eS_21]; exact oInv.I0 (k := 36) (lo := -2147483648) (hi := 2147483647) hIS_14 t_19.2 (by decide +kernel) rfl rfl rfl (iv_all _)
  have XS_21 : oX [2036] S_14 S_21 := by rw [eS_21]; exact oX.I (k := 36) (key := 2036) t_19.2 rfl (List.mem_singleton.mpr rfl)
  have pk_22 : oP S_21 o 4 = some q_1 := by rw [eS_21]; exact pk_15
  have ik_23 : oI S_21 o 0 = x1 := by rw [eS_21, setI_ne (by decide +kernel)]; exact pk_18
  have zf_24 : oI S_21 q_1 = fun _ => 0 := by rw [eS_21, setI_oth (ty_ne (oX.ty XS_14 (oX.ty XS_8 tq_1)) t_19 (by decide +kernel))]; exact zf_16
  have X_25 : oXc ([] : List Nat) o Z S_21 := by rw [eS_21]; exact oXc.I X_17
  have pk_26 : oI S_21 o 1 = x2 := by rw [eS_21, setI_same]
  refine lv_aload_n hx hb dX6_init_21 rfl (lv_at hl 0 rfl) ?_
  refine lv_iload_n hx hb dX6_init_22 rfl (lv_at hl 3 rfl) ?_
  have t_27 : oty S_21 o 36 := (oX.ty XS_21 t_19)
  obtain ⟨q_28, hq_28⟩ := og (cq := cq) t_27.1 (oE_36 t_27.2)
  refine va_putF (D := (dC, dI)) (ci := 6) (v := .int x3) (ty := .int) (C := RX6) (T := TX6) (N := 6) hx hb hts in_wsX6_init_X6 tyX6 tyX6_ok nmX6 hown hK hP hD hS q_28 hq_28 rfl 2 (by decide +kernel) (hts (.fieldLink RX6 22 "ShipOffice$Man" "marks" "I") iw_X6_init_7) (fun _ h9 => h9) rfl hin rfl (by decide +kernel) rfl rfl (Nat.le_of_ble_eq_true rfl) dX6_init_23 (fun H locs hP1 hD1 hS => ?_)
  obtain ⟨S_29, eS_29⟩ : ∃ zq, zq = setI S_21 o 2 x3 := ⟨_, rfl⟩
  have hP : va_P (dC, dI) vwCl (oW cq S_29) H := by rw [eS_29]; exact cP (oset t_27.1 hq_28 hD rfl (he_36_2 t_27.2) neI) hP1
  have hD : va_D A (oW cq S_29) := by rw [eS_29]; exact cD (oset t_27.1 hq_28 hD rfl (he_36_2 t_27.2) neI) hD1
  clear hP1 hD1
  have hIS_29 : oInv S_29 := by rw [eS_29]; exact oInv.I0 (k := 36) (lo := -2147483648) (hi := 2147483647) hIS_21 t_27.2 (by decide +kernel) rfl rfl rfl (iv_all _)
  have XS_29 : oX [2036] S_21 S_29 := by rw [eS_29]; exact oX.I (k := 36) (key := 2036) t_27.2 rfl (List.mem_singleton.mpr rfl)
  have pk_30 : oP S_29 o 4 = some q_1 := by rw [eS_29]; exact pk_22
  have ik_31 : oI S_29 o 0 = x1 := by rw [eS_29, setI_ne (by decide +kernel)]; exact ik_23
  have ik_32 : oI S_29 o 1 = x2 := by rw [eS_29, setI_ne (by decide +kernel)]; exact pk_26
  have zf_33 : oI S_29 q_1 = fun _ => 0 := by rw [eS_29, setI_oth (ty_ne (oX.ty XS_21 (oX.ty XS_14 (oX.ty XS_8 tq_1))) t_27 (by decide +kernel))]; exact zf_24
  have X_34 : oXc ([] : List Nat) o Z S_29 := by rw [eS_29]; exact oXc.I X_25
  have pk_35 : oI S_29 o 2 = x3 := by rw [eS_29, setI_same]
  refine lv_aload_n hx hb dX6_init_26 rfl (lv_at hl 0 rfl) ?_
  refine lv_iload hx hb dX6_init_27 (lv_at hl 4 rfl) ?_
  have t_36 : oty S_29 o 36 := (oX.ty XS_29 t_27)
  obtain ⟨q_37, hq_37⟩ := og (cq := cq) t_36.1 (oE_36 t_36.2)
  refine va_putF (D := (dC, dI)) (ci := 6) (v := .int x4) (ty := .int) (C := RX6) (T := TX6) (N := 6) hx hb hts in_wsX6_init_X6 tyX6 tyX6_ok nmX6 hown hK hP hD hS q_37 hq_37 rfl 3 (by decide +kernel) (hts (.fieldLink RX6 25 "ShipOffice$Man" "born" "I") iw_X6_init_8) (fun _ h9 => h9) rfl hin rfl (by decide +kernel) rfl rfl (Nat.le_of_ble_eq_true rfl) dX6_init_29 (fun H locs hP1 hD1 hS => ?_)
  obtain ⟨S_38, eS_38⟩ : ∃ zq, zq = setI S_29 o 3 x4 := ⟨_, rfl⟩
  have hP : va_P (dC, dI) vwCl (oW cq S_38) H := by rw [eS_38]; exact cP (oset t_36.1 hq_37 hD rfl (he_36_3 t_36.2) neI) hP1
  have hD : va_D A (oW cq S_38) := by rw [eS_38]; exact cD (oset t_36.1 hq_37 hD rfl (he_36_3 t_36.2) neI) hD1
  clear hP1 hD1
  have hIS_38 : oInv S_38 := by rw [eS_38]; exact oInv.I0 (k := 36) (lo := -2147483648) (hi := 2147483647) hIS_29 t_36.2 (by decide +kernel) rfl rfl rfl (iv_all _)
  have XS_38 : oX [2036] S_29 S_38 := by rw [eS_38]; exact oX.I (k := 36) (key := 2036) t_36.2 rfl (List.mem_singleton.mpr rfl)
  have pk_39 : oP S_38 o 4 = some q_1 := by rw [eS_38]; exact pk_30
  have ik_40 : oI S_38 o 0 = x1 := by rw [eS_38, setI_ne (by decide +kernel)]; exact ik_31
  have ik_41 : oI S_38 o 1 = x2 := by rw [eS_38, setI_ne (by decide +kernel)]; exact ik_32
  have ik_42 : oI S_38 o 2 = x3 := by rw [eS_38, setI_ne (by decide +kernel)]; exact pk_35
  have zf_43 : oI S_38 q_1 = fun _ => 0 := by rw [eS_38, setI_oth (ty_ne (oX.ty XS_29 (oX.ty XS_21 (oX.ty XS_14 (oX.ty XS_8 tq_1)))) t_36 (by decide +kernel))]; exact zf_33
  have X_44 : oXc ([] : List Nat) o Z S_38 := by rw [eS_38]; exact oXc.I X_34
  have pk_45 : oI S_38 o 3 = x4 := by rw [eS_38, setI_same]
  refine lv_aload_n hx hb dX6_init_32 rfl (lv_at hl 0 rfl) ?_
  refine lv_iload_n hx hb dX6_init_33 rfl (lv_at hl 1 rfl) ?_
  have t_46 : oty S_38 o 36 := (oX.ty XS_38 t_36)
  obtain ⟨q_47, hq_47⟩ := og (cq := cq) t_46.1 (oE_36 t_46.2)
  refine va_put (D := (dC, dI)) (ci := 6) (v := .int x1) (ty := .int) (C := RX6) (T := TX6) (N := 6) hx hb hts in_wsX6_init_X6 tyX6 tyX6_ok nmX6 hown hK hP hD hS q_47 hq_47 rfl 5 (by decide +kernel) (hts (.fieldLink RX6 28 "ShipOffice$Man" "leastAlike" "I") iw_X6_init_9) (fun _ h9 => h9) rfl (by decide +kernel) rfl rfl (Nat.le_of_ble_eq_true rfl) dX6_init_34 (fun H locs hP1 hD1 hS => ?_)
  obtain ⟨S_48, eS_48⟩ : ∃ zq, zq = setI S_38 o 5 x1 := ⟨_, rfl⟩
  have hP : va_P (dC, dI) vwCl (oW cq S_48) H := by rw [eS_48]; exact cP (oset t_46.1 hq_47 hD rfl (he_36_5 t_46.2) neI) hP1
  have hD : va_D A (oW cq S_48) := by rw [eS_48]; exact cD (oset t_46.1 hq_47 hD rfl (he_36_5 t_46.2) neI) hD1
  clear hP1 hD1
  have hIS_48 : oInv S_48 := by rw [eS_48]; exact oInv.I0 (k := 36) (lo := -2147483648) (hi := 2147483647) hIS_38 t_46.2 (by decide +kernel) rfl rfl rfl (iv_all _)
  have XS_48 : oX [2036] S_38 S_48 := by rw [eS_48]; exact oX.I (k := 36) (key := 2036) t_46.2 rfl (List.mem_singleton.mpr rfl)
  have pk_49 : oP S_48 o 4 = some q_1 := by rw [eS_48]; exact pk_39
  have ik_50 : oI S_48 o 0 = x1 := by rw [eS_48, setI_ne (by decide +kernel)]; exact ik_40
  have ik_51 : oI S_48 o 1 = x2 := by rw [eS_48, setI_ne (by decide +kernel)]; exact ik_41
  have ik_52 : oI S_48 o 2 = x3 := by rw [eS_48, setI_ne (by decide +kernel)]; exact ik_42
  have ik_53 : oI S_48 o 3 = x4 := by rw [eS_48, setI_ne (by decide +kernel)]; exact pk_45
  have zf_54 : oI S_48 q_1 = fun _ => 0 := by rw [eS_48, setI_oth (ty_ne (oX.ty XS_38 (oX.ty XS_29 (oX.ty XS_21 (oX.ty XS_14 (oX.ty XS_8 tq_1))))) t_46 (by decide +kernel))]; exact zf_43
  have X_55 : oXc ([] : List Nat) o Z S_48 := by rw [eS_48]; exact oXc.I X_44
  have pk_56 : oI S_48 o 5 = x1 := by rw [eS_48, setI_same]
  have t_58 : oty S_48 o 36 := (oX.ty XS_48 t_46)
  obtain ⟨S_57, eS_57⟩ : ∃ zq, zq = setK S_48 o 6 := ⟨_, rfl⟩
  have hP : va_P (dC, dI) vwCl (oW cq S_57) H := by rw [eS_57]; exact cP (ret_W (c := 6) t_58.2 (by decide +kernel)) hP
  have hD : va_D A (oW cq S_57) := by rw [eS_57]; exact cD (ret_W (c := 6) t_58.2 (by decide +kernel)) hD
  have hIS_57 : oInv S_57 := by rw [eS_57]; exact oInv.ret (c := 6) hIS_48 t_58 (by decide +kernel) (fun i hi => by rcases nn_6 hi with rfl <;> first | exact ⟨_, pk_49⟩) (fun i p hp => (ct_no hp (by decide +kernel) (by decide +kernel) (by decide +kernel)).elim) (fun h => absurd h (by decide +kernel)) (fun h => absurd h (by decide +kernel)) (fun h => absurd h (by decide +kernel))
  have XS_57 : oXc ([] : List Nat) o Z S_57 := by rw [eS_57]; exact oXc.K X_55
  have tS_57 : oty S_57 o 6 := by rw [eS_57]; exact K_ty t_58.1
  have pk_59 : oP S_57 o 4 = some q_1 := by rw [eS_57]; exact pk_49
  have ik_60 : oI S_57 o 0 = x1 := by rw [eS_57]; exact ik_50
  have ik_61 : oI S_57 o 1 = x2 := by rw [eS_57]; exact ik_51
  have ik_62 : oI S_57 o 2 = x3 := by rw [eS_57]; exact ik_52
  have ik_63 : oI S_57 o 3 = x4 := by rw [eS_57]; exact ik_53
  have ik_64 : oI S_57 o 5 = x1 := by rw [eS_57]; exact pk_56
  have zf_65 : oI S_57 q_1 = fun _ => 0 := by rw [eS_57]; exact zf_54
  exact W.vret hx hb hr (fun t ht hW => ⟨⟨S_57, rfl, ⟨hIS_57, XS_57, ⟨tS_57, ⟨⟨ik_60, ik_61, ik_62, ik_63⟩, q_1, pk_59, nzq_1, zf_65⟩⟩⟩, ⟨by rw [ht]; exact hP, va_K.moved hW.alike hK, hD⟩⟩, hS.F ht⟩) hS.2.2 dX6_init_37
set_option maxHeartbeats 4000000 in
set_option maxRecDepth 100000 in
theorem c_X10_man_g (l : Launch) (dC : Nat → ClassId) (dI : Nat → Nat → Nat) (sz : Nat) (cq : Nat → ClassId) (Z : oS) (gI : oInv Z) (o : Nat) (to : oty Z o 10) (x1 : Int32) (x2 : Int32) (x3 : Int32) : Met l yX10_man wsX10_man ({ frames := 3, cells := 2, slots := 10, locals := 68 }) (va_Pc [.ref o, .int x1, .int x2, .int x3] (pcW (dC, dI) (oT cq) (oW cq Z) sz)) (va_Qi (fun (r : Int32) (u : oS) => oInv u ∧ oX [605, 1002, 2014, 2107] Z u ∧ (gmn (oI Z o 0).toInt (oI Z o 2).toInt x1.toInt x2.toInt x3.toInt r.toInt (oI u o 2).toInt ∧ (0 ≤ r.toInt → mnO Z o x1 x2 x3 u) ∧ (r.toInt < 0 → oX [2107] Z u))) (fun u t => va_P (dC, dI) vwCl (oW cq u) t.heap ∧ va_K (dC, dI) vwCl (oT cq) t ∧ va_D (va_A (oW cq Z) sz) (oW cq u)) (va_A (oW cq Z) sz)) 2 10 (va_A (oW cq Z) sz) := by
  refine Met.ofW (cc := cX10_man) (maxL := 4) (ret := (some .int)) (by decide +kernel) rfl ?_
  intro p e s m args below meth c s₁ B hml hv
  obtain ⟨rfl, hsz, hP, hK, hD0⟩ := hv
  have hx := B.exec
  have hb := B.bytes
  have hr := B.returns
  have hts := atoms_spec (ws := wsX10_man) B.pre
  have hown : s.vm.findClass RX10 = some m.cls := findClass_of_methodNamed B.named
  have hlocks := B.notSynchronized
  subst hsz
  have hD := hD0.self (sz := s.heap.size)
  generalize hAe : va_A (oW cq Z) s.heap.size = A at hD ⊢
  have hA : ∀ q : Nat, s.heap.size ≤ q → A q := fun q h => by rw [← hAe]; exact Or.inr h
  have hS : va_S A s.heap s.heap [] := va_S.rf
  have hP : va_P (dC, dI) vwCl (oW cq Z) s.heap := hP
  have hl := lv_entry ([.ref o, .int x1, .int x2, .int x3]) (n := 4) (Nat.le_of_ble_eq_true rfl)
  rw [lg_entry_eq]
  generalize (lg_sl ([.ref o, .int x1, .int x2, .int x3]) ++ List.replicate (4 - (lg_sl ([.ref o, .int x1, .int x2, .int x3])).length) Slot.unset).toArray = ls at hl ⊢
  have hl : lv_has ls 4 [(0, .ref o), (1, .int x1), (2, .int x2), (3, .int x3)] := hl
  refine lv_iload_n hx hb dX10_man_0 rfl (lv_at hl 1 rfl) ?_
  refine lv_if_lt (tgt := 15) hx hb dX10_man_1 (by decide +kernel) (fun c_1 => ?_) (fun c_1 => ?_)
  · have dc_1 := c_lt (a := x1.toInt) (b := 0) rfl (by decide +kernel) c_1
    refine lv_aload_n hx hb dX10_man_15 rfl (lv_at hl 0 rfl) ?_
    refine lv_bipush (v := (-4)) hx hb dX10_man_16 (by decide +kernel) ?_
    have hFc := o_free hD hS hA
    obtain ⟨q_2, hq_2⟩ := og (cq := cq) to.1 (oE_10 to.2)
    refine va_calli (va_runV (As := [.int (-4)]) (rest := []) ⟨hx, hb, hml, hown, hts⟩ (c_X10_refuse_c l dC dI s.heap.size cq Z gI o to (-4) (by decide +kernel)) (cwV 1 hts gX10_man_X10_refuse rfl rfl rfl (by decide +kernel) ⟨(Nat.le_of_ble_eq_true rfl), (Nat.le_of_ble_eq_true rfl)⟩) (pr_V (r := (RX10, TX10, 16)) hP hK hD q_2 10 rfl hq_2) rfl rfl hl.1 rfl (lv_room (Nat.le_of_ble_eq_true rfl)) dX10_man_18 ⟨(Nat.le_of_ble_eq_true rfl), (Nat.le_of_ble_eq_true rfl)⟩) hS (fun q _ h => hFc q h) hFc (fun r_4 u t H locs ht hvm w_3 hB hz1 hk1 hS => ?_)
    obtain ⟨S_5, rfl⟩ : ∃ z, z = u := ⟨_, rfl⟩
    obtain ⟨hP1, hK1, hD1⟩ := hB
    rw [ht] at hP1
    have hP : va_P (dC, dI) vwCl (oW cq S_5) H := hP1
    have hD : va_D A (oW cq S_5) := hD1.weaken (fun _ _ _ h => hFc _ h)
    clear hP1 hK1 hD1 hk1 hz1 hvm ht hFc
    obtain ⟨hIS_5, XS_5, hb_6, hx_7⟩ := w_3
    have X_8 : oX [605, 1002, 2014, 2107] Z S_5 := oX.st oX.rf XS_5 (by decide +kernel)
    have g_9 : (oI S_5 o 0).toInt = (oI Z o 0).toInt := by rw [oX.i XS_5 to (by decide +kernel)]
    have g_10 : (oI S_5 o 2).toInt = (oI Z o 2).toInt := by rw [oX.i XS_5 to (by decide +kernel)]
    have rf_11 : r_4.toInt = -4 := by rw [hx_7.1]; decide
    refine W.widen (k := 2) (n := 10) (Nat.le_of_ble_eq_true rfl) (Nat.le_of_ble_eq_true rfl) ?_
    exact W.iret (v := r_4) hx hb hr (fun t ht hW => ⟨⟨r_4, S_5, rfl, ⟨hIS_5, X_8, ⟨by unfold gmn; omega, fun h => by exfalso; omega, fun _ => (oX.st oX.rf XS_5 (by decide +kernel))⟩⟩, ⟨by rw [ht]; exact hP, va_K.moved hW.alike hK, hD⟩⟩, hS.F ht⟩) hS.2.2 dX10_man_21
  · have dc_1 := c_nlt (a := x1.toInt) (b := 0) rfl (by decide +kernel) c_1
    refine lv_iload_n hx hb dX10_man_4 rfl (lv_at hl 2 rfl) ?_
    refine lv_if_lt (tgt := 15) hx hb dX10_man_5 (by decide +kernel) (fun c_12 => ?_) (fun c_12 => ?_)
    · have dc_12 := c_lt (a := x2.toInt) (b := 0) rfl (by decide +kernel) c_12
      refine lv_aload_n hx hb dX10_man_15 rfl (lv_at hl 0 rfl) ?_
      refine lv_bipush (v := (-4)) hx hb dX10_man_16 (by decide +kernel) ?_
      have hFc := o_free hD hS hA
      obtain ⟨q_13, hq_13⟩ := og (cq := cq) to.1 (oE_10 to.2)
      refine va_calli (va_runV (As := [.int (-4)]) (rest := []) ⟨hx, hb, hml, hown, hts⟩ (c_X10_refuse_c l dC dI s.heap.size cq Z gI o to (-4) (by decide +kernel)) (cwV 1 hts gX10_man_X10_refuse rfl rfl rfl (by decide +kernel) ⟨(Nat.le_of_ble_eq_true rfl), (Nat.le_of_ble_eq_true rfl)⟩) (pr_V (r := (RX10, TX10, 16)) hP hK hD q_13 10 rfl hq_13) rfl rfl hl.1 rfl (lv_room (Nat.le_of_ble_eq_true rfl)) dX10_man_18 ⟨(Nat.le_of_ble_eq_true rfl), (Nat.le_of_ble_eq_true rfl)⟩) hS (fun q _ h => hFc q h) hFc (fun r_15 u t H locs ht hvm w_14 hB hz1 hk1 hS => ?_)
      obtain ⟨S_16, rfl⟩ : ∃ z, z = u := ⟨_, rfl⟩
      obtain ⟨hP1, hK1, hD1⟩ := hB
      rw [ht] at hP1
      have hP : va_P (dC, dI) vwCl (oW cq S_16) H := hP1
      have hD : va_D A (oW cq S_16) := hD1.weaken (fun _ _ _ h => hFc _ h)
      clear hP1 hK1 hD1 hk1 hz1 hvm ht hFc
      obtain ⟨hIS_16, XS_16, hb_17, hx_18⟩ := w_14
      have X_19 : oX [605, 1002, 2014, 2107] Z S_16 := oX.st oX.rf XS_16 (by decide +kernel)
      have g_20 : (oI S_16 o 0).toInt = (oI Z o 0).toInt := by rw [oX.i XS_16 to (by decide +kernel)]
      have g_21 : (oI S_16 o 2).toInt = (oI Z o 2).toInt := by rw [oX.i XS_16 to (by decide +kernel)]
      have rf_22 : r_15.toInt = -4 := by rw [hx_18.1]; decide
      refine W.widen (k := 2) (n := 10) (Nat.le_of_ble_eq_true rfl) (Nat.le_of_ble_eq_true rfl) ?_
      exact W.iret (v := r_15) hx hb hr (fun t ht hW => ⟨⟨r_15, S_16, rfl, ⟨hIS_16, X_19, ⟨by unfold gmn; omega, fun h => by exfalso; omega, fun _ => (oX.st oX.rf XS_16 (by decide +kernel))⟩⟩, ⟨by rw [ht]; exact hP, va_K.moved hW.alike hK, hD⟩⟩, hS.F ht⟩) hS.2.2 dX10_man_21
    · have dc_12 := c_nlt (a := x2.toInt) (b := 0) rfl (by decide +kernel) c_12
      refine lv_iload_n hx hb dX10_man_8 rfl (lv_at hl 3 rfl) ?_
      refine lv_sipush (v := (-30000)) hx hb dX10_man_9 (by decide +kernel) ?_
      refine lv_icmp_ge (tgt := 22) hx hb dX10_man_12 (by decide +kernel) (fun c_23 => ?_) (fun c_23 => ?_)
      · have dc_23 := c_le (a := (-30000)) (b := x3.toInt) (by decide +kernel) rfl c_23
        refine lv_iload_n hx hb dX10_man_22 rfl (lv_at hl 1 rfl) ?_
        refine lv_sipush (v := 9999) hx hb dX10_man_23 (by decide +kernel) ?_
        refine lv_icmp_gt (tgt := 52) hx hb dX10_man_26 (by decide +kernel) (fun c_24 => ?_) (fun c_24 => ?_)
        · have dc_24 := c_lt (a := 9999) (b := x1.toInt) (by decide +kernel) rfl c_24
          refine lv_aload_n hx hb dX10_man_52 rfl (lv_at hl 0 rfl) ?_
          refine lv_bipush (v := (-6)) hx hb dX10_man_53 (by decide +kernel) ?_
          have hFc := o_free hD hS hA
          obtain ⟨q_25, hq_25⟩ := og (cq := cq) to.1 (oE_10 to.2)
          refine va_calli (va_runV (As := [.int (-6)]) (rest := []) ⟨hx, hb, hml, hown, hts⟩ (c_X10_refuse_c l dC dI s.heap.size cq Z gI o to (-6) (by decide +kernel)) (cwV 1 hts gX10_man_X10_refuse rfl rfl rfl (by decide +kernel) ⟨(Nat.le_of_ble_eq_true rfl), (Nat.le_of_ble_eq_true rfl)⟩) (pr_V (r := (RX10, TX10, 16)) hP hK hD q_25 10 rfl hq_25) rfl rfl hl.1 rfl (lv_room (Nat.le_of_ble_eq_true rfl)) dX10_man_55 ⟨(Nat.le_of_ble_eq_true rfl), (Nat.le_of_ble_eq_true rfl)⟩) hS (fun q _ h => hFc q h) hFc (fun r_27 u t H locs ht hvm w_26 hB hz1 hk1 hS => ?_)
          obtain ⟨S_28, rfl⟩ : ∃ z, z = u := ⟨_, rfl⟩
          obtain ⟨hP1, hK1, hD1⟩ := hB
          rw [ht] at hP1
          have hP : va_P (dC, dI) vwCl (oW cq S_28) H := hP1
          have hD : va_D A (oW cq S_28) := hD1.weaken (fun _ _ _ h => hFc _ h)
          clear hP1 hK1 hD1 hk1 hz1 hvm ht hFc
          obtain ⟨hIS_28, XS_28, hb_29, hx_30⟩ := w_26
          have X_31 : oX [605, 1002, 2014, 2107] Z S_28 := oX.st oX.rf XS_28 (by decide +kernel)
          have g_32 : (oI S_28 o 0).toInt = (oI Z o 0).toInt := by rw [oX.i XS_28 to (by decide +kernel)]
          have g_33 : (oI S_28 o 2).toInt = (oI Z o 2).toInt := by rw [oX.i XS_28 to (by decide +kernel)]
          have rf_34 : r_27.toInt = -6 := by rw [hx_30.1]; decide
          refine W.widen (k := 2) (n := 10) (Nat.le_of_ble_eq_true rfl) (Nat.le_of_ble_eq_true rfl) ?_
          exact W.iret (v := r_27) hx hb hr (fun t ht hW => ⟨⟨r_27, S_28, rfl, ⟨hIS_28, X_31, ⟨by unfold gmn; omega, fun h => by exfalso; omega, fun _ => (oX.st oX.rf XS_28 (by decide +kernel))⟩⟩, ⟨by rw [ht]; exact hP, va_K.moved hW.alike hK, hD⟩⟩, hS.F ht⟩) hS.2.2 dX10_man_58
        · have dc_24 := c_nlt (a := 9999) (b := x1.toInt) (by decide +kernel) rfl c_24
          refine lv_iload_n hx hb dX10_man_29 rfl (lv_at hl 2 rfl) ?_
          refine lv_ldc (v := 99999) hx hb hown (hts (.constant RX10 85 (99999)) (by decide +kernel)) dX10_man_30 ?_
          refine lv_icmp_gt (tgt := 52) hx hb dX10_man_32 (by decide +kernel) (fun c_35 => ?_) (fun c_35 => ?_)
          · have dc_35 := c_lt (a := 99999) (b := x2.toInt) (by decide +kernel) rfl c_35
            refine lv_aload_n hx hb dX10_man_52 rfl (lv_at hl 0 rfl) ?_
            refine lv_bipush (v := (-6)) hx hb dX10_man_53 (by decide +kernel) ?_
            have hFc := o_free hD hS hA
            obtain ⟨q_36, hq_36⟩ := og (cq := cq) to.1 (oE_10 to.2)
            refine va_calli (va_runV (As := [.int (-6)]) (rest := []) ⟨hx, hb, hml, hown, hts⟩ (c_X10_refuse_c l dC dI s.heap.size cq Z gI o to (-6) (by decide +kernel)) (cwV 1 hts gX10_man_X10_refuse rfl rfl rfl (by decide +kernel) ⟨(Nat.le_of_ble_eq_true rfl), (Nat.le_of_ble_eq_true rfl)⟩) (pr_V (r := (RX10, TX10, 16)) hP hK hD q_36 10 rfl hq_36) rfl rfl hl.1 rfl (lv_room (Nat.le_of_ble_eq_true rfl)) dX10_man_55 ⟨(Nat.le_of_ble_eq_true rfl), (Nat.le_of_ble_eq_true rfl)⟩) hS (fun q _ h => hFc q h) hFc (fun r_38 u t H locs ht hvm w_37 hB hz1 hk1 hS => ?_)
            obtain ⟨S_39, rfl⟩ : ∃ z, z = u := ⟨_, rfl⟩
            obtain ⟨hP1, hK1, hD1⟩ := hB
            rw [ht] at hP1
            have hP : va_P (dC, dI) vwCl (oW cq S_39) H := hP1
            have hD : va_D A (oW cq S_39) := hD1.weaken (fun _ _ _ h => hFc _ h)
            clear hP1 hK1 hD1 hk1 hz1 hvm ht hFc
            obtain ⟨hIS_39, XS_39, hb_40, hx_41⟩ := w_37
            have X_42 : oX [605, 1002, 2014, 2107] Z S_39 := oX.st oX.rf XS_39 (by decide +kernel)
            have g_43 : (oI S_39 o 0).toInt = (oI Z o 0).toInt := by rw [oX.i XS_39 to (by decide +kernel)]
            have g_44 : (oI S_39 o 2).toInt = (oI Z o 2).toInt := by rw [oX.i XS_39 to (by decide +kernel)]
            have rf_45 : r_38.toInt = -6 := by rw [hx_41.1]; decide
            refine W.widen (k := 2) (n := 10) (Nat.le_of_ble_eq_true rfl) (Nat.le_of_ble_eq_true rfl) ?_
            exact W.iret (v := r_38) hx hb hr (fun t ht hW => ⟨⟨r_38, S_39, rfl, ⟨hIS_39, X_42, ⟨by unfold gmn; omega, fun h => by exfalso; omega, fun _ => (oX.st oX.rf XS_39 (by decide +kernel))⟩⟩, ⟨by rw [ht]; exact hP, va_K.moved hW.alike hK, hD⟩⟩, hS.F ht⟩) hS.2.2 dX10_man_58
          · have dc_35 := c_nlt (a := 99999) (b := x2.toInt) (by decide +kernel) rfl c_35
            refine lv_iload_n hx hb dX10_man_35 rfl (lv_at hl 3 rfl) ?_
            refine lv_aload_n hx hb dX10_man_36 rfl (lv_at hl 0 rfl) ?_
            obtain ⟨q_46, hq_46⟩ := og (cq := cq) to.1 (oE_10 to.2)
            refine va_get (D := (dC, dI)) (ci := 10) (v := .int (oI Z o 0)) (C := RX10) (T := TX10) (N := 16) hx hb hts in_wsX10_man_X10 hown hK hP q_46 hq_46 rfl 0 (by decide +kernel) (hts (.fieldLink RX10 73 "ShipOffice" "now" "I") iw_X10_man_1) (fun _ h9 => h9) rfl dX10_man_37 ?_
            refine lv_topi (fun x_47 ex_47 => ?_)
            have hx_47 : 0 ≤ x_47.toInt ∧ x_47.toInt ≤ 3000 := iv_of ex_47 (oInv.iv gI to.2 rfl rfl)
            have gx_47 : x_47.toInt = (oI Z o 0).toInt := iv_to ex_47
            clear ex_47
            refine lv_icmp_gt (tgt := 52) hx hb dX10_man_40 (by decide +kernel) (fun c_48 => ?_) (fun c_48 => ?_)
            · have dc_48 := c_lt (a := x_47.toInt) (b := x3.toInt) rfl rfl c_48
              refine lv_aload_n hx hb dX10_man_52 rfl (lv_at hl 0 rfl) ?_
              refine lv_bipush (v := (-6)) hx hb dX10_man_53 (by decide +kernel) ?_
              have hFc := o_free hD hS hA
              refine va_calli (va_runV (As := [.int (-6)]) (rest := []) ⟨hx, hb, hml, hown, hts⟩ (c_X10_refuse_c l dC dI s.heap.size cq Z gI o to (-6) (by decide +kernel)) (cwV 1 hts gX10_man_X10_refuse rfl rfl rfl (by decide +kernel) ⟨(Nat.le_of_ble_eq_true rfl), (Nat.le_of_ble_eq_true rfl)⟩) (pr_V (r := (RX10, TX10, 16)) hP hK hD q_46 10 rfl hq_46) rfl rfl hl.1 rfl (lv_room (Nat.le_of_ble_eq_true rfl)) dX10_man_55 ⟨(Nat.le_of_ble_eq_true rfl), (Nat.le_of_ble_eq_true rfl)⟩) hS (fun q _ h => hFc q h) hFc (fun r_50 u t H locs ht hvm w_49 hB hz1 hk1 hS => ?_)
              obtain ⟨S_51, rfl⟩ : ∃ z, z = u := ⟨_, rfl⟩
              obtain ⟨hP1, hK1, hD1⟩ := hB
              rw [ht] at hP1
              have hP : va_P (dC, dI) vwCl (oW cq S_51) H := hP1
              have hD : va_D A (oW cq S_51) := hD1.weaken (fun _ _ _ h => hFc _ h)
              clear hP1 hK1 hD1 hk1 hz1 hvm ht hFc
              obtain ⟨hIS_51, XS_51, hb_52, hx_53⟩ := w_49
              have X_54 : oX [605, 1002, 2014, 2107] Z S_51 := oX.st oX.rf XS_51 (by decide +kernel)
              have g_55 : (oI S_51 o 0).toInt = (oI Z o 0).toInt := by rw [oX.i XS_51 to (by decide +kernel)]
              have g_56 : (oI S_51 o 2).toInt = (oI Z o 2).toInt := by rw [oX.i XS_51 to (by decide +kernel)]
              have rf_57 : r_50.toInt = -6 := by rw [hx_53.1]; decide
              refine W.widen (k := 2) (n := 10) (Nat.le_of_ble_eq_true rfl) (Nat.le_of_ble_eq_true rfl) ?_
              exact W.iret (v := r_50) hx hb hr (fun t ht hW => ⟨⟨r_50, S_51, rfl, ⟨hIS_51, X_54, ⟨by unfold gmn; omega, fun h => by exfalso; omega, fun _ => (oX.st oX.rf XS_51 (by decide +kernel))⟩⟩, ⟨by rw [ht]; exact hP, va_K.moved hW.alike hK, hD⟩⟩, hS.F ht⟩) hS.2.2 dX10_man_58
            · have dc_48 := c_nlt (a := x_47.toInt) (b := x3.toInt) rfl rfl c_48
              refine lv_aload_n hx hb dX10_man_43 rfl (lv_at hl 0 rfl) ?_
              refine va_get (D := (dC, dI)) (ci := 10) (v := .int (oI Z o 2)) (C := RX10) (T := TX10) (N := 16) hx hb hts in_wsX10_man_X10 hown hK hP q_46 hq_46 rfl 2 (by decide +kernel) (hts (.fieldLink RX10 86 "ShipOffice" "manCount" "I") iw_X10_man_2) (fun _ h9 => h9) rfl dX10_man_44 ?_
              refine lv_topi (fun x_58 ex_58 => ?_)
              have hx_58 : 0 ≤ x_58.toInt ∧ x_58.toInt ≤ 40 := iv_of ex_58 (oInv.iv gI to.2 rfl rfl)
              have gx_58 : x_58.toInt = (oI Z o 2).toInt := iv_to ex_58
              clear ex_58
              refine lv_bipush (v := 40) hx hb dX10_man_47 (by decide +kernel) ?_
              refine lv_icmp_lt (tgt := 59) hx hb dX10_man_49 (by decide +kernel) (fun c_59 => ?_) (fun c_59 => ?_)
              · have dc_59 := c_lt (a := x_58.toInt) (b := 40) rfl (by decide +kernel) c_59
                refine lv_aload_n hx hb dX10_man_59 rfl (lv_at hl 0 rfl) ?_
                obtain ⟨b_60, hb_60⟩ := oInv.nn (i := 1) gI to rfl
                refine va_get (D := (dC, dI)) (ci := 10) (v := .ref b_60) (C := RX10) (T := TX10) (N := 16) hx hb hts in_wsX10_man_X10 hown hK hP q_46 hq_46 rfl 1 (by decide +kernel) (hts (.fieldLink RX10 11 "ShipOffice" "men" "[LShipOffice$Man;") iw_X10_man_3) (fun _ h9 => h9) (o_rd hb_60) dX10_man_60 ?_
                have tb_60 : oty Z b_60 14 := oInv.rd gI to.2 hb_60 rfl rfl
                refine lv_aload_n hx hb dX10_man_63 rfl (lv_at hl 0 rfl) ?_
                refine va_get (D := (dC, dI)) (ci := 10) (v := .int (oI Z o 2)) (C := RX10) (T := TX10) (N := 16) hx hb hts in_wsX10_man_X10 hown hK hP q_46 hq_46 rfl 2 (by decide +kernel) (hts (.fieldLink RX10 86 "ShipOffice" "manCount" "I") iw_X10_man_2) (fun _ h9 => h9) rfl dX10_man_64 ?_
                refine lv_topi (fun x_61 ex_61 => ?_)
                have hx_61 : 0 ≤ x_61.toInt ∧ x_61.toInt ≤ 40 := iv_of ex_61 (oInv.iv gI to.2 rfl rfl)
                have gx_61 : x_61.toInt = (oI Z o 2).toInt := iv_to ex_61
                clear ex_61
                refine va_new (ci := 6) (fs := [.int 0, .int 0, .int 0, .int 0, .null, .int 0]) (C := RX6) (T := TX6) (N := 6) hx hb hts in_wsX10_man_X6 tyX6 tyX6_ok hown (hts (.classLink RX10 9 RX6) iw_X10_man_4) (hts (.instantiable RX6 6) iw_X10_man_5) (hts (.initialized RX6) iw_X10_man_6) hK hP hD hS hA rfl (fun j hj => by rcases (show j = 0 ∨ j = 1 ∨ j = 2 ∨ j = 3 ∨ j = 4 ∨ j = 5 by omega) with rfl | rfl | rfl | rfl | rfl | rfl <;> rfl) (Nat.le_of_ble_eq_true rfl) (Nat.le_of_ble_eq_true rfl) dX10_man_67 (fun q_62 H hP1 hD1 hS => ?_)
                have hnq_62 := add_q hD1
                obtain ⟨S_63, eS_63⟩ : ∃ zq, zq = addO Z q_62 36 := ⟨_, rfl⟩
                have hP : va_P (dC, dI) vwCl (oW cq S_63) H := by rw [eS_63]; exact cP (onew hD1 (by rw [oE_36 add_K, add_I, add_P]; rfl)) hP1
                have hD : va_D A (oW cq S_63) := by rw [eS_63]; exact cD (onew hD1 (by rw [oE_36 add_K, add_I, add_P]; rfl)) hD1
                clear hP1 hD1
                have hIS_63 : oInv S_63 := by rw [eS_63]; exact oInv.add gI hnq_62 (by decide +kernel)
                have XS_63 : oX [] Z S_63 := by rw [eS_63]; exact oX.add hnq_62
                have nzq_62 : q_62 ∉ oL Z := hnq_62
                have pk_64 : oP S_63 o 1 = some b_60 := by rw [eS_63, add_Pn hnq_62 to.1]; exact hb_60
                have sr_65 : oP S_63 o 1 = some b_60 := by rw [eS_63, add_Pn hnq_62 to.1]; exact hb_60
                have rf_66 : oP S_63 b_60 = oP Z b_60 := by rw [eS_63, add_Pf hnq_62 tb_60.1] <;> exact rfl
                have g_67 : (oI S_63 o 0).toInt = (oI Z o 0).toInt := by rw [eS_63, add_In hnq_62 to.1]
                have g_68 : (oI S_63 o 2).toInt = (oI Z o 2).toInt := by rw [eS_63, add_In hnq_62 to.1]
                have X_69 : oX [605, 1002, 2014, 2107] Z S_63 := oX.st oX.rf XS_63 (by decide +kernel)
                have tq_62 : oty S_63 q_62 36 := by rw [eS_63]; exact add_ty
                refine W.widen (k := 1) (n := 6) (Nat.le_of_ble_eq_true rfl) (Nat.le_of_ble_eq_true rfl) ?_
                refine lv_dup hx hb dX10_man_70 rfl ?_
                refine lv_aload_n hx hb dX10_man_71 rfl (lv_at hl 0 rfl) ?_
                have t_70 : oty S_63 o 10 := (oX.ty XS_63 to)
                obtain ⟨q_71, hq_71⟩ := og (cq := cq) t_70.1 (oE_10 t_70.2)
                refine va_get (D := (dC, dI)) (ci := 10) (v := .int (oI S_63 o 2)) (C := RX10) (T := TX10) (N := 16) hx hb hts in_wsX10_man_X10 hown hK hP q_71 hq_71 rfl 2 (by decide +kernel) (hts (.fieldLink RX10 86 "ShipOffice" "manCount" "I") iw_X10_man_2) (fun _ h9 => h9) rfl dX10_man_72 ?_
                refine lv_topi (fun x_72 ex_72 => ?_)
                have hx_72 : 0 ≤ x_72.toInt ∧ x_72.toInt ≤ 40 := iv_of ex_72 (oInv.iv hIS_63 t_70.2 rfl rfl)
                have gx_72 : x_72.toInt = (oI S_63 o 2).toInt := iv_to ex_72
                clear ex_72
                refine lv_iload_n hx hb dX10_man_75 rfl (lv_at hl 1 rfl) ?_
                refine lv_iload_n hx hb dX10_man_76 rfl (lv_at hl 2 rfl) ?_
                refine lv_iload_n hx hb dX10_man_77 rfl (lv_at hl 3 rfl) ?_
                have hFc := o_free hD hS hA
                refine va_callv (va_runI (As := [.int x_72, .int x1, .int x2, .int x3]) (rest := [.ref q_62, .int x_61, .ref b_60]) ⟨hx, hb, hml, hown, hts⟩ (c_X6_init_c l dC dI H.size cq S_63 hIS_63 q_62 tq_62 x_72 x1 x2 x3) (cwI 4 hts gX10_man_X6_init rfl rfl rfl (hts (.initialized RX6) iw_X10_man_6) (hts (.methodLink RX10 89 yX6_init) iw_X10_man_7) (hts (.instanceMethod yX6_init) iw_X10_man_8) rfl (by decide +kernel) ⟨(Nat.le_of_ble_eq_true rfl), (Nat.le_of_ble_eq_true rfl)⟩) (pr_S hP hK hD) rfl rfl hl.1 rfl (lv_room (Nat.le_of_ble_eq_true rfl)) dX10_man_78 ⟨(Nat.le_of_ble_eq_true rfl), (Nat.le_of_ble_eq_true rfl)⟩) hS (fun q _ h => hFc q h) hFc (fun u t H locs ht hvm w_73 hB hz1 hk1 hS => ?_)
                obtain ⟨S_75, rfl⟩ : ∃ z, z = u := ⟨_, rfl⟩
                obtain ⟨hP1, hK1, hD1⟩ := hB
                rw [ht] at hP1
                have hP : va_P (dC, dI) vwCl (oW cq S_75) H := hP1
                have hD : va_D A (oW cq S_75) := hD1.weaken (fun _ _ _ h => hFc _ h)
                clear hP1 hK1 hD1 hk1 hz1 hvm ht hFc
                refine W.widen (k := 2) (n := 10) (Nat.le_of_ble_eq_true rfl) (Nat.le_of_ble_eq_true rfl) ?_
                obtain ⟨hIS_75, XS_75, hx_76⟩ := w_73
                obtain ⟨hxS_75, hcS_75⟩ := hx_76
                have X_77 : oX [605, 1002, 2014, 2107] Z S_75 := oX.c X_69 XS_75 nzq_62 (by decide +kernel)
                have sr_78 : oP S_75 o 1 = some b_60 := by rw [oXc.p XS_75 (ty_ne t_70 tq_62 (by decide +kernel)) t_70 (by decide +kernel)]; exact sr_65
                have g_79 : (oI S_75 o 0).toInt = (oI S_63 o 0).toInt := by rw [oXc.i XS_75 (ty_ne t_70 tq_62 (by decide +kernel)) t_70 (by decide +kernel)]
                have g_80 : (oI S_75 o 2).toInt = (oI S_63 o 2).toInt := by rw [oXc.i XS_75 (ty_ne t_70 tq_62 (by decide +kernel)) t_70 (by decide +kernel)]
                have pk_81 : oP S_75 o 1 = some b_60 := by rw [oXc.p XS_75 (ty_ne t_70 tq_62 (by decide +kernel)) t_70 (by decide +kernel)]; exact pk_64
                have rf_82 : oP S_75 b_60 = oP Z b_60 := by rw [oXc.fp XS_75 (ty_ne (oX.ty XS_63 tb_60) tq_62 (by decide +kernel)) (oX.ty XS_63 tb_60) (fun _ => nkw (by decide +kernel) (by decide +kernel) (by decide +kernel))]; exact rf_66
                obtain ⟨⟨i0q_62, i1q_62, i2q_62, i3q_62⟩, hcwq_62⟩ := hcS_75
                obtain ⟨b_83, hb_83, hnb_83, hfb_83⟩ := hcwq_62
                have tb_83 : oty S_75 b_83 104 := oInv.rd hIS_75 hxS_75.2 hb_83 rfl rfl
                have nzb_83 : b_83 ∉ oL Z := oX.nin X_69 hnb_83
                have t_84 : oty S_75 b_60 14 := (oXc.ty XS_75 (ty_ne (oX.ty XS_63 tb_60) tq_62 (by decide +kernel)) (oX.ty XS_63 tb_60))
                obtain ⟨q_85, hq_85⟩ := og (cq := cq) t_84.1 (oE_14 t_84.2)
                obtain ⟨q_86, hq_86⟩ := og (cq := cq) hxS_75.1 (oE_6 hxS_75.2)
                refine va_astq (r := (RX6, TX6, 6)) hx hb hK hP hD hS q_85 3 q_86 6 hq_85 rfl hq_86 rfl (vp_in_iff.mpr (by omega)) dX10_man_81 (fun H locs hP1 hD1 hS => ?_)
                obtain ⟨S_87, eS_87⟩ : ∃ zq, zq = setP S_75 b_60 (x_61 : Int32).toNatClampNeg (some q_62) := ⟨_, rfl⟩
                have hP : va_P (dC, dI) vwCl (oW cq S_87) H := by rw [eS_87]; exact cP (oset t_84.1 hq_85 hD rfl (he_14 t_84.2) neP) hP1
                have hD : va_D A (oW cq S_87) := by rw [eS_87]; exact cD (oset t_84.1 hq_85 hD rfl (he_14 t_84.2) neP) hD1
                clear hP1 hD1
                have hIS_87 : oInv S_87 := by rw [eS_87]; exact oInv.P (k := 14) hIS_75 t_84.2 (by decide +kernel) rfl (fun h => absurd h.1 (by decide +kernel)) hxS_75 (show 6 ≤ 6 ∧ 6 ≤ 6 from ⟨Nat.le_refl _, Nat.le_refl _⟩)
                have XS_87 : oX [2014] S_75 S_87 := by rw [eS_87]; exact oX.P (k := 14) (key := 2014) t_84.2 rfl (List.mem_singleton.mpr rfl)
                have pk_88 : oP S_87 o 1 = some b_60 := by rw [eS_87, setP_oth (ty_ne (oXc.ty XS_75 (ty_ne t_70 tq_62 (by decide +kernel)) t_70) t_84 (by decide +kernel))]; exact pk_81
                have pk_89 : oP S_87 q_62 4 = some b_83 := by rw [eS_87, setP_oth (ty_ne hxS_75 t_84 (by decide +kernel))]; exact hb_83
                have ik_90 : oI S_87 q_62 0 = x_72 := by rw [eS_87]; exact i0q_62
                have ik_91 : oI S_87 q_62 1 = x1 := by rw [eS_87]; exact i1q_62
                have ik_92 : oI S_87 q_62 2 = x2 := by rw [eS_87]; exact i2q_62
                have ik_93 : oI S_87 q_62 3 = x3 := by rw [eS_87]; exact i3q_62
                have zf_94 : oI S_87 b_83 = fun _ => 0 := by rw [eS_87]; exact hfb_83
                have rf_95 : oP S_87 b_60 = va_up (oP Z b_60) (x_61 : Int32).toNatClampNeg (some q_62) := by rw [eS_87, setP_fun, rf_82]
                have X_96 : oX [605, 1002, 2014, 2107] Z S_87 := oX.st X_77 XS_87 (by decide +kernel)
                have g_97 : (oI S_87 o 0).toInt = (oI S_75 o 0).toInt := by rw [eS_87]; rfl
                have g_98 : (oI S_87 o 2).toInt = (oI S_75 o 2).toInt := by rw [eS_87]; rfl
                have helS_87 : oP S_87 b_60 (x_61 : Int32).toNatClampNeg = some q_62 := by rw [eS_87, setP_same]
                have hsrS_87 : oP S_87 o 1 = some b_60 := by rw [eS_87, setP_oth (ty_ne (oXc.ty XS_75 (ty_ne t_70 tq_62 (by decide +kernel)) t_70) t_84 (by decide +kernel))]; exact sr_78
                refine lv_aload_n hx hb dX10_man_82 rfl (lv_at hl 0 rfl) ?_
                refine lv_dup hx hb dX10_man_83 rfl ?_
                have t_99 : oty S_87 o 10 := (oX.ty XS_87 (oXc.ty XS_75 (ty_ne t_70 tq_62 (by decide +kernel)) t_70))
                obtain ⟨q_100, hq_100⟩ := og (cq := cq) t_99.1 (oE_10 t_99.2)
                refine va_get (D := (dC, dI)) (ci := 10) (v := .int (oI S_87 o 2)) (C := RX10) (T := TX10) (N := 16) hx hb hts in_wsX10_man_X10 hown hK hP q_100 hq_100 rfl 2 (by decide +kernel) (hts (.fieldLink RX10 86 "ShipOffice" "manCount" "I") iw_X10_man_2) (fun _ h9 => h9) rfl dX10_man_84 ?_
                refine lv_topi (fun x_101 ex_101 => ?_)
                have hx_101 : 0 ≤ x_101.toInt ∧ x_101.toInt ≤ 40 := iv_of ex_101 (oInv.iv hIS_87 t_99.2 rfl rfl)
                have gx_101 : x_101.toInt = (oI S_87 o 2).toInt := iv_to ex_101
                clear ex_101
                refine lv_iconst (v := 1) hx hb dX10_man_87 (by decide +kernel) ?_
                refine lv_iadd hx hb dX10_man_88 ?_
                refine lv_topi (fun x_102 ex_102 => ?_)
                have hx_102 : x_102.toInt = x_101.toInt + 1 := (iv_to ex_102).trans (ad_i rfl (by decide +kernel) (by omega) (by omega))
                clear ex_102
                refine va_put (D := (dC, dI)) (ci := 10) (v := .int x_102) (ty := .int) (C := RX10) (T := TX10) (N := 16) hx hb hts in_wsX10_man_X10 tyX10 tyX10_ok nmX10 hown hK hP hD hS q_100 hq_100 rfl 2 (by decide +kernel) (hts (.fieldLink RX10 86 "ShipOffice" "manCount" "I") iw_X10_man_2) (fun _ h9 => h9) rfl (by decide +kernel) rfl rfl (Nat.le_of_ble_eq_true rfl) dX10_man_89 (fun H locs hP1 hD1 hS => ?_)
                obtain ⟨S_103, eS_103⟩ : ∃ zq, zq = setI S_87 o 2 x_102 := ⟨_, rfl⟩
                have hP : va_P (dC, dI) vwCl (oW cq S_103) H := by rw [eS_103]; exact cP (oset t_99.1 hq_100 hD rfl (he_10_2 t_99.2) neI) hP1
                have hD : va_D A (oW cq S_103) := by rw [eS_103]; exact cD (oset t_99.1 hq_100 hD rfl (he_10_2 t_99.2) neI) hD1
                clear hP1 hD1
                have hIS_103 : oInv S_103 := by rw [eS_103]; exact oInv.I (k := 10) (lo := 0) (hi := 40) hIS_87 t_99.2 (by decide +kernel) rfl rfl (by omega) (inv_cnt hIS_87 t_99 rfl hsrS_87 (by omega) (by omega) ⟨_, by rw [← cnt_at (x := x_61) (S := S_87) (a := o) (i := 2) (by omega)]; exact helS_87⟩)
                have XS_103 : oX [1002] S_87 S_103 := by rw [eS_103]; exact oX.I (k := 10) (key := 1002) t_99.2 rfl (List.mem_singleton.mpr rfl)
                have pk_104 : oP S_103 o 1 = some b_60 := by rw [eS_103]; exact pk_88
                have pk_105 : oP S_103 q_62 4 = some b_83 := by rw [eS_103]; exact pk_89
                have ik_106 : oI S_103 q_62 0 = x_72 := by rw [eS_103, setI_oth (ty_ne (oX.ty XS_87 hxS_75) t_99 (by decide +kernel))]; exact ik_90
                have ik_107 : oI S_103 q_62 1 = x1 := by rw [eS_103, setI_oth (ty_ne (oX.ty XS_87 hxS_75) t_99 (by decide +kernel))]; exact ik_91
                have ik_108 : oI S_103 q_62 2 = x2 := by rw [eS_103, setI_oth (ty_ne (oX.ty XS_87 hxS_75) t_99 (by decide +kernel))]; exact ik_92
                have ik_109 : oI S_103 q_62 3 = x3 := by rw [eS_103, setI_oth (ty_ne (oX.ty XS_87 hxS_75) t_99 (by decide +kernel))]; exact ik_93
                have zf_110 : oI S_103 b_83 = fun _ => 0 := by rw [eS_103, setI_oth (ty_ne (oX.ty XS_87 tb_83) t_99 (by decide +kernel))]; exact zf_94
                have rf_111 : oP S_103 b_60 = va_up (oP Z b_60) (x_61 : Int32).toNatClampNeg (some q_62) := by rw [eS_103]; exact rf_95
                have X_112 : oX [605, 1002, 2014, 2107] Z S_103 := oX.st X_96 XS_103 (by decide +kernel)
                have g_113 : (oI S_103 o 0).toInt = (oI S_87 o 0).toInt := by rw [eS_103, setI_ne (by decide +kernel)]
                have g_114 : (oI S_103 o 2).toInt = x_102.toInt := by rw [eS_103, setI_same]
                refine lv_aload_n hx hb dX10_man_92 rfl (lv_at hl 0 rfl) ?_
                refine lv_aload_n hx hb dX10_man_93 rfl (lv_at hl 0 rfl) ?_
                have t_115 : oty S_103 o 10 := (oX.ty XS_103 t_99)
                obtain ⟨q_116, hq_116⟩ := og (cq := cq) t_115.1 (oE_10 t_115.2)
                refine va_get (D := (dC, dI)) (ci := 10) (v := .ref b_60) (C := RX10) (T := TX10) (N := 16) hx hb hts in_wsX10_man_X10 hown hK hP q_116 hq_116 rfl 1 (by decide +kernel) (hts (.fieldLink RX10 11 "ShipOffice" "men" "[LShipOffice$Man;") iw_X10_man_3) (fun _ h9 => h9) (o_rd pk_104) dX10_man_94 ?_
                refine lv_aload_n hx hb dX10_man_97 rfl (lv_at hl 0 rfl) ?_
                refine va_get (D := (dC, dI)) (ci := 10) (v := .int (oI S_103 o 2)) (C := RX10) (T := TX10) (N := 16) hx hb hts in_wsX10_man_X10 hown hK hP q_116 hq_116 rfl 2 (by decide +kernel) (hts (.fieldLink RX10 86 "ShipOffice" "manCount" "I") iw_X10_man_2) (fun _ h9 => h9) rfl dX10_man_98 ?_
                refine lv_topi (fun x_117 ex_117 => ?_)
                have hx_117 : 0 ≤ x_117.toInt ∧ x_117.toInt ≤ 40 := iv_of ex_117 (oInv.iv hIS_103 t_115.2 rfl rfl)
                have gx_117 : x_117.toInt = (oI S_103 o 2).toInt := iv_to ex_117
                clear ex_117
                refine lv_iconst (v := 1) hx hb dX10_man_101 (by decide +kernel) ?_
                refine lv_isub hx hb dX10_man_102 ?_
                refine lv_topi (fun x_118 ex_118 => ?_)
                have hx_118 : x_118.toInt = x_117.toInt - 1 := (iv_to ex_118).trans (sb_i rfl (by decide +kernel) (by omega) (by omega))
                clear ex_118
                have t_119 : oty S_103 b_60 14 := (oX.ty XS_103 (oX.ty XS_87 t_84))
                obtain ⟨q_120, hq_120⟩ := og (cq := cq) t_119.1 (oE_14 t_119.2)
                refine va_aldq hx hb hK hP q_120 3 hq_120 rfl (vp_in_iff.mpr (by omega)) dX10_man_103 ?_
                obtain ⟨b_121, hb_121⟩ := oInv.el (i := 2) (x := x_118) hIS_103 t_115 rfl pk_104 (by omega) (by omega)
                refine W.eq (g2 := F0 m 104 ls [.ref b_121, .ref o]) (congrArg (fun z => F0 m 104 ls [va_rf z, .ref o]) hb_121) ?_
                have tb_121 : oty S_103 b_121 6 := oInv.rd hIS_103 t_119.2 hb_121 rfl rfl
                have hFc := o_free hD hS hA
                refine va_callv (va_runV (As := [.ref b_121]) (rest := []) ⟨hx, hb, hml, hown, hts⟩ (c_X10_joinGroups l dC dI H.size cq S_103 hIS_103 o t_115 b_121 tb_121) (cwV 1 hts gX10_man_X10_joinGroups rfl rfl rfl (by decide +kernel) ⟨(Nat.le_of_ble_eq_true rfl), (Nat.le_of_ble_eq_true rfl)⟩) (pr_V (r := (RX10, TX10, 16)) hP hK hD q_116 10 rfl hq_116) rfl rfl hl.1 rfl (lv_room (Nat.le_of_ble_eq_true rfl)) dX10_man_104 ⟨(Nat.le_of_ble_eq_true rfl), (Nat.le_of_ble_eq_true rfl)⟩) hS (fun q _ h => hFc q h) hFc (fun u t H locs ht hvm w_122 hB hz1 hk1 hS => ?_)
                obtain ⟨S_124, rfl⟩ : ∃ z, z = u := ⟨_, rfl⟩
                obtain ⟨hP1, hK1, hD1⟩ := hB
                rw [ht] at hP1
                have hP : va_P (dC, dI) vwCl (oW cq S_124) H := hP1
                have hD : va_D A (oW cq S_124) := hD1.weaken (fun _ _ _ h => hFc _ h)
                clear hP1 hK1 hD1 hk1 hz1 hvm ht hFc
                obtain ⟨hIS_124, XS_124⟩ := w_122
                have X_125 : oX [605, 1002, 2014, 2107] Z S_124 := oX.st X_112 XS_124 (by decide +kernel)
                have rf_126 : oP S_124 b_60 = va_up (oP Z b_60) (x_61 : Int32).toNatClampNeg (some q_62) := by rw [oX.fp XS_124 t_119 (fun _ => nkw (by decide +kernel) (by decide +kernel) (by decide +kernel))]; exact rf_111
                have zf_127 : oI S_124 b_83 = fun _ => 0 := by rw [oX.f XS_124 (oX.ty XS_103 (oX.ty XS_87 tb_83)) (fun _ => nkw (by decide +kernel) (by decide +kernel) (by decide +kernel))]; exact zf_110
                have g_128 : (oI S_124 o 0).toInt = (oI S_103 o 0).toInt := by rw [oX.i XS_124 t_115 (by decide +kernel)]
                have g_129 : (oI S_124 o 2).toInt = (oI S_103 o 2).toInt := by rw [oX.i XS_124 t_115 (by decide +kernel)]
                have pk_130 : oP S_124 o 1 = some b_60 := by rw [oX.p XS_124 t_115 (by decide +kernel)]; exact pk_104
                have pk_131 : oP S_124 q_62 4 = some b_83 := by rw [oX.p XS_124 (oX.ty XS_103 (oX.ty XS_87 hxS_75)) (by decide +kernel)]; exact pk_105
                have ik_132 : oI S_124 q_62 0 = x_72 := by rw [oX.i XS_124 (oX.ty XS_103 (oX.ty XS_87 hxS_75)) (by decide +kernel)]; exact ik_106
                have ik_133 : oI S_124 q_62 1 = x1 := by rw [oX.i XS_124 (oX.ty XS_103 (oX.ty XS_87 hxS_75)) (by decide +kernel)]; exact ik_107
                have ik_134 : oI S_124 q_62 2 = x2 := by rw [oX.i XS_124 (oX.ty XS_103 (oX.ty XS_87 hxS_75)) (by decide +kernel)]; exact ik_108
                have ik_135 : oI S_124 q_62 3 = x3 := by rw [oX.i XS_124 (oX.ty XS_103 (oX.ty XS_87 hxS_75)) (by decide +kernel)]; exact ik_109
                refine lv_aload_n hx hb dX10_man_107 rfl (lv_at hl 0 rfl) ?_
                have t_136 : oty S_124 o 10 := (oX.ty XS_124 t_115)
                obtain ⟨q_137, hq_137⟩ := og (cq := cq) t_136.1 (oE_10 t_136.2)
                refine va_get (D := (dC, dI)) (ci := 10) (v := .int (oI S_124 o 2)) (C := RX10) (T := TX10) (N := 16) hx hb hts in_wsX10_man_X10 hown hK hP q_137 hq_137 rfl 2 (by decide +kernel) (hts (.fieldLink RX10 86 "ShipOffice" "manCount" "I") iw_X10_man_2) (fun _ h9 => h9) rfl dX10_man_108 ?_
                refine lv_topi (fun x_138 ex_138 => ?_)
                have hx_138 : 0 ≤ x_138.toInt ∧ x_138.toInt ≤ 40 := iv_of ex_138 (oInv.iv hIS_124 t_136.2 rfl rfl)
                have gx_138 : x_138.toInt = (oI S_124 o 2).toInt := iv_to ex_138
                clear ex_138
                refine lv_iconst (v := 1) hx hb dX10_man_111 (by decide +kernel) ?_
                refine lv_isub hx hb dX10_man_112 ?_
                refine lv_topi (fun x_139 ex_139 => ?_)
                have hx_139 : x_139.toInt = x_138.toInt - 1 := (iv_to ex_139).trans (sb_i rfl (by decide +kernel) (by omega) (by omega))
                clear ex_139
                exact W.iret (v := x_139) hx hb hr (fun t ht hW => ⟨⟨x_139, S_124, rfl, ⟨hIS_124, X_125, ⟨by unfold gmn; omega, fun _ => ⟨q_62, nzq_62, (oX.ty XS_124 (oX.ty XS_103 (oX.ty XS_87 hxS_75))), ⟨ik_132.trans (Int32.toInt_inj.mp (by omega)), ik_133, ik_134, ik_135⟩, ⟨b_83, pk_131, nzb_83, zf_127⟩, by rw [oQ_e hb_60, rf_126, show x_61 = oI Z o 2 from Int32.toInt_inj.mp (by omega)]⟩, fun h => by exfalso; omega⟩⟩, ⟨by rw [ht]; exact hP, va_K.moved hW.alike hK, hD⟩⟩, hS.F ht⟩) hS.2.2 dX10_man_113
              · have dc_59 := c_nlt (a := x_58.toInt) (b := 40) rfl (by decide +kernel) c_59
                refine lv_aload_n hx hb dX10_man_52 rfl (lv_at hl 0 rfl) ?_
                refine lv_bipush (v := (-6)) hx hb dX10_man_53 (by decide +kernel) ?_
                have hFc := o_free hD hS hA
                refine va_calli (va_runV (As := [.int (-6)]) (rest := []) ⟨hx, hb, hml, hown, hts⟩ (c_X10_refuse_c l dC dI s.heap.size cq Z gI o to (-6) (by decide +kernel)) (cwV 1 hts gX10_man_X10_refuse rfl rfl rfl (by decide +kernel) ⟨(Nat.le_of_ble_eq_true rfl), (Nat.le_of_ble_eq_true rfl)⟩) (pr_V (r := (RX10, TX10, 16)) hP hK hD q_46 10 rfl hq_46) rfl rfl hl.1 rfl (lv_room (Nat.le_of_ble_eq_true rfl)) dX10_man_55 ⟨(Nat.le_of_ble_eq_true rfl), (Nat.le_of_ble_eq_true rfl)⟩) hS (fun q _ h => hFc q h) hFc (fun r_141 u t H locs ht hvm w_140 hB hz1 hk1 hS => ?_)
                obtain ⟨S_142, rfl⟩ : ∃ z, z = u := ⟨_, rfl⟩
                obtain ⟨hP1, hK1, hD1⟩ := hB
                rw [ht] at hP1
                have hP : va_P (dC, dI) vwCl (oW cq S_142) H := hP1
                have hD : va_D A (oW cq S_142) := hD1.weaken (fun _ _ _ h => hFc _ h)
                clear hP1 hK1 hD1 hk1 hz1 hvm ht hFc
                obtain ⟨hIS_142, XS_142, hb_143, hx_144⟩ := w_140
                have X_145 : oX [605, 1002, 2014, 2107] Z S_142 := oX.st oX.rf XS_142 (by decide +kernel)
                have g_146 : (oI S_142 o 0).toInt = (oI Z o 0).toInt := by rw [oX.i XS_142 to (by decide +kernel)]
                have g_147 : (oI S_142 o 2).toInt = (oI Z o 2).toInt := by rw [oX.i XS_142 to (by decide +kernel)]
                have rf_148 : r_141.toInt = -6 := by rw [hx_144.1]; decide
                refine W.widen (k := 2) (n := 10) (Nat.le_of_ble_eq_true rfl) (Nat.le_of_ble_eq_true rfl) ?_
                exact W.iret (v := r_141) hx hb hr (fun t ht hW => ⟨⟨r_141, S_142, rfl, ⟨hIS_142, X_145, ⟨by unfold gmn; omega, fun h => by exfalso; omega, fun _ => (oX.st oX.rf XS_142 (by decide +kernel))⟩⟩, ⟨by rw [ht]; exact hP, va_K.moved hW.alike hK, hD⟩⟩, hS.F ht⟩) hS.2.2 dX10_man_58
      · have dc_23 := c_nle (a := (-30000)) (b := x3.toInt) (by decide +kernel) rfl c_23
        refine lv_aload_n hx hb dX10_man_15 rfl (lv_at hl 0 rfl) ?_
        refine lv_bipush (v := (-4)) hx hb dX10_man_16 (by decide +kernel) ?_
        have hFc := o_free hD hS hA
        obtain ⟨q_149, hq_149⟩ := og (cq := cq) to.1 (oE_10 to.2)
        refine va_calli (va_runV (As := [.int (-4)]) (rest := []) ⟨hx, hb, hml, hown, hts⟩ (c_X10_refuse_c l dC dI s.heap.size cq Z gI o to (-4) (by decide +kernel)) (cwV 1 hts gX10_man_X10_refuse rfl rfl rfl (by decide +kernel) ⟨(Nat.le_of_ble_eq_true rfl), (Nat.le_of_ble_eq_true rfl)⟩) (pr_V (r := (RX10, TX10, 16)) hP hK hD q_149 10 rfl hq_149) rfl rfl hl.1 rfl (lv_room (Nat.le_of_ble_eq_true rfl)) dX10_man_18 ⟨(Nat.le_of_ble_eq_true rfl), (Nat.le_of_ble_eq_true rfl)⟩) hS (fun q _ h => hFc q h) hFc (fun r_151 u t H locs ht hvm w_150 hB hz1 hk1 hS => ?_)
        obtain ⟨S_152, rfl⟩ : ∃ z, z = u := ⟨_, rfl⟩
        obtain ⟨hP1, hK1, hD1⟩ := hB
        rw [ht] at hP1
        have hP : va_P (dC, dI) vwCl (oW cq S_152) H := hP1
        have hD : va_D A (oW cq S_152) := hD1.weaken (fun _ _ _ h => hFc _ h)
        clear hP1 hK1 hD1 hk1 hz1 hvm ht hFc
        obtain ⟨hIS_152, XS_152, hb_153, hx_154⟩ := w_150
        have X_155 : oX [605, 1002, 2014, 2107] Z S_152 := oX.st oX.rf XS_152 (by decide +kernel)
        have g_156 : (oI S_152 o 0).toInt = (oI Z o 0).toInt := by rw [oX.i XS_152 to (by decide +kernel)]
        have g_157 : (oI S_152 o 2).toInt = (oI Z o 2).toInt := by rw [oX.i XS_152 to (by decide +kernel)]
        have rf_158 : r_151.toInt = -4 := by rw [hx_154.1]; decide
        refine W.widen (k := 2) (n := 10) (Nat.le_of_ble_eq_true rfl) (Nat.le_of_ble_eq_true rfl) ?_
        exact W.iret (v := r_151) hx hb hr (fun t ht hW => ⟨⟨r_151, S_152, rfl, ⟨hIS_152, X_155, ⟨by unfold gmn; omega, fun h => by exfalso; omega, fun _ => (oX.st oX.rf XS_152 (by decide +kernel))⟩⟩, ⟨by rw [ht]; exact hP, va_K.moved hW.alike hK, hD⟩⟩, hS.F ht⟩) hS.2.2 dX10_man_21
