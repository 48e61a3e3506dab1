


theorem setK_ty {S : oS} {o c b k : Nat} (n : b ≠ o) (t : oty S b k) : oty (setK S o c) b k := ⟨t.1, (if_neg n).trans t.2⟩
theorem isE_f {S u : oS} {cd : Nat} {E : List Int32} (e : oI u cd = oI S cd) (h : isE S cd E) : isE u cd E := fun j hj => by rw [e]; exact h j hj
/-- an act that is made -/
def acN (u : oS) (q : Nat) (p d : Int32) (E : List Int32) : Prop := (oI u q 0 = p ∧ oI u q 1 = d) ∧ rCd u q E ∧ ∀ x, exE (fun _ => 0) E [] = [x] → oI u q 2 = x
theorem cpy_j {f g : Nat → Int32} {n j : Nat} (h : j < n) : va_cpy f g (0 : Int32).toNatClampNeg (0 : Int32).toNatClampNeg n j = f j := by
  unfold va_cpy
  have e : (0 : Int32).toNatClampNeg = 0 := by decide
  rw [e, if_pos (by omega)]
  congr 1
  omega
set_option maxHeartbeats 4000000 in
set_option maxRecDepth 100000 in
theorem c_X0_init_c (l : Launch) (dC : Nat → ClassId) (dI : Nat → Nat → Nat) (sz : Nat) (tL tS tG : Nat) (cq : Nat → ClassId) (Z : oS) (gI : oInv Z) (o : Nat) (to : oty Z o 30) (x1 : Int32) (x2 : Int32) (n3 : Nat) (hn3 : n3 ≤ 60) (a3 : Nat) (ta3 : oty Z a3 (300 + n3)) (E : List Int32) (hEn : E.length = n3) (hE : isE Z a3 E) : Met l yX0_init wsX0_init ({ frames := 3, cells := 2, slots := 69, locals := 72 }) (va_Pc [.ref o, .int x1, .int x2, .ref a3] (pcO (dC, dI) (oT cq) (oW cq Z) sz tL tS tG (oW cq Z))) (va_Qv (fun (u : oS) => oInv u ∧ oXc [5001] o Z u ∧ (oty u o 0 ∧ acN u o x1 x2 E)) (fun u t => va_P (dC, dI) vwCl (oW cq u) t.heap ∧ va_K (dC, dI) vwCl (oT cq) t ∧ va_D (va_A (oW cq Z) sz) (oW cq u)) (va_A (oW cq Z) sz)) 2 69 (va_A (oW cq Z) sz) := by
  refine Met.ofW (cc := cX0_init) (maxL := 4) (ret := none) (by decide +kernel) rfl ?_
  intro p e s m args below meth c s₁ B hml hv
  obtain ⟨rfl, ⟨hsz, hP, hK, hD0⟩, hZ⟩ := hv
  have hx := B.exec
  have hb := B.bytes
  have hr := B.returns
  have hts := atoms_spec (ws := wsX0_init) B.pre
  have hown : s.vm.findClass RX0 = some m.cls := findClass_of_methodNamed B.named
  have hlocks := B.notSynchronized
  have hin : meth.name = "<init>" := (name_of_methodNamed B.named B.method).1
  subst hsz
  have hD := hD0.self (sz := s.heap.size)
  generalize hAe : va_A (oW cq Z) s.heap.size = A at hD hZ ⊢
  have hA : ∀ q : Nat, s.heap.size ≤ q → A q := fun q h => by rw [← hAe]; exact Or.inr h
  have hS : va_S A s.heap s.heap [] := va_S.rf
  have hP : va_P (dC, dI) vwCl (oW cq Z) s.heap := hP
  have hl := lv_entry ([.ref o, .int x1, .int x2, .ref a3]) (n := 4) (Nat.le_of_ble_eq_true rfl)
  rw [lg_entry_eq]
  generalize (lg_sl ([.ref o, .int x1, .int x2, .ref a3]) ++ List.replicate (4 - (lg_sl ([.ref o, .int x1, .int x2, .ref a3])).length) Slot.unset).toArray = ls at hl ⊢
  have hl : lv_has ls 4 [(0, .ref o), (1, .int x1), (2, .int x2), (3, .ref a3)] := hl
  refine lv_aload_n hx hb dX0_init_0 rfl (lv_at hl 0 rfl) ?_
  refine W.objInit hx hb hown (hts (.methodLink RX0 1 objectInit) iw_X0_init_1) (hts (.instanceMethod objectInit) iw_X0_init_2) (hts (.code objectInit ⟨#[0xb1]⟩ 1 none) (in_obj_wsX0_init)) rfl (by rw [hml]; exact hl.1) rfl dX0_init_1 (Nat.le_of_ble_eq_true rfl) (Nat.le_of_ble_eq_true rfl) ?_
  refine W.eq (g2 := F0 m 4 ls []) rfl ?_
  refine lv_aload_n hx hb dX0_init_4 rfl (lv_at hl 0 rfl) ?_
  refine lv_iload_n hx hb dX0_init_5 rfl (lv_at hl 1 rfl) ?_
  obtain ⟨q_1, hq_1⟩ := og (cq := cq) to.1 (oE_30 to.2)
  refine va_putF (D := (dC, dI)) (ci := 0) (v := .int x1) (ty := .int) (C := RX0) (T := TX0) (N := 5) hx hb hts in_wsX0_init_X0 tyX0 tyX0_ok nmX0 hown hK hP hD hS q_1 hq_1 rfl 0 (by decide +kernel) (hts (.fieldLink RX0 7 "ShipOffice$Act" "purpose" "I") iw_X0_init_3) (fun _ h9 => h9) rfl hin rfl (by decide +kernel) rfl rfl (Nat.le_of_ble_eq_true rfl) dX0_init_6 (fun H locs hP1 hD1 hS => ?_)
  obtain ⟨S_2, eS_2⟩ : ∃ zq, zq = setI Z o 0 x1 := ⟨_, rfl⟩
  have hP : va_P (dC, dI) vwCl (oW cq S_2) H := by rw [eS_2]; exact cP (oset to.1 hq_1 hD rfl (he_30_0 to.2) neI) hP1
  have hD : va_D A (oW cq S_2) := by rw [eS_2]; exact cD (oset to.1 hq_1 hD rfl (he_30_0 to.2) neI) hD1
  clear hP1 hD1
  have hIS_2 : oInv S_2 := by rw [eS_2]; exact oInv.I0 (k := 30) (lo := -2147483648) (hi := 2147483647) gI to.2 (by decide +kernel) rfl rfl rfl (iv_all _)
  have XS_2 : oX [2030] Z S_2 := by rw [eS_2]; exact oX.I (k := 30) (key := 2030) to.2 rfl (List.mem_singleton.mpr rfl)
  have X_3 : oXc [5001] o Z S_2 := by rw [eS_2]; exact oXc.I oXc.rf
  have pk_4 : oI S_2 o 0 = x1 := by rw [eS_2, setI_same]
  refine lv_aload_n hx hb dX0_init_9 rfl (lv_at hl 0 rfl) ?_
  refine lv_iload_n hx hb dX0_init_10 rfl (lv_at hl 2 rfl) ?_
  have t_5 : oty S_2 o 30 := (oX.ty XS_2 to)
  obtain ⟨q_6, hq_6⟩ := og (cq := cq) t_5.1 (oE_30 t_5.2)
  refine va_putF (D := (dC, dI)) (ci := 0) (v := .int x2) (ty := .int) (C := RX0) (T := TX0) (N := 5) hx hb hts in_wsX0_init_X0 tyX0 tyX0_ok nmX0 hown hK hP hD hS q_6 hq_6 rfl 1 (by decide +kernel) (hts (.fieldLink RX0 13 "ShipOffice$Act" "day" "I") iw_X0_init_4) (fun _ h9 => h9) rfl hin rfl (by decide +kernel) rfl rfl (Nat.le_of_ble_eq_true rfl) dX0_init_11 (fun H locs hP1 hD1 hS => ?_)
  obtain ⟨S_7, eS_7⟩ : ∃ zq, zq = setI S_2 o 1 x2 := ⟨_, rfl⟩
  have hP : va_P (dC, dI) vwCl (oW cq S_7) H := by rw [eS_7]; exact cP (oset t_5.1 hq_6 hD rfl (he_30_1 t_5.2) neI) hP1
  have hD : va_D A (oW cq S_7) := by rw [eS_7]; exact cD (oset t_5.1 hq_6 hD rfl (he_30_1 t_5.2) neI) hD1
  clear hP1 hD1
  have hIS_7 : oInv S_7 := by rw [eS_7]; exact oInv.I0 (k := 30) (lo := -2147483648) (hi := 2147483647) hIS_2 t_5.2 (by decide +kernel) rfl rfl rfl (iv_all _)
  have XS_7 : oX [2030] S_2 S_7 := by rw [eS_7]; exact oX.I (k := 30) (key := 2030) t_5.2 rfl (List.mem_singleton.mpr rfl)
  have ik_8 : oI S_7 o 0 = x1 := by rw [eS_7, setI_ne (by decide +kernel)]; exact pk_4
  have X_9 : oXc [5001] o Z S_7 := by rw [eS_7]; exact oXc.I X_3
  have pk_10 : oI S_7 o 1 = x2 := by rw [eS_7, setI_same]
  refine lv_aload_n hx hb dX0_init_14 rfl (lv_at hl 0 rfl) ?_
  refine lv_aload_n hx hb dX0_init_15 rfl (lv_at hl 3 rfl) ?_
  have t_11 : oty S_7 o 30 := (oX.ty XS_7 t_5)
  obtain ⟨q_12, hq_12⟩ := og (cq := cq) t_11.1 (oE_30 t_11.2)
  have t_13 : oty S_7 a3 (300 + n3) := (oX.ty XS_7 (oX.ty XS_2 ta3))
  refine va_putF (D := (dC, dI)) (ci := 0) (v := .ref a3) (ty := .array .int) (C := RX0) (T := TX0) (N := 5) hx hb hts in_wsX0_init_X0 tyX0 tyX0_ok nmX0 hown hK hP hD hS q_12 hq_12 rfl 3 (by decide +kernel) (hts (.fieldLink RX0 16 "ShipOffice$Act" "code" "[I") iw_X0_init_5) (fun _ h9 => h9) rfl hin rfl (by decide +kernel) rfl rfl (Nat.le_of_ble_eq_true rfl) dX0_init_16 (fun H locs hP1 hD1 hS => ?_)
  obtain ⟨S_14, eS_14⟩ : ∃ zq, zq = setP S_7 o 3 (some a3) := ⟨_, rfl⟩
  have hP : va_P (dC, dI) vwCl (oW cq S_14) H := by rw [eS_14]; exact cP (oset t_11.1 hq_12 hD rfl (he_30_3 t_11.2) neP) hP1
  have hD : va_D A (oW cq S_14) := by rw [eS_14]; exact cD (oset t_11.1 hq_12 hD rfl (he_30_3 t_11.2) neP) hD1
  clear hP1 hD1
  have hIS_14 : oInv S_14 := by rw [eS_14]; exact oInv.P (k := 30) hIS_7 t_11.2 (by decide +kernel) rfl (by decide +kernel) t_13 (show 300 ≤ _ ∧ _ ≤ 360 by omega)
  have XS_14 : oX [2030] S_7 S_14 := by rw [eS_14]; exact oX.P (k := 30) (key := 2030) t_11.2 rfl (List.mem_singleton.mpr rfl)
  have ik_15 : oI S_14 o 0 = x1 := by rw [eS_14]; exact ik_8
  have ik_16 : oI S_14 o 1 = x2 := by rw [eS_14]; exact pk_10
  have X_17 : oXc [5001] o Z S_14 := by rw [eS_14]; exact oXc.P X_9
  have pk_18 : oP S_14 o 3 = some a3 := by rw [eS_14, setP_same]
  refine lv_aload_n hx hb dX0_init_19 rfl (lv_at hl 0 rfl) ?_
  refine lv_aload_n hx hb dX0_init_20 rfl (lv_at hl 3 rfl) ?_
  have t_19 : oty S_14 a3 (300 + n3) := (oX.ty XS_14 t_13)
  obtain ⟨q_20, hq_20⟩ := og (cq := cq) t_19.1 (oE_ar (n := n3) t_19.2 (by omega))
  refine va_alen (v := nI n3) hx hb hK hP q_20 0 hq_20 rfl rfl dX0_init_21 ?_
  refine lv_topi (fun x_21 ex_21 => ?_)
  have hx_21 : x_21.toInt = (n3 : Int) := (iv_to ex_21).trans (nI_toInt (by omega))
  clear ex_21
  refine lv_iconst (v := 1) hx hb dX0_init_22 (by decide +kernel) ?_
  refine lv_iadd hx hb dX0_init_23 ?_
  refine lv_topi (fun x_22 ex_22 => ?_)
  have hx_22 : x_22.toInt = x_21.toInt + 1 := (iv_to ex_22).trans (ad_i rfl (by decide +kernel) (by omega) (by omega))
  clear ex_22
  have hp_25 : x_22.toNatClampNeg = x_22.toInt.toNat := rfl
  refine va_newa (atype := .int) (ty := .int) (a0 := (x_22.toNatClampNeg, .inl (fun _ => 0))) hx hb (hts (.arrayClass .int) iw_X0_init_6) rfl hK hP hD hS hA (fun _ => rfl) (fun h => by have := c_lt (a := x_22.toInt) (b := 0) rfl (by decide +kernel) h; omega) rfl (show _ * 4 ≤ 536870912 by have : x_22.toNatClampNeg = x_22.toInt.toNat := rfl; omega) (Nat.le_of_ble_eq_true rfl) (by have h1 : x_22.toNatClampNeg = x_22.toInt.toNat := rfl; show 0 + x_22.toNatClampNeg ≤ 69; omega) dX0_init_24 (fun q_23 k_24 H hK1 hP1 hD1 hS => ?_)
  obtain ⟨rfl, -⟩ := lv_ad (k := 0) hK1 rfl
  clear hK1
  have hnq_23 := add_q hD1
  obtain ⟨S_26, eS_26⟩ : ∃ zq, zq = addO S_14 q_23 (1000 + x_22.toNatClampNeg) := ⟨_, rfl⟩
  have hP : va_P (dC, dI) vwCl (oW cq S_26) H := by rw [eS_26]; exact cP (onew hD1 (by rw [oE_as (n := x_22.toNatClampNeg) add_K, add_I])) hP1
  have hD : va_D A (oW cq S_26) := by rw [eS_26]; exact cD (onew hD1 (by rw [oE_as (n := x_22.toNatClampNeg) add_K, add_I])) hD1
  clear hP1 hD1
  have hIS_26 : oInv S_26 := by rw [eS_26]; exact oInv.add hIS_14 hnq_23 (by omega)
  have XS_26 : oX [] S_14 S_26 := by rw [eS_26]; exact oX.add hnq_23
  have nzq_23 : q_23 ∉ oL Z := oXc.nin X_17 hnq_23
  have pk_27 : oP S_26 o 3 = some a3 := by rw [eS_26, add_Pn hnq_23 (oX.ty XS_14 t_11).1]; exact pk_18
  have ik_28 : oI S_26 o 0 = x1 := by rw [eS_26, add_In hnq_23 (oX.ty XS_14 t_11).1]; exact ik_15
  have ik_29 : oI S_26 o 1 = x2 := by rw [eS_26, add_In hnq_23 (oX.ty XS_14 t_11).1]; exact ik_16
  have X_30 : oXc [5001] o Z S_26 := oXc.st X_17 XS_26 (by decide +kernel)
  have tq_23 : oty S_26 q_23 (1000 + x_22.toNatClampNeg) := by rw [eS_26]; exact add_ty
  have hzq_23 : x_22.toNatClampNeg = x_22.toInt.toNat := rfl
  refine W.widen (k := 1) (n := 61) (Nat.le_of_ble_eq_true rfl) (by omega) ?_
  have t_31 : oty S_26 o 30 := (oX.ty XS_26 (oX.ty XS_14 t_11))
  obtain ⟨q_32, hq_32⟩ := og (cq := cq) t_31.1 (oE_30 t_31.2)
  refine va_putF (D := (dC, dI)) (ci := 0) (v := .ref q_23) (ty := .array .int) (C := RX0) (T := TX0) (N := 5) hx hb hts in_wsX0_init_X0 tyX0 tyX0_ok nmX0 hown hK hP hD hS q_32 hq_32 rfl 4 (by decide +kernel) (hts (.fieldLink RX0 20 "ShipOffice$Act" "stack" "[I") iw_X0_init_7) (fun _ h9 => h9) rfl hin rfl (by decide +kernel) rfl rfl (Nat.le_of_ble_eq_true rfl) dX0_init_26 (fun H locs hP1 hD1 hS => ?_)
  obtain ⟨S_33, eS_33⟩ : ∃ zq, zq = setP S_26 o 4 (some q_23) := ⟨_, rfl⟩
  have hP : va_P (dC, dI) vwCl (oW cq S_33) H := by rw [eS_33]; exact cP (oset t_31.1 hq_32 hD rfl (he_30_4 t_31.2) neP) hP1
  have hD : va_D A (oW cq S_33) := by rw [eS_33]; exact cD (oset t_31.1 hq_32 hD rfl (he_30_4 t_31.2) neP) hD1
  clear hP1 hD1
  have hIS_33 : oInv S_33 := by rw [eS_33]; exact oInv.P (k := 30) hIS_26 t_31.2 (by decide +kernel) rfl (by decide +kernel) tq_23 (show 1001 ≤ _ ∧ _ ≤ 1061 by omega)
  have XS_33 : oX [2030] S_26 S_33 := by rw [eS_33]; exact oX.P (k := 30) (key := 2030) t_31.2 rfl (List.mem_singleton.mpr rfl)
  have pk_34 : oP S_33 o 3 = some a3 := by rw [eS_33, setP_ne (by decide +kernel)]; exact pk_27
  have ik_35 : oI S_33 o 0 = x1 := by rw [eS_33]; exact ik_28
  have ik_36 : oI S_33 o 1 = x2 := by rw [eS_33]; exact ik_29
  have X_37 : oXc [5001] o Z S_33 := by rw [eS_33]; exact oXc.P X_30
  have pk_38 : oP S_33 o 4 = some q_23 := by rw [eS_33, setP_same]
  have t_39 : oty S_33 a3 (300 + n3) := (oX.ty XS_33 (oX.ty XS_26 t_19))
  have t_40 : oty S_33 q_23 (1000 + x_22.toNatClampNeg) := (oX.ty XS_33 tq_23)
  have t_41 : oty S_33 o 30 := (oX.ty XS_33 t_31)
  have hE0 : isE S_33 a3 E := isE_f (oXc.f X_37 (ty_ne ta3 to (by omega)) ta3 (fun _ => by rw [wk_ar (by omega)]; decide)) hE
  obtain ⟨S_42, eS_42⟩ : ∃ zq, zq = setK S_33 o 0 := ⟨_, rfl⟩
  have hP : va_P (dC, dI) vwCl (oW cq S_42) H := by rw [eS_42]; exact cP (ret_W (c := 0) t_41.2 (by decide +kernel)) hP
  have hD : va_D A (oW cq S_42) := by rw [eS_42]; exact cD (ret_W (c := 0) t_41.2 (by decide +kernel)) hD
  have hIS_42 : oInv S_42 := by rw [eS_42]; exact oInv.ret (c := 0) hIS_33 t_41 (by decide +kernel) (fun i hi => by rcases nn_0 hi with rfl | rfl <;> first | exact ⟨_, pk_34⟩ | exact ⟨_, pk_38⟩) (fun i p hp => (ct_no hp (by decide +kernel) (by decide +kernel) (by decide +kernel)).elim) (fun h => absurd h (by decide +kernel)) (fun h => absurd h (by decide +kernel)) (fun h => absurd h (by decide +kernel))
  have XS_42 : oXc [5001] o Z S_42 := by rw [eS_42]; exact oXc.K X_37
  have tS_42 : oty S_42 o 0 := by rw [eS_42]; exact K_ty t_41.1
  have pk_43 : oP S_42 o 3 = some a3 := by rw [eS_42]; exact pk_34
  have pk_44 : oP S_42 o 4 = some q_23 := by rw [eS_42]; exact pk_38
  have ik_45 : oI S_42 o 0 = x1 := by rw [eS_42]; exact ik_35
  have ik_46 : oI S_42 o 1 = x2 := by rw [eS_42]; exact ik_36
  have t_47 : oty S_42 a3 (300 + n3) := by rw [eS_42]; exact setK_ty (ty_ne t_39 t_41 (by omega)) t_39
  have t_48 : oty S_42 q_23 (1000 + x_22.toNatClampNeg) := by rw [eS_42]; exact setK_ty (ty_ne t_40 t_41 (by omega)) t_40
  have hE1 : isE S_42 a3 E := by rw [eS_42]; exact hE0
  refine lv_aload_n hx hb dX0_init_29 rfl (lv_at hl 0 rfl) ?_
  refine lv_aload_n hx hb dX0_init_30 rfl (lv_at hl 0 rfl) ?_
  refine va_getsN hx hb hZ.1.1 hS hown (va_Nw.use rfl hZ.1.2.2.2.2.1) (fun _ h9 => h9) dX0_init_31 ?_
  refine va_tlen (v := 8) hx hb hZ.1.2.1 hS rfl dX0_init_34 ?_
  refine va_newa (atype := .int) (ty := .int) (a0 := (8, .inl (fun _ => 0))) hx hb (hts (.arrayClass .int) iw_X0_init_6) rfl hK hP hD hS hA (fun _ => rfl) (by decide +kernel) (by decide +kernel) (by decide +kernel) (Nat.le_of_ble_eq_true rfl) (Nat.le_of_ble_eq_true rfl) dX0_init_35 (fun q_49 k_50 H hK1 hP1 hD1 hS => ?_)
  obtain ⟨rfl, -⟩ := lv_ad (k := 0) hK1 rfl
  clear hK1
  have hnq_49 := add_q hD1
  obtain ⟨S_51, eS_51⟩ : ∃ zq, zq = addO S_42 q_49 108 := ⟨_, rfl⟩
  have hP : va_P (dC, dI) vwCl (oW cq S_51) H := by rw [eS_51]; exact cP (onew hD1 (by rw [oE_a1 (n := 8) add_K (by decide +kernel), add_I])) hP1
  have hD : va_D A (oW cq S_51) := by rw [eS_51]; exact cD (onew hD1 (by rw [oE_a1 (n := 8) add_K (by decide +kernel), add_I])) hD1
  clear hP1 hD1
  have hIS_51 : oInv S_51 := by rw [eS_51]; exact oInv.add hIS_42 hnq_49 (by decide +kernel)
  have XS_51 : oX [] S_42 S_51 := by rw [eS_51]; exact oX.add hnq_49
  have nzq_49 : q_49 ∉ oL Z := oXc.nin XS_42 hnq_49
  have pk_52 : oP S_51 o 3 = some a3 := by rw [eS_51, add_Pn hnq_49 tS_42.1]; exact pk_43
  have pk_53 : oP S_51 o 4 = some q_23 := by rw [eS_51, add_Pn hnq_49 tS_42.1]; exact pk_44
  have ik_54 : oI S_51 o 0 = x1 := by rw [eS_51, add_In hnq_49 tS_42.1]; exact ik_45
  have ik_55 : oI S_51 o 1 = x2 := by rw [eS_51, add_In hnq_49 tS_42.1]; exact ik_46
  have X_56 : oXc [5001] o Z S_51 := oXc.st XS_42 XS_51 (by decide +kernel)
  have tq_49 : oty S_51 q_49 108 := by rw [eS_51]; exact add_ty
  have zf_57 : oI S_51 q_49 = fun _ => 0 := by rw [eS_51]; exact add_I
  refine W.widen (k := 2) (n := 69) (Nat.le_of_ble_eq_true rfl) (Nat.le_of_ble_eq_true rfl) ?_
  have hE2 : isE S_51 a3 E := isE_f (oX.f (W := []) (oX.st oX.rf XS_51 (by decide +kernel)) t_47 (fun _ => by simp)) hE1
  have t_58 : oty S_51 q_23 (1000 + x_22.toNatClampNeg) := (oX.ty XS_51 t_48)
  have tsk9 : oty S_51 q_23 (1000 + (n3 + 1)) := by rw [show (1000 + (n3 + 1)) = (1000 + x_22.toNatClampNeg) by omega]; exact t_58
  have t_59 : oty S_51 o 0 := (oX.ty XS_51 tS_42)
  have t_60 : oty S_51 a3 (300 + n3) := (oX.ty XS_51 t_47)
  have hFc := o_free hD hS hA
  obtain ⟨q_61, hq_61⟩ := og (cq := cq) t_59.1 (oE_0 t_59.2)
  refine va_calli (va_runV (As := [.ref q_49]) (rest := [.ref o]) ⟨hx, hb, hml, hown, hts⟩ (c_X0_worth_f l dC dI H.size cq S_51 hIS_51 o t_59 q_49 tq_49 a3 q_23 n3 pk_52 pk_53 hn3 t_60 tsk9 E hEn hE2) (cwV 1 hts gX0_init_X0_worth rfl rfl rfl (by decide +kernel) ⟨(Nat.le_of_ble_eq_true rfl), (Nat.le_of_ble_eq_true rfl)⟩) (pr_V (r := (RX0, TX0, 5)) hP hK hD q_61 0 rfl hq_61) rfl rfl hl.1 rfl (lv_room (Nat.le_of_ble_eq_true rfl)) dX0_init_37 ⟨(Nat.le_of_ble_eq_true rfl), (Nat.le_of_ble_eq_true rfl)⟩) hS (fun q _ h => hFc q h) hFc (fun r_63 u t H locs ht hvm w_62 hB hz1 hk1 hS => ?_)
  obtain ⟨S_64, rfl⟩ : ∃ z, z = u := ⟨_, rfl⟩
  obtain ⟨hP1, hK1, hD1⟩ := hB
  rw [ht] at hP1
  have hP : va_P (dC, dI) vwCl (oW cq S_64) H := hP1
  have hD : va_D A (oW cq S_64) := hD1.weaken (fun _ _ _ h => hFc _ h)
  clear hP1 hK1 hD1 hk1 hz1 hvm ht hFc
  obtain ⟨hIS_64, XS_64, hx_65⟩ := w_62
  have X_66 : oXc [5001] o Z S_64 := oXc.st X_56 XS_64 (by decide +kernel)
  have zf_67 : oI S_64 q_49 = fun _ => 0 := by rw [oX.f XS_64 tq_49 (fun _ => nkw (by decide +kernel) (by decide +kernel) (by decide +kernel))]; exact zf_57
  have pk_68 : oP S_64 o 3 = some a3 := by rw [oX.p XS_64 t_59 (by decide +kernel)]; exact pk_52
  have pk_69 : oP S_64 o 4 = some q_23 := by rw [oX.p XS_64 t_59 (by decide +kernel)]; exact pk_53
  have ik_70 : oI S_64 o 0 = x1 := by rw [oX.i XS_64 t_59 (by decide +kernel)]; exact ik_54
  have ik_71 : oI S_64 o 1 = x2 := by rw [oX.i XS_64 t_59 (by decide +kernel)]; exact ik_55
  have hpw := fun x hx => hx_65 x (by rw [zf_57]; exact hx)
  have t_72 : oty S_64 o 0 := (oX.ty XS_64 t_59)
  obtain ⟨q_73, hq_73⟩ := og (cq := cq) t_72.1 (oE_0 t_72.2)
  refine va_putF (D := (dC, dI)) (ci := 0) (v := .int r_63) (ty := .int) (C := RX0) (T := TX0) (N := 5) hx hb hts in_wsX0_init_X0 tyX0 tyX0_ok nmX0 hown hK hP hD hS q_73 hq_73 rfl 2 (by decide +kernel) (hts (.fieldLink RX0 33 "ShipOffice$Act" "plainWorth" "I") iw_X0_init_8) (fun _ h9 => h9) rfl hin rfl (by decide +kernel) rfl rfl (Nat.le_of_ble_eq_true rfl) dX0_init_40 (fun H locs hP1 hD1 hS => ?_)
  obtain ⟨S_74, eS_74⟩ : ∃ zq, zq = setI S_64 o 2 r_63 := ⟨_, rfl⟩
  have hP : va_P (dC, dI) vwCl (oW cq S_74) H := by rw [eS_74]; exact cP (oset t_72.1 hq_73 hD rfl (he_0_2 t_72.2) neI) hP1
  have hD : va_D A (oW cq S_74) := by rw [eS_74]; exact cD (oset t_72.1 hq_73 hD rfl (he_0_2 t_72.2) neI) hD1
  clear hP1 hD1
  have hIS_74 : oInv S_74 := by rw [eS_74]; exact oInv.I0 (k := 0) (lo := -2147483648) (hi := 2147483647) hIS_64 t_72.2 (by decide +kernel) rfl rfl rfl (iv_all _)
  have XS_74 : oX [2] S_64 S_74 := by rw [eS_74]; exact oX.I (k := 0) (key := 2) t_72.2 rfl (List.mem_singleton.mpr rfl)
  have pk_75 : oP S_74 o 3 = some a3 := by rw [eS_74]; exact pk_68
  have pk_76 : oP S_74 o 4 = some q_23 := by rw [eS_74]; exact pk_69
  have ik_77 : oI S_74 o 0 = x1 := by rw [eS_74, setI_ne (by decide +kernel)]; exact ik_70
  have ik_78 : oI S_74 o 1 = x2 := by rw [eS_74, setI_ne (by decide +kernel)]; exact ik_71
  have zf_79 : oI S_74 q_49 = fun _ => 0 := by rw [eS_74, setI_oth (ty_ne (oX.ty XS_64 tq_49) t_72 (by decide +kernel))]; exact zf_67
  have X_80 : oXc [5001] o Z S_74 := by rw [eS_74]; exact oXc.I X_66
  have hp2 : oI S_74 o 2 = r_63 := by rw [eS_74, setI_same]
  have t_81 : oty S_74 o 0 := (oX.ty XS_74 t_72)
  have t_82 : oty S_74 a3 (300 + n3) := (oX.ty XS_74 (oX.ty XS_64 t_60))
  have t_83 : oty S_74 q_23 (1000 + x_22.toNatClampNeg) := (oX.ty XS_74 (oX.ty XS_64 t_58))
  exact W.vret hx hb hr (fun t ht hW => ⟨⟨S_74, rfl, ⟨hIS_74, X_80, ⟨t_81, ⟨⟨ik_77, ik_78⟩, ⟨by omega, a3, q_23, pk_75, by rw [hEn]; exact t_82, pk_76, by rw [hEn, show (1000 + (n3 + 1)) = (1000 + x_22.toNatClampNeg) by omega]; exact t_83, isE_f (oX.f (W := [2, 5001]) (oX.st (oX.st (oX.st oX.rf XS_51 (by decide +kernel)) XS_64 (by decide +kernel)) XS_74 (by decide +kernel)) t_47 (fun _ => by rw [wk_ar (by omega)]; decide)) hE1⟩, fun x hx => hp2.trans (hpw x hx)⟩⟩⟩, ⟨by rw [ht]; exact hP, va_K.moved hW.alike hK, hD⟩⟩, hS.F ht⟩) hS.2.2 dX0_init_43
