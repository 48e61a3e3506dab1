


theorem mn_jo {W : List Nat} {Z S : oS} {o row q : Nat} (hI : oInv Z) (to : oty Z o 10) (hX : oX W Z S) (hk : ∀ k ∈ [1001, 601, 602, 605], k ∉ W) (hr : oP Z o 1 = some row) (hf : oP S row = va_up (oP Z row) (nM Z o) (some q)) (hn1 : nM S o = nM Z o + 1) (hq : q ∉ oL Z) (q2 : 0 ≤ (oI S q 2).toInt ∧ (oI S q 2).toInt ≤ 99999) (q5 : (oI S q 5).toInt = nM Z o) (hD : moD Z o) (hB : moB Z o) (hL : moL Z o) : moD S o ∧ moB S o ∧ lab (gE (alM S o) (nM Z o)) (nM Z o) (lbO S o) ∧ lbO S o (nM Z o) = nM Z o := by
  have eq := oQ_e hr
  rw [← eq] at hf
  obtain ⟨em, emn⟩ := row_up (i := 2) (p := 1) (kr := 14) hI to rfl rfl rfl (hX.p (i := 1) to (hk 1001 (by decide))) hf
  have em : ∀ m, m < nM Z o → mnA S o m = mnA Z o m := fun m hm => em m (by omega)
  have emn : mnA S o (nM Z o) = q := emn
  have tm : ∀ m, m < nM Z o → oty Z (mnA Z o m) 6 := fun m hm => (mnA_e hI to hm).2
  refine ⟨fun m hm => ?_, fun m m' hm hm' e => ?_, lab_E hL (fun m p => ?_) (fun m hm => ?_) (fun m p e => e.2), ?_⟩
  · by_cases c : m < nM Z o
    · rw [em m c, hX.i (i := 2) (tm m c) (hk 602 (by decide))]
      exact hD m c
    · rw [show m = nM Z o by omega, emn]
      exact q2
  · by_cases c : m < nM Z o
    · by_cases c' : m' < nM Z o
      · rw [em m c, em m' c'] at e
        exact hB m m' c c' e
      · exfalso
        rw [em m c, show m' = nM Z o by omega, emn] at e
        exact hq (by rw [← e]; exact (tm m c).1)
    · by_cases c' : m' < nM Z o
      · exfalso
        rw [em m' c', show m = nM Z o by omega, emn] at e
        exact hq (by rw [e]; exact (tm m' c').1)
      · omega
  · unfold gE alM
    constructor
    · rintro ⟨h1, h2, h3⟩
      rw [em m h2, em p h3, alO_fr hX (tm m h2) (tm p h3) (fun k hk2 => hk k (by revert k; decide))]
      exact ⟨h1, h2, h3⟩
    · rintro ⟨h1, h2, h3⟩
      rw [em m h2, em p h3, alO_fr hX (tm m h2) (tm p h3) (fun k hk2 => hk k (by revert k; decide))] at h1
      exact ⟨h1, h2, h3⟩
  · unfold lbO
    rw [em m hm, hX.i (i := 5) (tm m hm) (hk 605 (by decide))]
  · unfold lbO
    rw [emn]
    exact q5
theorem mn_jp {S u : oS} {o n : Nat} (hX : oX [605] S u) (hI : oInv S) (to : oty S o 10) (hn : nM S o = n + 1) (h : lab (gE (alM S o) (n + 1)) (n + 1) (lbO u o)) : moL u o := by
  have eA := mnA_o hX hI to (by decide) (by decide)
  have eN : nM u o = n + 1 := by rw [nM_o hX to (by decide), hn]
  have tm : ∀ m, m < n + 1 → oty S (mnA S o m) 6 := fun m hm => (mnA_e hI to (by rw [← hn] at hm; exact hm)).2
  unfold moL
  rw [eN]
  refine lab_E h (fun m p => ?_) (fun _ _ => rfl) (fun m p e => e.2)
  unfold gE alM
  rw [eA, eA]
  constructor
  · rintro ⟨h1, h2, h3⟩
    rw [alO_fr hX (tm m h2) (tm p h3) (by decide)]
    exact ⟨h1, h2, h3⟩
  · rintro ⟨h1, h2, h3⟩
    rw [alO_fr hX (tm m h2) (tm p h3) (by decide)] at h1
    exact ⟨h1, h2, h3⟩
set_option maxHeartbeats 4000000 in
set_option maxRecDepth 100000 in
theorem c_X6_init_l (l : Launch) (dC : Nat → ClassId) (dI : Nat → Nat → Nat) (sz : Nat) (cq : Nat → ClassId) (Z : oS) (gI : oInv Z) (o : Nat) (to : oty Z o 36) (x1 : Int32) (x2 : Int32) (x3 : Int32) (x4 : Int32) : Met l yX6_init wsX6_init ({ frames := 1, cells := 1, slots := 4, locals := 14 }) (va_Pc [.ref o, .int x1, .int x2, .int x3, .int x4] (pcW (dC, dI) (oT cq) (oW cq Z) sz)) (va_Qv (fun (u : oS) => oInv u ∧ oXc ([] : List Nat) o Z u ∧ (oty u o 6 ∧ (oI u o 0 = x1 ∧ oI u o 1 = x2 ∧ oI u o 2 = x3 ∧ oI u o 3 = x4 ∧ oI u o 5 = x1) ∧ ∃ w, oP u o 4 = some w ∧ w ∉ oL Z ∧ oI u w = fun _ => 0)) (fun u t => va_P (dC, dI) vwCl (oW cq u) t.heap ∧ va_K (dC, dI) vwCl (oT cq) t ∧ va_D (va_A (oW cq Z) sz) (oW cq u)) (va_A (oW cq Z) sz)) 1 4 (va_A (oW cq Z) sz) := by
  refine Met.ofW (cc := cX6_init) (maxL := 5) (ret := none) (by decide) rfl ?_
  intro p e s m args below meth c s₁ B hml hv
  obtain ⟨rfl, hsz, hP, hK, hD0⟩ := hv
  have hx := B.exec
  have hb := B.bytes
  have hr := B.returns
  have hts := atoms_spec (ws := wsX6_init) B.pre
  have hown : s.vm.findClass RX6 = some m.cls := findClass_of_methodNamed B.named
  have hlocks := B.notSynchronized
  have hin : meth.name = "<init>" := (name_of_methodNamed B.named B.method).1
  subst hsz
  have hD := hD0.self (sz := s.heap.size)
  generalize hAe : va_A (oW cq Z) s.heap.size = A at hD ⊢
  have hA : ∀ q : Nat, s.heap.size ≤ q → A q := fun q h => by rw [← hAe]; exact Or.inr h
  have hS : va_S A s.heap s.heap [] := va_S.rf
  have hP : va_P (dC, dI) vwCl (oW cq Z) s.heap := hP
  have hl := lv_entry ([.ref o, .int x1, .int x2, .int x3, .int x4]) (n := 5) (Nat.le_of_ble_eq_true rfl)
  rw [lg_entry_eq]
  generalize (lg_sl ([.ref o, .int x1, .int x2, .int x3, .int x4]) ++ List.replicate (5 - (lg_sl ([.ref o, .int x1, .int x2, .int x3, .int x4])).length) Slot.unset).toArray = ls at hl ⊢
  have hl : lv_has ls 5 [(0, .ref o), (1, .int x1), (2, .int x2), (3, .int x3), (4, .int x4)] := hl
  refine lv_aload_n hx hb dX6_init_0 rfl (lv_at hl 0 rfl) ?_
  refine W.objInit hx hb hown (hts (.methodLink RX6 3 objectInit) iw_X6_init_1) (hts (.instanceMethod objectInit) iw_X6_init_2) (hts (.code objectInit ⟨#[0xb1]⟩ 1 none) (in_obj_wsX6_init)) rfl (by rw [hml]; exact hl.1) rfl dX6_init_1 (Nat.le_of_ble_eq_true rfl) (Nat.le_of_ble_eq_true rfl) ?_
  refine W.eq (g2 := F0 m 4 ls []) rfl ?_
  refine lv_aload_n hx hb dX6_init_4 rfl (lv_at hl 0 rfl) ?_
  refine lv_iconst (v := 4) hx hb dX6_init_5 (by decide) ?_
  refine va_newa (atype := .int) (ty := .int) (a0 := (4, .inl (fun _ => 0))) hx hb (hts (.arrayClass .int) iw_X6_init_3) rfl hK hP hD hS hA (fun _ => rfl) (by decide) (by decide) (by decide) (Nat.le_of_ble_eq_true rfl) (Nat.le_of_ble_eq_true rfl) dX6_init_6 (fun q_1 k_2 H hK1 hP1 hD1 hS => ?_)
  obtain ⟨rfl, -⟩ := lv_ad (k := 0) hK1 rfl
  clear hK1
  have hnq_1 := add_q hD1
  obtain ⟨S_3, eS_3⟩ : ∃ zq, zq = addO Z q_1 104 := ⟨_, rfl⟩
  have hP : va_P (dC, dI) vwCl (oW cq S_3) H := by rw [eS_3]; exact cP (onew hD1 (by rw [oE_a1 (n := 4) add_K (by decide), add_I])) hP1
  have hD : va_D A (oW cq S_3) := by rw [eS_3]; exact cD (onew hD1 (by rw [oE_a1 (n := 4) add_K (by decide), add_I])) hD1
  clear hP1 hD1
  have hIS_3 : oInv S_3 := by rw [eS_3]; exact oInv.add gI hnq_1 (by decide)
  have XS_3 : oX [] Z S_3 := by rw [eS_3]; exact oX.add hnq_1
  have nzq_1 : q_1 ∉ oL Z := hnq_1
  have X_4 : oXc ([] : List Nat) o Z S_3 := oXc.st oXc.rf XS_3 (by decide)
  have tq_1 : oty S_3 q_1 104 := by rw [eS_3]; exact add_ty
  have zf_5 : oI S_3 q_1 = fun _ => 0 := by rw [eS_3]; exact add_I
  refine W.widen (k := 1) (n := 4) (Nat.le_of_ble_eq_true rfl) (Nat.le_of_ble_eq_true rfl) ?_
  have t_6 : oty S_3 o 36 := (oX.ty XS_3 to)
  obtain ⟨q_7, hq_7⟩ := og (cq := cq) t_6.1 (oE_36 t_6.2)
  refine va_putF (D := (dC, dI)) (ci := 6) (v := .ref q_1) (ty := .array .int) (C := RX6) (T := TX6) (N := 6) hx hb hts in_wsX6_init_X6 tyX6 tyX6_ok nmX6 hown hK hP hD hS q_7 hq_7 rfl 4 (by decide) (hts (.fieldLink RX6 9 "ShipOffice$Man" "wages" "[I") iw_X6_init_4) (fun _ h9 => h9) rfl hin rfl (by decide +kernel) rfl rfl (Nat.le_of_ble_eq_true rfl) dX6_init_8 (fun H locs hP1 hD1 hS => ?_)
  obtain ⟨S_8, eS_8⟩ : ∃ zq, zq = setP S_3 o 4 (some q_1) := ⟨_, rfl⟩
  have hP : va_P (dC, dI) vwCl (oW cq S_8) H := by rw [eS_8]; exact cP (oset t_6.1 hq_7 hD rfl (he_36_4 t_6.2) neP) hP1
  have hD : va_D A (oW cq S_8) := by rw [eS_8]; exact cD (oset t_6.1 hq_7 hD rfl (he_36_4 t_6.2) neP) hD1
  clear hP1 hD1
  have hIS_8 : oInv S_8 := by rw [eS_8]; exact oInv.P (k := 36) hIS_3 t_6.2 (by decide) rfl (by decide) tq_1 (by decide)
  have XS_8 : oX [2036] S_3 S_8 := by rw [eS_8]; exact oX.P (k := 36) (key := 2036) t_6.2 rfl (List.mem_singleton.mpr rfl)
  have zf_9 : oI S_8 q_1 = fun _ => 0 := by rw [eS_8]; exact zf_5
  have X_10 : oXc ([] : List Nat) o Z S_8 := by rw [eS_8]; exact oXc.P X_4
  have pk_11 : oP S_8 o 4 = some q_1 := by rw [eS_8, setP_same]
  refine lv_aload_n hx hb dX6_init_11 rfl (lv_at hl 0 rfl) ?_
  refine lv_iload_n hx hb dX6_init_12 rfl (lv_at hl 1 rfl) ?_
  have t_12 : oty S_8 o 36 := (oX.ty XS_8 t_6)
  obtain ⟨q_13, hq_13⟩ := og (cq := cq) t_12.1 (oE_36 t_12.2)
  refine va_putF (D := (dC, dI)) (ci := 6) (v := .int x1) (ty := .int) (C := RX6) (T := TX6) (N := 6) hx hb hts in_wsX6_init_X6 tyX6 tyX6_ok nmX6 hown hK hP hD hS q_13 hq_13 rfl 0 (by decide) (hts (.fieldLink RX6 15 "ShipOffice$Man" "number" "I") iw_X6_init_5) (fun _ h9 => h9) rfl hin rfl (by decide +kernel) rfl rfl (Nat.le_of_ble_eq_true rfl) dX6_init_13 (fun H locs hP1 hD1 hS => ?_)
  obtain ⟨S_14, eS_14⟩ : ∃ zq, zq = setI S_8 o 0 x1 := ⟨_, rfl⟩
  have hP : va_P (dC, dI) vwCl (oW cq S_14) H := by rw [eS_14]; exact cP (oset t_12.1 hq_13 hD rfl (he_36_0 t_12.2) neI) hP1
  have hD : va_D A (oW cq S_14) := by rw [eS_14]; exact cD (oset t_12.1 hq_13 hD rfl (he_36_0 t_12.2) neI) hD1
  clear hP1 hD1
  have hIS_14 : oInv S_14 := by rw [eS_14]; exact oInv.I0 (k := 36) (lo := -2147483648) (hi := 2147483647) hIS_8 t_12.2 (by decide) rfl rfl rfl (iv_all _)
  have XS_14 : oX [2036] S_8 S_14 := by rw [eS_14]; exact oX.I (k := 36) (key := 2036) t_12.2 rfl (List.mem_singleton.mpr rfl)
  have pk_15 : oP S_14 o 4 = some q_1 := by rw [eS_14]; exact pk_11
  have zf_16 : oI S_14 q_1 = fun _ => 0 := by rw [eS_14, setI_oth (ty_ne (oX.ty XS_8 tq_1) t_12 (by decide))]; exact zf_9
  have X_17 : oXc ([] : List Nat) o Z S_14 := by rw [eS_14]; exact oXc.I X_10
  have pk_18 : oI S_14 o 0 = x1 := by rw [eS_14, setI_same]
  refine lv_aload_n hx hb dX6_init_16 rfl (lv_at hl 0 rfl) ?_
  refine lv_iload_n hx hb dX6_init_17 rfl (lv_at hl 2 rfl) ?_
  have t_19 : oty S_14 o 36 := (oX.ty XS_14 t_12)
  obtain ⟨q_20, hq_20⟩ := og (cq := cq) t_19.1 (oE_36 t_19.2)
  refine va_putF (D := (dC, dI)) (ci := 6) (v := .int x2) (ty := .int) (C := RX6) (T := TX6) (N := 6) hx hb hts in_wsX6_init_X6 tyX6 tyX6_ok nmX6 hown hK hP hD hS q_20 hq_20 rfl 1 (by decide) (hts (.fieldLink RX6 19 "ShipOffice$Man" "name" "I") iw_X6_init_6) (fun _ h9 => h9) rfl hin rfl (by decide +kernel) rfl rfl (Nat.le_of_ble_eq_true rfl) dX6_init_18 (fun H locs hP1 hD1 hS => ?_)
  obtain ⟨S_21, eS_21⟩ : ∃ zq, zq = setI S_14 o 1 x2 := ⟨_, rfl⟩
  have hP : va_P (dC, dI) vwCl (oW cq S_21) H := by rw [eS_21]; exact cP (oset t_19.1 hq_20 hD rfl (he_36_1 t_19.2) neI) hP1
  have hD : va_D A (oW cq S_21) := by rw [eS_21]; exact cD (oset t_19.1 hq_20 hD rfl (he_36_1 t_19.2) neI) hD1
  clear hP1 hD1
  have hIS_21 : oInv S_21 := by rw [eS_21]; exact oInv.I0 (k := 36) (lo := -2147483648) (hi := 2147483647) hIS_14 t_19.2 (by decide) rfl rfl rfl (iv_all _)
  have XS_21 : oX [2036] S_14 S_21 := by rw [eS_21]; exact oX.I (k := 36) (key := 2036) t_19.2 rfl (List.mem_singleton.mpr rfl)
  have pk_22 : oP S_21 o 4 = some q_1 := by rw [eS_21]; exact pk_15
  have ik_23 : oI S_21 o 0 = x1 := by rw [eS_21, setI_ne (by decide)]; exact pk_18
  have zf_24 : oI S_21 q_1 = fun _ => 0 := by rw [eS_21, setI_oth (ty_ne (oX.ty XS_14 (oX.ty XS_8 tq_1)) t_19 (by decide))]; exact zf_16
  have X_25 : oXc ([] : List Nat) o Z S_21 := by rw [eS_21]; exact oXc.I X_17
  have pk_26 : oI S_21 o 1 = x2 := by rw [eS_21, setI_same]
  refine lv_aload_n hx hb dX6_init_21 rfl (lv_at hl 0 rfl) ?_
  refine lv_iload_n hx hb dX6_init_22 rfl (lv_at hl 3 rfl) ?_
  have t_27 : oty S_21 o 36 := (oX.ty XS_21 t_19)
  obtain ⟨q_28, hq_28⟩ := og (cq := cq) t_27.1 (oE_36 t_27.2)
  refine va_putF (D := (dC, dI)) (ci := 6) (v := .int x3) (ty := .int) (C := RX6) (T := TX6) (N := 6) hx hb hts in_wsX6_init_X6 tyX6 tyX6_ok nmX6 hown hK hP hD hS q_28 hq_28 rfl 2 (by decide) (hts (.fieldLink RX6 22 "ShipOffice$Man" "marks" "I") iw_X6_init_7) (fun _ h9 => h9) rfl hin rfl (by decide +kernel) rfl rfl (Nat.le_of_ble_eq_true rfl) dX6_init_23 (fun H locs hP1 hD1 hS => ?_)
  obtain ⟨S_29, eS_29⟩ : ∃ zq, zq = setI S_21 o 2 x3 := ⟨_, rfl⟩
  have hP : va_P (dC, dI) vwCl (oW cq S_29) H := by rw [eS_29]; exact cP (oset t_27.1 hq_28 hD rfl (he_36_2 t_27.2) neI) hP1
  have hD : va_D A (oW cq S_29) := by rw [eS_29]; exact cD (oset t_27.1 hq_28 hD rfl (he_36_2 t_27.2) neI) hD1
  clear hP1 hD1
  have hIS_29 : oInv S_29 := by rw [eS_29]; exact oInv.I0 (k := 36) (lo := -2147483648) (hi := 2147483647) hIS_21 t_27.2 (by decide) rfl rfl rfl (iv_all _)
  have XS_29 : oX [2036] S_21 S_29 := by rw [eS_29]; exact oX.I (k := 36) (key := 2036) t_27.2 rfl (List.mem_singleton.mpr rfl)
  have pk_30 : oP S_29 o 4 = some q_1 := by rw [eS_29]; exact pk_22
  have ik_31 : oI S_29 o 0 = x1 := by rw [eS_29, setI_ne (by decide)]; exact ik_23
  have ik_32 : oI S_29 o 1 = x2 := by rw [eS_29, setI_ne (by decide)]; exact pk_26
  have zf_33 : oI S_29 q_1 = fun _ => 0 := by rw [eS_29, setI_oth (ty_ne (oX.ty XS_21 (oX.ty XS_14 (oX.ty XS_8 tq_1))) t_27 (by decide))]; exact zf_24
  have X_34 : oXc ([] : List Nat) o Z S_29 := by rw [eS_29]; exact oXc.I X_25
  have pk_35 : oI S_29 o 2 = x3 := by rw [eS_29, setI_same]
  refine lv_aload_n hx hb dX6_init_26 rfl (lv_at hl 0 rfl) ?_
  refine lv_iload hx hb dX6_init_27 (lv_at hl 4 rfl) ?_
  have t_36 : oty S_29 o 36 := (oX.ty XS_29 t_27)
  obtain ⟨q_37, hq_37⟩ := og (cq := cq) t_36.1 (oE_36 t_36.2)
  refine va_putF (D := (dC, dI)) (ci := 6) (v := .int x4) (ty := .int) (C := RX6) (T := TX6) (N := 6) hx hb hts in_wsX6_init_X6 tyX6 tyX6_ok nmX6 hown hK hP hD hS q_37 hq_37 rfl 3 (by decide) (hts (.fieldLink RX6 25 "ShipOffice$Man" "born" "I") iw_X6_init_8) (fun _ h9 => h9) rfl hin rfl (by decide +kernel) rfl rfl (Nat.le_of_ble_eq_true rfl) dX6_init_29 (fun H locs hP1 hD1 hS => ?_)
  obtain ⟨S_38, eS_38⟩ : ∃ zq, zq = setI S_29 o 3 x4 := ⟨_, rfl⟩
  have hP : va_P (dC, dI) vwCl (oW cq S_38) H := by rw [eS_38]; exact cP (oset t_36.1 hq_37 hD rfl (he_36_3 t_36.2) neI) hP1
  have hD : va_D A (oW cq S_38) := by rw [eS_38]; exact cD (oset t_36.1 hq_37 hD rfl (he_36_3 t_36.2) neI) hD1
  clear hP1 hD1
  have hIS_38 : oInv S_38 := by rw [eS_38]; exact oInv.I0 (k := 36) (lo := -2147483648) (hi := 2147483647) hIS_29 t_36.2 (by decide) rfl rfl rfl (iv_all _)
  have XS_38 : oX [2036] S_29 S_38 := by rw [eS_38]; exact oX.I (k := 36) (key := 2036) t_36.2 rfl (List.mem_singleton.mpr rfl)
  have pk_39 : oP S_38 o 4 = some q_1 := by rw [eS_38]; exact pk_30
  have ik_40 : oI S_38 o 0 = x1 := by rw [eS_38, setI_ne (by decide)]; exact ik_31
  have ik_41 : oI S_38 o 1 = x2 := by rw [eS_38, setI_ne (by decide)]; exact ik_32
  have ik_42 : oI S_38 o 2 = x3 := by rw [eS_38, setI_ne (by decide)]; exact pk_35
  have zf_43 : oI S_38 q_1 = fun _ => 0 := by rw [eS_38, setI_oth (ty_ne (oX.ty XS_29 (oX.ty XS_21 (oX.ty XS_14 (oX.ty XS_8 tq_1)))) t_36 (by decide))]; exact zf_33
  have X_44 : oXc ([] : List Nat) o Z S_38 := by rw [eS_38]; exact oXc.I X_34
  have pk_45 : oI S_38 o 3 = x4 := by rw [eS_38, setI_same]
  refine lv_aload_n hx hb dX6_init_32 rfl (lv_at hl 0 rfl) ?_
  refine lv_iload_n hx hb dX6_init_33 rfl (lv_at hl 1 rfl) ?_
  have t_46 : oty S_38 o 36 := (oX.ty XS_38 t_36)
  obtain ⟨q_47, hq_47⟩ := og (cq := cq) t_46.1 (oE_36 t_46.2)
  refine va_put (D := (dC, dI)) (ci := 6) (v := .int x1) (ty := .int) (C := RX6) (T := TX6) (N := 6) hx hb hts in_wsX6_init_X6 tyX6 tyX6_ok nmX6 hown hK hP hD hS q_47 hq_47 rfl 5 (by decide) (hts (.fieldLink RX6 28 "ShipOffice$Man" "leastAlike" "I") iw_X6_init_9) (fun _ h9 => h9) rfl (by decide +kernel) rfl rfl (Nat.le_of_ble_eq_true rfl) dX6_init_34 (fun H locs hP1 hD1 hS => ?_)
  obtain ⟨S_48, eS_48⟩ : ∃ zq, zq = setI S_38 o 5 x1 := ⟨_, rfl⟩
  have hP : va_P (dC, dI) vwCl (oW cq S_48) H := by rw [eS_48]; exact cP (oset t_46.1 hq_47 hD rfl (he_36_5 t_46.2) neI) hP1
  have hD : va_D A (oW cq S_48) := by rw [eS_48]; exact cD (oset t_46.1 hq_47 hD rfl (he_36_5 t_46.2) neI) hD1
  clear hP1 hD1
  have hIS_48 : oInv S_48 := by rw [eS_48]; exact oInv.I0 (k := 36) (lo := -2147483648) (hi := 2147483647) hIS_38 t_46.2 (by decide) rfl rfl rfl (iv_all _)
  have XS_48 : oX [2036] S_38 S_48 := by rw [eS_48]; exact oX.I (k := 36) (key := 2036) t_46.2 rfl (List.mem_singleton.mpr rfl)
  have pk_49 : oP S_48 o 4 = some q_1 := by rw [eS_48]; exact pk_39
  have ik_50 : oI S_48 o 0 = x1 := by rw [eS_48, setI_ne (by decide)]; exact ik_40
  have ik_51 : oI S_48 o 1 = x2 := by rw [eS_48, setI_ne (by decide)]; exact ik_41
  have ik_52 : oI S_48 o 2 = x3 := by rw [eS_48, setI_ne (by decide)]; exact ik_42
  have ik_53 : oI S_48 o 3 = x4 := by rw [eS_48, setI_ne (by decide)]; exact pk_45
  have zf_54 : oI S_48 q_1 = fun _ => 0 := by rw [eS_48, setI_oth (ty_ne (oX.ty XS_38 (oX.ty XS_29 (oX.ty XS_21 (oX.ty XS_14 (oX.ty XS_8 tq_1))))) t_46 (by decide))]; exact zf_43
  have X_55 : oXc ([] : List Nat) o Z S_48 := by rw [eS_48]; exact oXc.I X_44
  have pk_56 : oI S_48 o 5 = x1 := by rw [eS_48, setI_same]
  have t_58 : oty S_48 o 36 := (oX.ty XS_48 t_46)
  obtain ⟨S_57, eS_57⟩ : ∃ zq, zq = setK S_48 o 6 := ⟨_, rfl⟩
  have hP : va_P (dC, dI) vwCl (oW cq S_57) H := by rw [eS_57]; exact cP (ret_W (c := 6) t_58.2 (by decide)) hP
  have hD : va_D A (oW cq S_57) := by rw [eS_57]; exact cD (ret_W (c := 6) t_58.2 (by decide)) hD
  have hIS_57 : oInv S_57 := by rw [eS_57]; exact oInv.ret (c := 6) hIS_48 t_58 (by decide) (fun i hi => by rcases nn_6 hi with rfl <;> first | exact ⟨_, pk_49⟩) (fun i p hp => (ct_no hp (by decide) (by decide) (by decide)).elim) (fun h => absurd h (by decide)) (fun h => absurd h (by decide)) (fun h => absurd h (by decide))
  have XS_57 : oXc ([] : List Nat) o Z S_57 := by rw [eS_57]; exact oXc.K X_55
  have tS_57 : oty S_57 o 6 := by rw [eS_57]; exact K_ty t_58.1
  have pk_59 : oP S_57 o 4 = some q_1 := by rw [eS_57]; exact pk_49
  have ik_60 : oI S_57 o 0 = x1 := by rw [eS_57]; exact ik_50
  have ik_61 : oI S_57 o 1 = x2 := by rw [eS_57]; exact ik_51
  have ik_62 : oI S_57 o 2 = x3 := by rw [eS_57]; exact ik_52
  have ik_63 : oI S_57 o 3 = x4 := by rw [eS_57]; exact ik_53
  have ik_64 : oI S_57 o 5 = x1 := by rw [eS_57]; exact pk_56
  have zf_65 : oI S_57 q_1 = fun _ => 0 := by rw [eS_57]; exact zf_54
  exact W.vret hx hb hr (fun t ht hW => ⟨⟨S_57, rfl, ⟨hIS_57, XS_57, ⟨tS_57, ⟨⟨ik_60, ik_61, ik_62, ik_63, ik_64⟩, q_1, pk_59, nzq_1, zf_65⟩⟩⟩, ⟨by rw [ht]; exact hP, va_K.moved hW.alike hK, hD⟩⟩, hS.F ht⟩) hS.2.2 dX6_init_37