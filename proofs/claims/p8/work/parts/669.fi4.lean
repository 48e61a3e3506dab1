


theorem cuW_x : ∀ p, p < 5 → exE (fun _ => 0) (cuE p) [] = [cuW p] := by
  intro p hp
  have h5 : p = 0 ∨ p = 1 ∨ p = 2 ∨ p = 3 ∨ p = 4 := by omega
  rcases h5 with rfl | rfl | rfl | rfl | rfl
  · exact exE_1 (by decide +kernel) (by decide +kernel)
  · exact exQ_le [] (by decide +kernel) (by decide +kernel)
  · exact exE_1 (by decide +kernel) (by decide +kernel)
  · exact exE_1 (by decide +kernel) (by decide +kernel)
  · exact exE_1 (by decide +kernel) (by decide +kernel)
theorem isE_1 {S : oS} {b : Nat} {x : Int32} (h : oI S b 0 = x) : isE S b [x] := fun j hj => by
  have e : j = 0 := by
    have : j < 1 := hj
    omega
  subst e
  rw [h]
  rfl
theorem cu_of {u : oS} {q p : Nat} {x d : Int32} {E : List Int32} (h : acN u q x d E) (hp : p < 5) (hx : x.toInt = (p : Int)) (hd : d = -1) (hE : E = cuE p) : rCu u q p := by
  obtain ⟨⟨h1, h2⟩, h3, h4⟩ := h
  subst hE
  exact ⟨by rw [h1]; exact hx, by rw [h2, hd]; decide, h3, h4 _ (cuW_x p hp)⟩
theorem rCu_o {W : List Nat} {S u : oS} {b p : Nat} (X : oX W S u) (tb : oty S b 0) (hk : ∀ k ∈ [0, 1, 2, 3, 4, 5000], k ∉ W) (h : rCu S b p) : rCu u b p := by
  obtain ⟨h1, h2, h3, h4⟩ := h
  exact ⟨by rw [X.i (i := 0) tb (hk 0 (by decide +kernel))]; exact h1, by rw [X.i (i := 1) tb (hk 1 (by decide +kernel))]; exact h2, rCd_o X tb (hk 3 (by decide +kernel)) (hk 4 (by decide +kernel)) (hk 5000 (by decide +kernel)) h3, by rw [X.i (i := 2) tb (hk 2 (by decide +kernel))]; exact h4⟩
theorem rCu_K {S : oS} {o c k b p : Nat} (to : oty S o k) (hk : k < 300) (h : rCu S b p) : rCu (setK S o c) b p := by
  obtain ⟨h1, h2, ⟨h3, cd, sk, h4, h5, h6, h7, h8⟩, h9⟩ := h
  exact ⟨h1, h2, ⟨h3, cd, sk, h4, setK_ty (ty_ne h5 to (by omega)) h5, h6, setK_ty (ty_ne h7 to (by omega)) h7, h8⟩, h9⟩
/-- the laws at the start -/
def lawI (S : oS) (lw : Nat) : Prop := oI S lw 2 = 0 ∧ ∃ cr, oP S lw 1 = some cr ∧ oty S cr 13 ∧ ∀ p, p < 5 → ∃ b, oP S cr p = some b ∧ oty S b 0 ∧ rCu S b p
theorem lawI_o {W : List Nat} {S u : oS} {lw : Nat} (X : oX W S u) (tl : oty S lw 5) (hk : ∀ k ∈ [501, 502, 2013, 0, 1, 2, 3, 4, 5000], k ∉ W) (h : lawI S lw) : lawI u lw := by
  obtain ⟨h1, cr, h2, h3, h4⟩ := h
  refine ⟨by rw [X.i (i := 2) tl (hk 502 (by decide +kernel))]; exact h1, cr, by rw [X.p (i := 1) tl (hk 501 (by decide +kernel))]; exact h2, X.ty h3, fun p hp => ?_⟩
  obtain ⟨b, h5, h6, h7⟩ := h4 p hp
  exact ⟨b, by rw [X.p (i := p) h3 (nkw (by decide +kernel) (by decide +kernel) (hk 2013 (by decide +kernel)))]; exact h5, X.ty h6, rCu_o X h6 (fun k q => hk k (List.mem_append_right [501, 502, 2013] q)) h7⟩
theorem lawI_K {S : oS} {o c k lw : Nat} (to : oty S o k) (hk : 13 < k ∧ k < 300) (h : lawI S lw) : lawI (setK S o c) lw := by
  obtain ⟨h1, cr, h2, h3, h4⟩ := h
  refine ⟨h1, cr, h2, setK_ty (ty_ne h3 to (by omega)) h3, fun p hp => ?_⟩
  obtain ⟨b, h5, h6, h7⟩ := h4 p hp
  exact ⟨b, h5, setK_ty (ty_ne h6 to (by omega)) h6, rCu_K to hk.2 h7⟩
theorem lawI_r {S : oS} {lw : Nat} {v : Nat → Int32} {fa : Nat → Nat → Int32} (h : lawI S lw) (h0 : v 42 = 0) : rLw S lw v fa := by
  obtain ⟨h1, cr, h2, h3, h4⟩ := h
  refine ⟨by rw [h1, h0], fun k hk => ?_, fun p hp => ?_⟩
  · rw [h0] at hk
    exact absurd hk (Nat.not_lt_zero k)
  · obtain ⟨b, h5, h6, h7⟩ := h4 p hp
    unfold cuA
    rw [oQ_e h2, oQ_e h5]
    exact h7
set_option maxHeartbeats 4000000 in
set_option maxRecDepth 100000 in
theorem c_X5_init_g (l : Launch) (dC : Nat → ClassId) (dI : Nat → Nat → Nat) (sz : Nat) (tL tS tG : Nat) (cq : Nat → ClassId) (Z : oS) (gI : oInv Z) (o : Nat) (to : oty Z o 35) (hz : ∀ j, oI Z o j = 0) : Met l yX5_init wsX5_init ({ frames := 4, cells := 22, slots := 410, locals := 95 }) (va_Pc [.ref o] (pcO (dC, dI) (oT cq) (oW cq Z) sz tL tS tG (oW cq Z))) (va_Qv (fun (u : oS) => oInv u ∧ oXc [5001] o Z u ∧ (oty u o 5 ∧ lawI u o)) (fun u t => va_P (dC, dI) vwCl (oW cq u) t.heap ∧ va_K (dC, dI) vwCl (oT cq) t ∧ va_D (va_A (oW cq Z) sz) (oW cq u)) (va_A (oW cq Z) sz)) 22 410 (va_A (oW cq Z) sz) := by
  refine Met.ofW (cc := cX5_init) (maxL := 1) (ret := none) (by decide +kernel) rfl ?_
  intro p e s m args below meth c s₁ B hml hv
  obtain ⟨rfl, ⟨hsz, hP, hK, hD0⟩, hZ⟩ := hv
  have hx := B.exec
  have hb := B.bytes
  have hr := B.returns
  have hts := atoms_spec (ws := wsX5_init) B.pre
  have hown : s.vm.findClass RX5 = some m.cls := findClass_of_methodNamed B.named
  have hlocks := B.notSynchronized
  have hin : meth.name = "<init>" := (name_of_methodNamed B.named B.method).1
  subst hsz
  have hD := hD0.self (sz := s.heap.size)
  generalize hAe : va_A (oW cq Z) s.heap.size = A at hD hZ ⊢
  have hA : ∀ q : Nat, s.heap.size ≤ q → A q := fun q h => by rw [← hAe]; exact Or.inr h
  have hS : va_S A s.heap s.heap [] := va_S.rf
  have hP : va_P (dC, dI) vwCl (oW cq Z) s.heap := hP
  have hl := lv_entry ([.ref o]) (n := 1) (Nat.le_of_ble_eq_true rfl)
  rw [lg_entry_eq]
  generalize (lg_sl ([.ref o]) ++ List.replicate (1 - (lg_sl ([.ref o])).length) Slot.unset).toArray = ls at hl ⊢
  have hl : lv_has ls 1 [(0, .ref o)] := hl
  refine lv_aload_n hx hb dX5_init_0 rfl (lv_at hl 0 rfl) ?_
  refine W.objInit hx hb hown (hts (.methodLink RX5 3 objectInit) iw_X5_init_1) (hts (.instanceMethod objectInit) iw_X5_init_2) (hts (.code objectInit ⟨#[0xb1]⟩ 1 none) (in_obj_wsX5_init)) rfl (by rw [hml]; exact hl.1) rfl dX5_init_1 (Nat.le_of_ble_eq_true rfl) (Nat.le_of_ble_eq_true rfl) ?_
  refine W.eq (g2 := F0 m 4 ls []) rfl ?_
  refine lv_aload_n hx hb dX5_init_4 rfl (lv_at hl 0 rfl) ?_
  refine lv_bipush (v := 30) hx hb dX5_init_5 (by decide +kernel) ?_
  refine va_newq (N' := 30) hx hb hown (hts (.classLink RX5 9 RX0) iw_X5_init_3) hZ.1.2.2.2.2.2.2.1 hK hP hD hS hA (by decide +kernel) (by decide +kernel) (by decide +kernel) (Nat.le_of_ble_eq_true rfl) (Nat.le_of_ble_eq_true rfl) dX5_init_7 (fun q_1 k_2 H hK1 hP1 hD1 hS => ?_)
  obtain ⟨rfl, -⟩ := lv_ad (k := 2) hK1 rfl
  clear hK1
  have hnq_1 := add_q hD1
  obtain ⟨S_3, eS_3⟩ : ∃ zq, zq = addO Z q_1 12 := ⟨_, rfl⟩
  have hP : va_P (dC, dI) vwCl (oW cq S_3) H := by rw [eS_3]; exact cP (onew hD1 (by rw [oE_12 add_K, add_P])) hP1
  have hD : va_D A (oW cq S_3) := by rw [eS_3]; exact cD (onew hD1 (by rw [oE_12 add_K, add_P])) hD1
  clear hP1 hD1
  have hIS_3 : oInv S_3 := by rw [eS_3]; exact oInv.add gI hnq_1 (by decide +kernel)
  have XS_3 : oX [] Z S_3 := by rw [eS_3]; exact oX.add hnq_1
  have nzq_1 : q_1 ∉ oL Z := hnq_1
  have ik_4 : oI S_3 o 2 = 0 := by rw [eS_3, add_In hnq_1 to.1]; exact (hz 2)
  have X_5 : oXc [5001] o Z S_3 := oXc.st oXc.rf XS_3 (by decide +kernel)
  have tq_1 : oty S_3 q_1 12 := by rw [eS_3]; exact add_ty
  refine W.widen (k := 1) (n := 30) (Nat.le_of_ble_eq_true rfl) (Nat.le_of_ble_eq_true rfl) ?_
  have t_6 : oty S_3 o 35 := (oX.ty XS_3 to)
  obtain ⟨q_7, hq_7⟩ := og (cq := cq) t_6.1 (oE_35 t_6.2)
  refine va_putF (D := (dC, dI)) (ci := 5) (v := .ref q_1) (ty := .array (.object "ShipOffice$Act")) (C := RX5) (T := TX5) (N := 3) hx hb hts in_wsX5_init_X5 tyX5 tyX5_ok nmX5 hown hK hP hD hS q_7 hq_7 rfl 0 (by decide +kernel) (hts (.fieldLink RX5 11 "ShipOffice$Law" "acts" "[LShipOffice$Act;") iw_X5_init_4) (fun _ h9 => h9) rfl hin rfl (by decide +kernel) rfl rfl (Nat.le_of_ble_eq_true rfl) dX5_init_10 (fun H locs hP1 hD1 hS => ?_)
  obtain ⟨S_8, eS_8⟩ : ∃ zq, zq = setP S_3 o 0 (some q_1) := ⟨_, rfl⟩
  have hP : va_P (dC, dI) vwCl (oW cq S_8) H := by rw [eS_8]; exact cP (oset t_6.1 hq_7 hD rfl (he_35_0 t_6.2) neP) hP1
  have hD : va_D A (oW cq S_8) := by rw [eS_8]; exact cD (oset t_6.1 hq_7 hD rfl (he_35_0 t_6.2) neP) hD1
  clear hP1 hD1
  have hIS_8 : oInv S_8 := by rw [eS_8]; exact oInv.P (k := 35) hIS_3 t_6.2 (by decide +kernel) rfl (by decide +kernel) tq_1 (by decide +kernel)
  have XS_8 : oX [2035] S_3 S_8 := by rw [eS_8]; exact oX.P (k := 35) (key := 2035) t_6.2 rfl (List.mem_singleton.mpr rfl)
  have ik_9 : oI S_8 o 2 = 0 := by rw [eS_8]; exact ik_4
  have X_10 : oXc [5001] o Z S_8 := by rw [eS_8]; exact oXc.P X_5
  have pk_11 : oP S_8 o 0 = some q_1 := by rw [eS_8, setP_same]
  refine lv_aload_n hx hb dX5_init_13 rfl (lv_at hl 0 rfl) ?_
  refine lv_iconst (v := 5) hx hb dX5_init_14 (by decide +kernel) ?_
  refine va_newq (N' := 5) hx hb hown (hts (.classLink RX5 9 RX0) iw_X5_init_3) hZ.1.2.2.2.2.2.2.1 hK hP hD hS hA (by decide +kernel) (by decide +kernel) (by decide +kernel) (Nat.le_of_ble_eq_true rfl) (Nat.le_of_ble_eq_true rfl) dX5_init_15 (fun q_12 k_13 H hK1 hP1 hD1 hS => ?_)
  obtain ⟨rfl, -⟩ := lv_ad (k := 2) hK1 rfl
  clear hK1
  have hnq_12 := add_q hD1
  obtain ⟨S_14, eS_14⟩ : ∃ zq, zq = addO S_8 q_12 13 := ⟨_, rfl⟩
  have hP : va_P (dC, dI) vwCl (oW cq S_14) H := by rw [eS_14]; exact cP (onew hD1 (by rw [oE_13 add_K, add_P])) hP1
  have hD : va_D A (oW cq S_14) := by rw [eS_14]; exact cD (onew hD1 (by rw [oE_13 add_K, add_P])) hD1
  clear hP1 hD1
  have hIS_14 : oInv S_14 := by rw [eS_14]; exact oInv.add hIS_8 hnq_12 (by decide +kernel)
  have XS_14 : oX [] S_8 S_14 := by rw [eS_14]; exact oX.add hnq_12
  have nzq_12 : q_12 ∉ oL Z := oXc.nin X_10 hnq_12
  have pk_15 : oP S_14 o 0 = some q_1 := by rw [eS_14, add_Pn hnq_12 (oX.ty XS_8 t_6).1]; exact pk_11
  have ik_16 : oI S_14 o 2 = 0 := by rw [eS_14, add_In hnq_12 (oX.ty XS_8 t_6).1]; exact ik_9
  have X_17 : oXc [5001] o Z S_14 := oXc.st X_10 XS_14 (by decide +kernel)
  have tq_12 : oty S_14 q_12 13 := by rw [eS_14]; exact add_ty
  refine W.widen (k := 2) (n := 35) (Nat.le_of_ble_eq_true rfl) (Nat.le_of_ble_eq_true rfl) ?_
  have t_18 : oty S_14 o 35 := (oX.ty XS_14 (oX.ty XS_8 t_6))
  obtain ⟨q_19, hq_19⟩ := og (cq := cq) t_18.1 (oE_35 t_18.2)
  refine va_putF (D := (dC, dI)) (ci := 5) (v := .ref q_12) (ty := .array (.object "ShipOffice$Act")) (C := RX5) (T := TX5) (N := 3) hx hb hts in_wsX5_init_X5 tyX5 tyX5_ok nmX5 hown hK hP hD hS q_19 hq_19 rfl 1 (by decide +kernel) (hts (.fieldLink RX5 17 "ShipOffice$Law" "customs" "[LShipOffice$Act;") iw_X5_init_5) (fun _ h9 => h9) rfl hin rfl (by decide +kernel) rfl rfl (Nat.le_of_ble_eq_true rfl) dX5_init_18 (fun H locs hP1 hD1 hS => ?_)
  obtain ⟨S_20, eS_20⟩ : ∃ zq, zq = setP S_14 o 1 (some q_12) := ⟨_, rfl⟩
  have hP : va_P (dC, dI) vwCl (oW cq S_20) H := by rw [eS_20]; exact cP (oset t_18.1 hq_19 hD rfl (he_35_1 t_18.2) neP) hP1
  have hD : va_D A (oW cq S_20) := by rw [eS_20]; exact cD (oset t_18.1 hq_19 hD rfl (he_35_1 t_18.2) neP) hD1
  clear hP1 hD1
  have hIS_20 : oInv S_20 := by rw [eS_20]; exact oInv.P (k := 35) hIS_14 t_18.2 (by decide +kernel) rfl (by decide +kernel) tq_12 (by decide +kernel)
  have XS_20 : oX [2035] S_14 S_20 := by rw [eS_20]; exact oX.P (k := 35) (key := 2035) t_18.2 rfl (List.mem_singleton.mpr rfl)
  have pk_21 : oP S_20 o 0 = some q_1 := by rw [eS_20, setP_ne (by decide +kernel)]; exact pk_15
  have ik_22 : oI S_20 o 2 = 0 := by rw [eS_20]; exact ik_16
  have X_23 : oXc [5001] o Z S_20 := by rw [eS_20]; exact oXc.P X_17
  have pk_24 : oP S_20 o 1 = some q_12 := by rw [eS_20, setP_same]
  refine lv_aload_n hx hb dX5_init_21 rfl (lv_at hl 0 rfl) ?_
  have t_25 : oty S_20 o 35 := (oX.ty XS_20 t_18)
  obtain ⟨q_26, hq_26⟩ := og (cq := cq) t_25.1 (oE_35 t_25.2)
  refine va_get (D := (dC, dI)) (ci := 5) (v := .ref q_12) (C := RX5) (T := TX5) (N := 3) hx hb hts in_wsX5_init_X5 hown hK hP q_26 hq_26 rfl 1 (by decide +kernel) (hts (.fieldLink RX5 17 "ShipOffice$Law" "customs" "[LShipOffice$Act;") iw_X5_init_5) (fun _ h9 => h9) (o_rd pk_24) dX5_init_22 ?_
  refine lv_iconst (v := 0) hx hb dX5_init_25 (by decide +kernel) ?_
  refine va_new (ci := 0) (fs := [.int 0, .int 0, .int 0, .null, .null]) (C := RX0) (T := TX0) (N := 5) hx hb hts in_wsX5_init_X0 tyX0 tyX0_ok hown (hts (.classLink RX5 9 RX0) iw_X5_init_3) (hts (.instantiable RX0 5) iw_X5_init_6) (hts (.initialized RX0) iw_X5_init_7) hK hP hD hS hA rfl (fun j hj => by rcases (show j = 0 ∨ j = 1 ∨ j = 2 ∨ j = 3 ∨ j = 4 by omega) with rfl | rfl | rfl | rfl | rfl <;> rfl) (Nat.le_of_ble_eq_true rfl) (Nat.le_of_ble_eq_true rfl) dX5_init_26 (fun q_27 H hP1 hD1 hS => ?_)
  have hnq_27 := add_q hD1
  obtain ⟨S_28, eS_28⟩ : ∃ zq, zq = addO S_20 q_27 30 := ⟨_, rfl⟩
  have hP : va_P (dC, dI) vwCl (oW cq S_28) H := by rw [eS_28]; exact cP (onew hD1 (by rw [oE_30 add_K, add_I, add_P]; rfl)) hP1
  have hD : va_D A (oW cq S_28) := by rw [eS_28]; exact cD (onew hD1 (by rw [oE_30 add_K, add_I, add_P]; rfl)) hD1
  clear hP1 hD1
  have hIS_28 : oInv S_28 := by rw [eS_28]; exact oInv.add hIS_20 hnq_27 (by decide +kernel)
  have XS_28 : oX [] S_20 S_28 := by rw [eS_28]; exact oX.add hnq_27
  have nzq_27 : q_27 ∉ oL Z := oXc.nin X_23 hnq_27
  have pk_29 : oP S_28 o 0 = some q_1 := by rw [eS_28, add_Pn hnq_27 t_25.1]; exact pk_21
  have pk_30 : oP S_28 o 1 = some q_12 := by rw [eS_28, add_Pn hnq_27 t_25.1]; exact pk_24
  have ik_31 : oI S_28 o 2 = 0 := by rw [eS_28, add_In hnq_27 t_25.1]; exact ik_22
  have sr_32 : oP S_28 o 1 = some q_12 := by rw [eS_28, add_Pn hnq_27 t_25.1]; exact pk_24
  have X_33 : oXc [5001] o Z S_28 := oXc.st X_23 XS_28 (by decide +kernel)
  have tq_27 : oty S_28 q_27 30 := by rw [eS_28]; exact add_ty
  refine W.widen (k := 3) (n := 40) (Nat.le_of_ble_eq_true rfl) (Nat.le_of_ble_eq_true rfl) ?_
  refine lv_dup hx hb dX5_init_29 rfl ?_
  refine lv_iconst (v := 0) hx hb dX5_init_30 (by decide +kernel) ?_
  refine lv_iconst (v := (-1)) hx hb dX5_init_31 (by decide +kernel) ?_
  refine lv_iconst (v := 1) hx hb dX5_init_32 (by decide +kernel) ?_
  refine va_newa (atype := .int) (ty := .int) (a0 := (1, .inl (fun _ => 0))) hx hb (hts (.arrayClass .int) iw_X5_init_8) rfl hK hP hD hS hA (fun _ => rfl) (by decide +kernel) (by decide +kernel) (by decide +kernel) (Nat.le_of_ble_eq_true rfl) (Nat.le_of_ble_eq_true rfl) dX5_init_33 (fun q_34 k_35 H hK1 hP1 hD1 hS => ?_)
  obtain ⟨rfl, -⟩ := lv_ad (k := 0) hK1 rfl
  clear hK1
  have hnq_34 := add_q hD1
  obtain ⟨S_36, eS_36⟩ : ∃ zq, zq = addO S_28 q_34 301 := ⟨_, rfl⟩
  have hP : va_P (dC, dI) vwCl (oW cq S_36) H := by rw [eS_36]; exact cP (onew hD1 (by rw [oE_ar (n := 1) add_K (by decide +kernel), add_I])) hP1
  have hD : va_D A (oW cq S_36) := by rw [eS_36]; exact cD (onew hD1 (by rw [oE_ar (n := 1) add_K (by decide +kernel), add_I])) hD1
  clear hP1 hD1
  have hIS_36 : oInv S_36 := by rw [eS_36]; exact oInv.add hIS_28 hnq_34 (by decide +kernel)
  have XS_36 : oX [] S_28 S_36 := by rw [eS_36]; exact oX.add hnq_34
  have nzq_34 : q_34 ∉ oL Z := oXc.nin X_33 hnq_34
  have pk_37 : oP S_36 o 0 = some q_1 := by rw [eS_36, add_Pn hnq_34 (oX.ty XS_28 t_25).1]; exact pk_29
  have pk_38 : oP S_36 o 1 = some q_12 := by rw [eS_36, add_Pn hnq_34 (oX.ty XS_28 t_25).1]; exact pk_30
  have ik_39 : oI S_36 o 2 = 0 := by rw [eS_36, add_In hnq_34 (oX.ty XS_28 t_25).1]; exact ik_31
  have sr_40 : oP S_36 o 1 = some q_12 := by rw [eS_36, add_Pn hnq_34 (oX.ty XS_28 t_25).1]; exact sr_32
  have X_41 : oXc [5001] o Z S_36 := oXc.st X_33 XS_36 (by decide +kernel)
  have tq_34 : oty S_36 q_34 301 := by rw [eS_36]; exact add_ty
  refine W.widen (k := 4) (n := 41) (Nat.le_of_ble_eq_true rfl) (Nat.le_of_ble_eq_true rfl) ?_
  refine lv_dup hx hb dX5_init_35 rfl ?_
  refine lv_iconst (v := 0) hx hb dX5_init_36 (by decide +kernel) ?_
  refine lv_iconst (v := 1) hx hb dX5_init_37 (by decide +kernel) ?_
  obtain ⟨q_42, hq_42⟩ := og (cq := cq) tq_34.1 (oE_ar (n := 1) tq_34.2 (by decide +kernel))
  refine va_iast hx hb hK hP hD hS q_42 0 hq_42 rfl (by unfold vp_in; decide) dX5_init_38 (fun H locs hP1 hD1 hS => ?_)
  obtain ⟨S_43, eS_43⟩ : ∃ zq, zq = setI S_36 q_34 (0 : Int32).toNatClampNeg 1 := ⟨_, rfl⟩
  have hP : va_P (dC, dI) vwCl (oW cq S_43) H := by rw [eS_43]; exact cP (oset tq_34.1 hq_42 hD rfl (he_ar (n := 1) tq_34.2 (by decide +kernel)) neI) hP1
  have hD : va_D A (oW cq S_43) := by rw [eS_43]; exact cD (oset tq_34.1 hq_42 hD rfl (he_ar (n := 1) tq_34.2 (by decide +kernel)) neI) hD1
  clear hP1 hD1
  have hIS_43 : oInv S_43 := by rw [eS_43]; exact oInv.A (k := 301) hIS_36 tq_34.2 (by decide +kernel)
  have XS_43 : oX [5000] S_36 S_43 := by rw [eS_43]; exact oX.I (k := 301) (key := 5000) tq_34.2 (wk_ar (n := 1) (by decide +kernel)) (List.mem_singleton.mpr rfl)
  have pk_44 : oP S_43 o 0 = some q_1 := by rw [eS_43]; exact pk_37
  have pk_45 : oP S_43 o 1 = some q_12 := by rw [eS_43]; exact pk_38
  have ik_46 : oI S_43 o 2 = 0 := by rw [eS_43, setI_oth (ty_ne (oX.ty XS_36 (oX.ty XS_28 t_25)) tq_34 (by decide +kernel))]; exact ik_39
  have X_47 : oXc [5001] o Z S_43 := by rw [eS_43]; exact oXc.In X_41 nzq_34
  have ik_48 : oI S_43 q_34 0 = 1 := by rw [eS_43]; exact setI_same
  have hEc : isE S_43 q_34 (cuE 0) := isE_1 ik_48
  have t_49 : oty S_43 q_27 30 := (oX.ty XS_43 (oX.ty XS_36 tq_27))
  have t_50 : oty S_43 q_34 301 := (oX.ty XS_43 tq_34)
  have hFc := o_free hD hS hA
  refine va_callv (va_runI (As := [.int 0, .int (-1), .ref q_34]) (rest := [.ref q_27, .int 0, .ref q_12]) ⟨hx, hb, hml, hown, hts⟩ (c_X0_init_c l dC dI H.size tL tS tG cq S_43 hIS_43 q_27 t_49 0 (-1) 1 (by decide +kernel) q_34 t_50 (cuE 0) rfl hEc) (cwI 3 hts gX5_init_X0_init rfl rfl rfl (hts (.initialized RX0) iw_X5_init_7) (hts (.methodLink RX5 20 yX0_init) iw_X5_init_9) (hts (.instanceMethod yX0_init) iw_X5_init_10) rfl (by decide +kernel) ⟨(Nat.le_of_ble_eq_true rfl), (Nat.le_of_ble_eq_true rfl)⟩) (pr_SO hP hK hD (hZ.go hS hFc)) rfl rfl hl.1 rfl (lv_room (Nat.le_of_ble_eq_true rfl)) dX5_init_39 ⟨(Nat.le_of_ble_eq_true rfl), (Nat.le_of_ble_eq_true rfl)⟩) hS (fun q _ h => hFc q h) hFc (fun u t H locs ht hvm w_51 hB hz1 hk1 hS => ?_)
  obtain ⟨S_53, rfl⟩ : ∃ z, z = u := ⟨_, rfl⟩
  obtain ⟨hP1, hK1, hD1⟩ := hB
  rw [ht] at hP1
  have hP : va_P (dC, dI) vwCl (oW cq S_53) H := hP1
  have hD : va_D A (oW cq S_53) := hD1.weaken (fun _ _ _ h => hFc _ h)
  clear hP1 hK1 hD1 hk1 hz1 hvm ht hFc
  refine W.widen (k := 6) (n := 110) (Nat.le_of_ble_eq_true rfl) (Nat.le_of_ble_eq_true rfl) ?_
  obtain ⟨hIS_53, XS_53, hx_54⟩ := w_51
  obtain ⟨hxS_53, hcS_53⟩ := hx_54
  have X_55 : oXc [5001] o Z S_53 := oXc.c X_47 XS_53 nzq_27 (by decide +kernel)
  have pk_56 : oP S_53 o 0 = some q_1 := by rw [oXc.p XS_53 (ty_ne (oX.ty XS_43 (oX.ty XS_36 (oX.ty XS_28 t_25))) t_49 (by decide +kernel)) (oX.ty XS_43 (oX.ty XS_36 (oX.ty XS_28 t_25))) (by decide +kernel)]; exact pk_44
  have pk_57 : oP S_53 o 1 = some q_12 := by rw [oXc.p XS_53 (ty_ne (oX.ty XS_43 (oX.ty XS_36 (oX.ty XS_28 t_25))) t_49 (by decide +kernel)) (oX.ty XS_43 (oX.ty XS_36 (oX.ty XS_28 t_25))) (by decide +kernel)]; exact pk_45
  have ik_58 : oI S_53 o 2 = 0 := by rw [oXc.i XS_53 (ty_ne (oX.ty XS_43 (oX.ty XS_36 (oX.ty XS_28 t_25))) t_49 (by decide +kernel)) (oX.ty XS_43 (oX.ty XS_36 (oX.ty XS_28 t_25))) (by decide +kernel)]; exact ik_46
  have ik_59 : oI S_53 q_34 0 = 1 := by rw [oXc.i XS_53 (ty_ne t_50 t_49 (by decide +kernel)) t_50 (by decide +kernel)]; exact ik_48
  have hcu0 : rCu S_53 q_27 0 := cu_of hcS_53 (by decide +kernel) (by decide +kernel) rfl rfl
  have t_60 : oty S_53 q_12 13 := (oXc.ty XS_53 (ty_ne (oX.ty XS_43 (oX.ty XS_36 (oX.ty XS_28 (oX.ty XS_20 tq_12)))) t_49 (by decide +kernel)) (oX.ty XS_43 (oX.ty XS_36 (oX.ty XS_28 (oX.ty XS_20 tq_12)))))
  obtain ⟨q_61, hq_61⟩ := og (cq := cq) t_60.1 (oE_13 t_60.2)
  obtain ⟨q_62, hq_62⟩ := og (cq := cq) hxS_53.1 (oE_0 hxS_53.2)
  refine va_astq (r := (RX0, TX0, 5)) hx hb hK hP hD hS q_61 2 q_62 0 hq_61 rfl hq_62 rfl (by unfold vp_in; decide) dX5_init_42 (fun H locs hP1 hD1 hS => ?_)
  obtain ⟨S_63, eS_63⟩ : ∃ zq, zq = setP S_53 q_12 (0 : Int32).toNatClampNeg (some q_27) := ⟨_, rfl⟩
  have hP : va_P (dC, dI) vwCl (oW cq S_63) H := by rw [eS_63]; exact cP (oset t_60.1 hq_61 hD rfl (he_13 t_60.2) neP) hP1
  have hD : va_D A (oW cq S_63) := by rw [eS_63]; exact cD (oset t_60.1 hq_61 hD rfl (he_13 t_60.2) neP) hD1
  clear hP1 hD1
  have hIS_63 : oInv S_63 := by rw [eS_63]; exact oInv.P (k := 13) hIS_53 t_60.2 (by decide +kernel) rfl (fun h => absurd h.1 (by decide +kernel)) hxS_53 (show 0 ≤ 0 ∧ 0 ≤ 0 from ⟨Nat.le_refl _, Nat.le_refl _⟩)
  have XS_63 : oX [2013] S_53 S_63 := by rw [eS_63]; exact oX.P (k := 13) (key := 2013) t_60.2 rfl (List.mem_singleton.mpr rfl)
  have pk_64 : oP S_63 o 0 = some q_1 := by rw [eS_63, setP_oth (ty_ne (oXc.ty XS_53 (ty_ne (oX.ty XS_43 (oX.ty XS_36 (oX.ty XS_28 t_25))) t_49 (by decide +kernel)) (oX.ty XS_43 (oX.ty XS_36 (oX.ty XS_28 t_25)))) t_60 (by decide +kernel))]; exact pk_56
  have pk_65 : oP S_63 o 1 = some q_12 := by rw [eS_63, setP_oth (ty_ne (oXc.ty XS_53 (ty_ne (oX.ty XS_43 (oX.ty XS_36 (oX.ty XS_28 t_25))) t_49 (by decide +kernel)) (oX.ty XS_43 (oX.ty XS_36 (oX.ty XS_28 t_25)))) t_60 (by decide +kernel))]; exact pk_57
  have ik_66 : oI S_63 o 2 = 0 := by rw [eS_63]; exact ik_58
  have ik_67 : oI S_63 q_34 0 = 1 := by rw [eS_63]; exact ik_59
  have X_68 : oXc [5001] o Z S_63 := by rw [eS_63]; exact oXc.Pn X_55 nzq_12
  have xm_69 : oX [2013, 5001] S_53 S_63 := oX.st oX.rf XS_63 (by decide +kernel)
  have pk_70 : oP S_63 q_12 0 = some q_27 := by rw [eS_63]; exact setP_same
  refine lv_aload_n hx hb dX5_init_43 rfl (lv_at hl 0 rfl) ?_
  have t_71 : oty S_63 o 35 := (oX.ty XS_63 (oXc.ty XS_53 (ty_ne (oX.ty XS_43 (oX.ty XS_36 (oX.ty XS_28 t_25))) t_49 (by decide +kernel)) (oX.ty XS_43 (oX.ty XS_36 (oX.ty XS_28 t_25)))))
  obtain ⟨q_72, hq_72⟩ := og (cq := cq) t_71.1 (oE_35 t_71.2)
  refine va_get (D := (dC, dI)) (ci := 5) (v := .ref q_12) (C := RX5) (T := TX5) (N := 3) hx hb hts in_wsX5_init_X5 hown hK hP q_72 hq_72 rfl 1 (by decide +kernel) (hts (.fieldLink RX5 17 "ShipOffice$Law" "customs" "[LShipOffice$Act;") iw_X5_init_5) (fun _ h9 => h9) (o_rd pk_65) dX5_init_44 ?_
  refine lv_iconst (v := 1) hx hb dX5_init_47 (by decide +kernel) ?_
  refine va_new (ci := 0) (fs := [.int 0, .int 0, .int 0, .null, .null]) (C := RX0) (T := TX0) (N := 5) hx hb hts in_wsX5_init_X0 tyX0 tyX0_ok hown (hts (.classLink RX5 9 RX0) iw_X5_init_3) (hts (.instantiable RX0 5) iw_X5_init_6) (hts (.initialized RX0) iw_X5_init_7) hK hP hD hS hA rfl (fun j hj => by rcases (show j = 0 ∨ j = 1 ∨ j = 2 ∨ j = 3 ∨ j = 4 by omega) with rfl | rfl | rfl | rfl | rfl <;> rfl) (Nat.le_of_ble_eq_true rfl) (Nat.le_of_ble_eq_true rfl) dX5_init_48 (fun q_73 H hP1 hD1 hS => ?_)
  have hnq_73 := add_q hD1
  obtain ⟨S_74, eS_74⟩ : ∃ zq, zq = addO S_63 q_73 30 := ⟨_, rfl⟩
  have hP : va_P (dC, dI) vwCl (oW cq S_74) H := by rw [eS_74]; exact cP (onew hD1 (by rw [oE_30 add_K, add_I, add_P]; rfl)) hP1
  have hD : va_D A (oW cq S_74) := by rw [eS_74]; exact cD (onew hD1 (by rw [oE_30 add_K, add_I, add_P]; rfl)) hD1
  clear hP1 hD1
  have hIS_74 : oInv S_74 := by rw [eS_74]; exact oInv.add hIS_63 hnq_73 (by decide +kernel)
  have XS_74 : oX [] S_63 S_74 := by rw [eS_74]; exact oX.add hnq_73
  have nzq_73 : q_73 ∉ oL Z := oXc.nin X_68 hnq_73
  have pk_75 : oP S_74 o 0 = some q_1 := by rw [eS_74, add_Pn hnq_73 t_71.1]; exact pk_64
  have pk_76 : oP S_74 o 1 = some q_12 := by rw [eS_74, add_Pn hnq_73 t_71.1]; exact pk_65
  have pk_77 : oP S_74 q_12 0 = some q_27 := by rw [eS_74, add_Pn hnq_73 (oX.ty XS_63 t_60).1]; exact pk_70
  have ik_78 : oI S_74 o 2 = 0 := by rw [eS_74, add_In hnq_73 t_71.1]; exact ik_66
  have ik_79 : oI S_74 q_34 0 = 1 := by rw [eS_74, add_In hnq_73 (oX.ty XS_63 (oXc.ty XS_53 (ty_ne t_50 t_49 (by decide +kernel)) t_50)).1]; exact ik_67
  have sr_80 : oP S_74 o 1 = some q_12 := by rw [eS_74, add_Pn hnq_73 t_71.1]; exact pk_65
  have X_81 : oXc [5001] o Z S_74 := oXc.st X_68 XS_74 (by decide +kernel)
  have xm_82 : oX [2013, 5001] S_53 S_74 := oX.st xm_69 XS_74 (by decide +kernel)
  have tq_73 : oty S_74 q_73 30 := by rw [eS_74]; exact add_ty
  refine W.widen (k := 7) (n := 115) (Nat.le_of_ble_eq_true rfl) (Nat.le_of_ble_eq_true rfl) ?_
  refine lv_dup hx hb dX5_init_51 rfl ?_
  refine lv_iconst (v := 1) hx hb dX5_init_52 (by decide +kernel) ?_
  refine lv_iconst (v := (-1)) hx hb dX5_init_53 (by decide +kernel) ?_
  refine lv_iconst (v := 1) hx hb dX5_init_54 (by decide +kernel) ?_
  refine va_newa (atype := .int) (ty := .int) (a0 := (1, .inl (fun _ => 0))) hx hb (hts (.arrayClass .int) iw_X5_init_8) rfl hK hP hD hS hA (fun _ => rfl) (by decide +kernel) (by decide +kernel) (by decide +kernel) (Nat.le_of_ble_eq_true rfl) (Nat.le_of_ble_eq_true rfl) dX5_init_55 (fun q_83 k_84 H hK1 hP1 hD1 hS => ?_)
  obtain ⟨rfl, -⟩ := lv_ad (k := 0) hK1 rfl
  clear hK1
  have hnq_83 := add_q hD1
  obtain ⟨S_85, eS_85⟩ : ∃ zq, zq = addO S_74 q_83 301 := ⟨_, rfl⟩
  have hP : va_P (dC, dI) vwCl (oW cq S_85) H := by rw [eS_85]; exact cP (onew hD1 (by rw [oE_ar (n := 1) add_K (by decide +kernel), add_I])) hP1
  have hD : va_D A (oW cq S_85) := by rw [eS_85]; exact cD (onew hD1 (by rw [oE_ar (n := 1) add_K (by decide +kernel), add_I])) hD1
  clear hP1 hD1
  have hIS_85 : oInv S_85 := by rw [eS_85]; exact oInv.add hIS_74 hnq_83 (by decide +kernel)
  have XS_85 : oX [] S_74 S_85 := by rw [eS_85]; exact oX.add hnq_83
  have nzq_83 : q_83 ∉ oL Z := oXc.nin X_81 hnq_83
  have pk_86 : oP S_85 o 0 = some q_1 := by rw [eS_85, add_Pn hnq_83 (oX.ty XS_74 t_71).1]; exact pk_75
  have pk_87 : oP S_85 o 1 = some q_12 := by rw [eS_85, add_Pn hnq_83 (oX.ty XS_74 t_71).1]; exact pk_76
  have pk_88 : oP S_85 q_12 0 = some q_27 := by rw [eS_85, add_Pn hnq_83 (oX.ty XS_74 (oX.ty XS_63 t_60)).1]; exact pk_77
  have ik_89 : oI S_85 o 2 = 0 := by rw [eS_85, add_In hnq_83 (oX.ty XS_74 t_71).1]; exact ik_78
  have ik_90 : oI S_85 q_34 0 = 1 := by rw [eS_85, add_In hnq_83 (oX.ty XS_74 (oX.ty XS_63 (oXc.ty XS_53 (ty_ne t_50 t_49 (by decide +kernel)) t_50))).1]; exact ik_79
  have sr_91 : oP S_85 o 1 = some q_12 := by rw [eS_85, add_Pn hnq_83 (oX.ty XS_74 t_71).1]; exact sr_80
  have X_92 : oXc [5001] o Z S_85 := oXc.st X_81 XS_85 (by decide +kernel)
  have xm_93 : oX [2013, 5001] S_53 S_85 := oX.st xm_82 XS_85 (by decide +kernel)
  have tq_83 : oty S_85 q_83 301 := by rw [eS_85]; exact add_ty
  refine W.widen (k := 8) (n := 116) (Nat.le_of_ble_eq_true rfl) (Nat.le_of_ble_eq_true rfl) ?_
  refine lv_dup hx hb dX5_init_57 rfl ?_
  refine lv_iconst (v := 0) hx hb dX5_init_58 (by decide +kernel) ?_
  refine lv_bipush (v := (-6)) hx hb dX5_init_59 (by decide +kernel) ?_
  obtain ⟨q_94, hq_94⟩ := og (cq := cq) tq_83.1 (oE_ar (n := 1) tq_83.2 (by decide +kernel))
  refine va_iast hx hb hK hP hD hS q_94 0 hq_94 rfl (by unfold vp_in; decide) dX5_init_61 (fun H locs hP1 hD1 hS => ?_)
  obtain ⟨S_95, eS_95⟩ : ∃ zq, zq = setI S_85 q_83 (0 : Int32).toNatClampNeg (-6) := ⟨_, rfl⟩
  have hP : va_P (dC, dI) vwCl (oW cq S_95) H := by rw [eS_95]; exact cP (oset tq_83.1 hq_94 hD rfl (he_ar (n := 1) tq_83.2 (by decide +kernel)) neI) hP1
  have hD : va_D A (oW cq S_95) := by rw [eS_95]; exact cD (oset tq_83.1 hq_94 hD rfl (he_ar (n := 1) tq_83.2 (by decide +kernel)) neI) hD1
  clear hP1 hD1
  have hIS_95 : oInv S_95 := by rw [eS_95]; exact oInv.A (k := 301) hIS_85 tq_83.2 (by decide +kernel)
  have XS_95 : oX [5000] S_85 S_95 := by rw [eS_95]; exact oX.I (k := 301) (key := 5000) tq_83.2 (wk_ar (n := 1) (by decide +kernel)) (List.mem_singleton.mpr rfl)
  have pk_96 : oP S_95 o 0 = some q_1 := by rw [eS_95]; exact pk_86
  have pk_97 : oP S_95 o 1 = some q_12 := by rw [eS_95]; exact pk_87
  have pk_98 : oP S_95 q_12 0 = some q_27 := by rw [eS_95]; exact pk_88
  have ik_99 : oI S_95 o 2 = 0 := by rw [eS_95, setI_oth (ty_ne (oX.ty XS_85 (oX.ty XS_74 t_71)) tq_83 (by decide +kernel))]; exact ik_89
  have X_101 : oXc [5001] o Z S_95 := by rw [eS_95]; exact oXc.In X_92 nzq_83
  have xm_102 : oX [2013, 5001] S_53 S_95 := by rw [eS_95]; exact oX.In xm_93 (oX.nin xm_82 hnq_83)
  have ik_103 : oI S_95 q_83 0 = (-6) := by rw [eS_95]; exact setI_same
  have hEc : isE S_95 q_83 (cuE 1) := isE_1 ik_103
  have t_104 : oty S_95 q_73 30 := (oX.ty XS_95 (oX.ty XS_85 tq_73))
  have t_105 : oty S_95 q_83 301 := (oX.ty XS_95 tq_83)
  have hFc := o_free hD hS hA
  refine va_callv (va_runI (As := [.int 1, .int (-1), .ref q_83]) (rest := [.ref q_73, .int 1, .ref q_12]) ⟨hx, hb, hml, hown, hts⟩ (c_X0_init_c l dC dI H.size tL tS tG cq S_95 hIS_95 q_73 t_104 1 (-1) 1 (by decide +kernel) q_83 t_105 (cuE 1) rfl hEc) (cwI 3 hts gX5_init_X0_init rfl rfl rfl (hts (.initialized RX0) iw_X5_init_7) (hts (.methodLink RX5 20 yX0_init) iw_X5_init_9) (hts (.instanceMethod yX0_init) iw_X5_init_10) rfl (by decide +kernel) ⟨(Nat.le_of_ble_eq_true rfl), (Nat.le_of_ble_eq_true rfl)⟩) (pr_SO hP hK hD (hZ.go hS hFc)) rfl rfl hl.1 rfl (lv_room (Nat.le_of_ble_eq_true rfl)) dX5_init_62 ⟨(Nat.le_of_ble_eq_true rfl), (Nat.le_of_ble_eq_true rfl)⟩) hS (fun q _ h => hFc q h) hFc (fun u t H locs ht hvm w_106 hB hz1 hk1 hS => ?_)
  obtain ⟨S_108, rfl⟩ : ∃ z, z = u := ⟨_, rfl⟩
  obtain ⟨hP1, hK1, hD1⟩ := hB
  rw [ht] at hP1
  have hP : va_P (dC, dI) vwCl (oW cq S_108) H := hP1
  have hD : va_D A (oW cq S_108) := hD1.weaken (fun _ _ _ h => hFc _ h)
  clear hP1 hK1 hD1 hk1 hz1 hvm ht hFc
  refine W.widen (k := 10) (n := 185) (Nat.le_of_ble_eq_true rfl) (Nat.le_of_ble_eq_true rfl) ?_
  obtain ⟨hIS_108, XS_108, hx_109⟩ := w_106
  obtain ⟨hxS_108, hcS_108⟩ := hx_109
  have X_110 : oXc [5001] o Z S_108 := oXc.c X_101 XS_108 nzq_73 (by decide +kernel)
  have pk_111 : oP S_108 o 0 = some q_1 := by rw [oXc.p XS_108 (ty_ne (oX.ty XS_95 (oX.ty XS_85 (oX.ty XS_74 t_71))) t_104 (by decide +kernel)) (oX.ty XS_95 (oX.ty XS_85 (oX.ty XS_74 t_71))) (by decide +kernel)]; exact pk_96
  have pk_112 : oP S_108 o 1 = some q_12 := by rw [oXc.p XS_108 (ty_ne (oX.ty XS_95 (oX.ty XS_85 (oX.ty XS_74 t_71))) t_104 (by decide +kernel)) (oX.ty XS_95 (oX.ty XS_85 (oX.ty XS_74 t_71))) (by decide +kernel)]; exact pk_97
  have pk_113 : oP S_108 q_12 0 = some q_27 := by rw [oXc.p XS_108 (ty_ne (oX.ty XS_95 (oX.ty XS_85 (oX.ty XS_74 (oX.ty XS_63 t_60)))) t_104 (by decide +kernel)) (oX.ty XS_95 (oX.ty XS_85 (oX.ty XS_74 (oX.ty XS_63 t_60)))) (by decide +kernel)]; exact pk_98
  have ik_114 : oI S_108 o 2 = 0 := by rw [oXc.i XS_108 (ty_ne (oX.ty XS_95 (oX.ty XS_85 (oX.ty XS_74 t_71))) t_104 (by decide +kernel)) (oX.ty XS_95 (oX.ty XS_85 (oX.ty XS_74 t_71))) (by decide +kernel)]; exact ik_99
  have ik_115 : oI S_108 q_83 0 = (-6) := by rw [oXc.i XS_108 (ty_ne t_105 t_104 (by decide +kernel)) t_105 (by decide +kernel)]; exact ik_103
  have xm_116 : oX [2013, 5001] S_53 S_108 := oX.c xm_102 XS_108 (oX.nin xm_69 hnq_73) (by decide +kernel)
  have hcu1 : rCu S_108 q_73 1 := cu_of hcS_108 (by decide +kernel) (by decide +kernel) rfl rfl
  have t_117 : oty S_108 q_12 13 := (oXc.ty XS_108 (ty_ne (oX.ty XS_95 (oX.ty XS_85 (oX.ty XS_74 (oX.ty XS_63 t_60)))) t_104 (by decide +kernel)) (oX.ty XS_95 (oX.ty XS_85 (oX.ty XS_74 (oX.ty XS_63 t_60)))))
  obtain ⟨q_118, hq_118⟩ := og (cq := cq) t_117.1 (oE_13 t_117.2)
  obtain ⟨q_119, hq_119⟩ := og (cq := cq) hxS_108.1 (oE_0 hxS_108.2)
  refine va_astq (r := (RX0, TX0, 5)) hx hb hK hP hD hS q_118 2 q_119 0 hq_118 rfl hq_119 rfl (by unfold vp_in; decide) dX5_init_65 (fun H locs hP1 hD1 hS => ?_)
  obtain ⟨S_120, eS_120⟩ : ∃ zq, zq = setP S_108 q_12 (1 : Int32).toNatClampNeg (some q_73) := ⟨_, rfl⟩
  have hP : va_P (dC, dI) vwCl (oW cq S_120) H := by rw [eS_120]; exact cP (oset t_117.1 hq_118 hD rfl (he_13 t_117.2) neP) hP1
  have hD : va_D A (oW cq S_120) := by rw [eS_120]; exact cD (oset t_117.1 hq_118 hD rfl (he_13 t_117.2) neP) hD1
  clear hP1 hD1
  have hIS_120 : oInv S_120 := by rw [eS_120]; exact oInv.P (k := 13) hIS_108 t_117.2 (by decide +kernel) rfl (fun h => absurd h.1 (by decide +kernel)) hxS_108 (show 0 ≤ 0 ∧ 0 ≤ 0 from ⟨Nat.le_refl _, Nat.le_refl _⟩)
  have XS_120 : oX [2013] S_108 S_120 := by rw [eS_120]; exact oX.P (k := 13) (key := 2013) t_117.2 rfl (List.mem_singleton.mpr rfl)
  have pk_121 : oP S_120 o 0 = some q_1 := by rw [eS_120, setP_oth (ty_ne (oXc.ty XS_108 (ty_ne (oX.ty XS_95 (oX.ty XS_85 (oX.ty XS_74 t_71))) t_104 (by decide +kernel)) (oX.ty XS_95 (oX.ty XS_85 (oX.ty XS_74 t_71)))) t_117 (by decide +kernel))]; exact pk_111
  have pk_122 : oP S_120 o 1 = some q_12 := by rw [eS_120, setP_oth (ty_ne (oXc.ty XS_108 (ty_ne (oX.ty XS_95 (oX.ty XS_85 (oX.ty XS_74 t_71))) t_104 (by decide +kernel)) (oX.ty XS_95 (oX.ty XS_85 (oX.ty XS_74 t_71)))) t_117 (by decide +kernel))]; exact pk_112
  have pk_123 : oP S_120 q_12 0 = some q_27 := by rw [eS_120, setP_ne (by decide +kernel)]; exact pk_113
  have ik_124 : oI S_120 o 2 = 0 := by rw [eS_120]; exact ik_114
  have ik_125 : oI S_120 q_83 0 = (-6) := by rw [eS_120]; exact ik_115
  have X_126 : oXc [5001] o Z S_120 := by rw [eS_120]; exact oXc.Pn X_110 nzq_12
  have xm_127 : oX [2013, 5001] S_53 S_120 := oX.st xm_116 XS_120 (by decide +kernel)
  have xm_128 : oX [2013, 5001] S_108 S_120 := oX.st oX.rf XS_120 (by decide +kernel)
  have pk_129 : oP S_120 q_12 1 = some q_73 := by rw [eS_120]; exact setP_same
  refine lv_aload_n hx hb dX5_init_66 rfl (lv_at hl 0 rfl) ?_
  have t_130 : oty S_120 o 35 := (oX.ty XS_120 (oXc.ty XS_108 (ty_ne (oX.ty XS_95 (oX.ty XS_85 (oX.ty XS_74 t_71))) t_104 (by decide +kernel)) (oX.ty XS_95 (oX.ty XS_85 (oX.ty XS_74 t_71)))))
  obtain ⟨q_131, hq_131⟩ := og (cq := cq) t_130.1 (oE_35 t_130.2)
  refine va_get (D := (dC, dI)) (ci := 5) (v := .ref q_12) (C := RX5) (T := TX5) (N := 3) hx hb hts in_wsX5_init_X5 hown hK hP q_131 hq_131 rfl 1 (by decide +kernel) (hts (.fieldLink RX5 17 "ShipOffice$Law" "customs" "[LShipOffice$Act;") iw_X5_init_5) (fun _ h9 => h9) (o_rd pk_122) dX5_init_67 ?_
  refine lv_iconst (v := 2) hx hb dX5_init_70 (by decide +kernel) ?_
  refine va_new (ci := 0) (fs := [.int 0, .int 0, .int 0, .null, .null]) (C := RX0) (T := TX0) (N := 5) hx hb hts in_wsX5_init_X0 tyX0 tyX0_ok hown (hts (.classLink RX5 9 RX0) iw_X5_init_3) (hts (.instantiable RX0 5) iw_X5_init_6) (hts (.initialized RX0) iw_X5_init_7) hK hP hD hS hA rfl (fun j hj => by rcases (show j = 0 ∨ j = 1 ∨ j = 2 ∨ j = 3 ∨ j = 4 by omega) with rfl | rfl | rfl | rfl | rfl <;> rfl) (Nat.le_of_ble_eq_true rfl) (Nat.le_of_ble_eq_true rfl) dX5_init_71 (fun q_132 H hP1 hD1 hS => ?_)
  have hnq_132 := add_q hD1
  obtain ⟨S_133, eS_133⟩ : ∃ zq, zq = addO S_120 q_132 30 := ⟨_, rfl⟩
  have hP : va_P (dC, dI) vwCl (oW cq S_133) H := by rw [eS_133]; exact cP (onew hD1 (by rw [oE_30 add_K, add_I, add_P]; rfl)) hP1
  have hD : va_D A (oW cq S_133) := by rw [eS_133]; exact cD (onew hD1 (by rw [oE_30 add_K, add_I, add_P]; rfl)) hD1
  clear hP1 hD1
  have hIS_133 : oInv S_133 := by rw [eS_133]; exact oInv.add hIS_120 hnq_132 (by decide +kernel)
  have XS_133 : oX [] S_120 S_133 := by rw [eS_133]; exact oX.add hnq_132
  have nzq_132 : q_132 ∉ oL Z := oXc.nin X_126 hnq_132
  have pk_134 : oP S_133 o 0 = some q_1 := by rw [eS_133, add_Pn hnq_132 t_130.1]; exact pk_121
  have pk_135 : oP S_133 o 1 = some q_12 := by rw [eS_133, add_Pn hnq_132 t_130.1]; exact pk_122
  have pk_136 : oP S_133 q_12 0 = some q_27 := by rw [eS_133, add_Pn hnq_132 (oX.ty XS_120 t_117).1]; exact pk_123
  have pk_137 : oP S_133 q_12 1 = some q_73 := by rw [eS_133, add_Pn hnq_132 (oX.ty XS_120 t_117).1]; exact pk_129
  have ik_138 : oI S_133 o 2 = 0 := by rw [eS_133, add_In hnq_132 t_130.1]; exact ik_124
  have ik_139 : oI S_133 q_83 0 = (-6) := by rw [eS_133, add_In hnq_132 (oX.ty XS_120 (oXc.ty XS_108 (ty_ne t_105 t_104 (by decide +kernel)) t_105)).1]; exact ik_125
  have sr_140 : oP S_133 o 1 = some q_12 := by rw [eS_133, add_Pn hnq_132 t_130.1]; exact pk_122
  have X_141 : oXc [5001] o Z S_133 := oXc.st X_126 XS_133 (by decide +kernel)
  have xm_142 : oX [2013, 5001] S_53 S_133 := oX.st xm_127 XS_133 (by decide +kernel)
  have xm_143 : oX [2013, 5001] S_108 S_133 := oX.st xm_128 XS_133 (by decide +kernel)
  have tq_132 : oty S_133 q_132 30 := by rw [eS_133]; exact add_ty
  refine W.widen (k := 11) (n := 190) (Nat.le_of_ble_eq_true rfl) (Nat.le_of_ble_eq_true rfl) ?_
  refine lv_dup hx hb dX5_init_74 rfl ?_
  refine lv_iconst (v := 2) hx hb dX5_init_75 (by decide +kernel) ?_
  refine lv_iconst (v := (-1)) hx hb dX5_init_76 (by decide +kernel) ?_
  refine lv_iconst (v := 1) hx hb dX5_init_77 (by decide +kernel) ?_
  refine va_newa (atype := .int) (ty := .int) (a0 := (1, .inl (fun _ => 0))) hx hb (hts (.arrayClass .int) iw_X5_init_8) rfl hK hP hD hS hA (fun _ => rfl) (by decide +kernel) (by decide +kernel) (by decide +kernel) (Nat.le_of_ble_eq_true rfl) (Nat.le_of_ble_eq_true rfl) dX5_init_78 (fun q_144 k_145 H hK1 hP1 hD1 hS => ?_)
  obtain ⟨rfl, -⟩ := lv_ad (k := 0) hK1 rfl
  clear hK1
  have hnq_144 := add_q hD1
  obtain ⟨S_146, eS_146⟩ : ∃ zq, zq = addO S_133 q_144 301 := ⟨_, rfl⟩
  have hP : va_P (dC, dI) vwCl (oW cq S_146) H := by rw [eS_146]; exact cP (onew hD1 (by rw [oE_ar (n := 1) add_K (by decide +kernel), add_I])) hP1
  have hD : va_D A (oW cq S_146) := by rw [eS_146]; exact cD (onew hD1 (by rw [oE_ar (n := 1) add_K (by decide +kernel), add_I])) hD1
  clear hP1 hD1
  have hIS_146 : oInv S_146 := by rw [eS_146]; exact oInv.add hIS_133 hnq_144 (by decide +kernel)
  have XS_146 : oX [] S_133 S_146 := by rw [eS_146]; exact oX.add hnq_144
  have nzq_144 : q_144 ∉ oL Z := oXc.nin X_141 hnq_144
  have pk_147 : oP S_146 o 0 = some q_1 := by rw [eS_146, add_Pn hnq_144 (oX.ty XS_133 t_130).1]; exact pk_134
  have pk_148 : oP S_146 o 1 = some q_12 := by rw [eS_146, add_Pn hnq_144 (oX.ty XS_133 t_130).1]; exact pk_135
  have pk_149 : oP S_146 q_12 0 = some q_27 := by rw [eS_146, add_Pn hnq_144 (oX.ty XS_133 (oX.ty XS_120 t_117)).1]; exact pk_136
  have pk_150 : oP S_146 q_12 1 = some q_73 := by rw [eS_146, add_Pn hnq_144 (oX.ty XS_133 (oX.ty XS_120 t_117)).1]; exact pk_137
  have ik_151 : oI S_146 o 2 = 0 := by rw [eS_146, add_In hnq_144 (oX.ty XS_133 t_130).1]; exact ik_138
  have ik_152 : oI S_146 q_83 0 = (-6) := by rw [eS_146, add_In hnq_144 (oX.ty XS_133 (oX.ty XS_120 (oXc.ty XS_108 (ty_ne t_105 t_104 (by decide +kernel)) t_105))).1]; exact ik_139
  have sr_153 : oP S_146 o 1 = some q_12 := by rw [eS_146, add_Pn hnq_144 (oX.ty XS_133 t_130).1]; exact sr_140
  have X_154 : oXc [5001] o Z S_146 := oXc.st X_141 XS_146 (by decide +kernel)
  have xm_155 : oX [2013, 5001] S_53 S_146 := oX.st xm_142 XS_146 (by decide +kernel)
  have xm_156 : oX [2013, 5001] S_108 S_146 := oX.st xm_143 XS_146 (by decide +kernel)
  have tq_144 : oty S_146 q_144 301 := by rw [eS_146]; exact add_ty
  refine W.widen (k := 12) (n := 191) (Nat.le_of_ble_eq_true rfl) (Nat.le_of_ble_eq_true rfl) ?_
  refine lv_dup hx hb dX5_init_80 rfl ?_
  refine lv_iconst (v := 0) hx hb dX5_init_81 (by decide +kernel) ?_
  refine lv_bipush (v := 100) hx hb dX5_init_82 (by decide +kernel) ?_
  obtain ⟨q_157, hq_157⟩ := og (cq := cq) tq_144.1 (oE_ar (n := 1) tq_144.2 (by decide +kernel))
  refine va_iast hx hb hK hP hD hS q_157 0 hq_157 rfl (by unfold vp_in; decide) dX5_init_84 (fun H locs hP1 hD1 hS => ?_)
  obtain ⟨S_158, eS_158⟩ : ∃ zq, zq = setI S_146 q_144 (0 : Int32).toNatClampNeg 100 := ⟨_, rfl⟩
  have hP : va_P (dC, dI) vwCl (oW cq S_158) H := by rw [eS_158]; exact cP (oset tq_144.1 hq_157 hD rfl (he_ar (n := 1) tq_144.2 (by decide +kernel)) neI) hP1
  have hD : va_D A (oW cq S_158) := by rw [eS_158]; exact cD (oset tq_144.1 hq_157 hD rfl (he_ar (n := 1) tq_144.2 (by decide +kernel)) neI) hD1
  clear hP1 hD1
  have hIS_158 : oInv S_158 := by rw [eS_158]; exact oInv.A (k := 301) hIS_146 tq_144.2 (by decide +kernel)
  have XS_158 : oX [5000] S_146 S_158 := by rw [eS_158]; exact oX.I (k := 301) (key := 5000) tq_144.2 (wk_ar (n := 1) (by decide +kernel)) (List.mem_singleton.mpr rfl)
  have pk_159 : oP S_158 o 0 = some q_1 := by rw [eS_158]; exact pk_147
  have pk_160 : oP S_158 o 1 = some q_12 := by rw [eS_158]; exact pk_148
  have pk_161 : oP S_158 q_12 0 = some q_27 := by rw [eS_158]; exact pk_149
  have pk_162 : oP S_158 q_12 1 = some q_73 := by rw [eS_158]; exact pk_150
  have ik_163 : oI S_158 o 2 = 0 := by rw [eS_158, setI_oth (ty_ne (oX.ty XS_146 (oX.ty XS_133 t_130)) tq_144 (by decide +kernel))]; exact ik_151
  have X_165 : oXc [5001] o Z S_158 := by rw [eS_158]; exact oXc.In X_154 nzq_144
  have xm_166 : oX [2013, 5001] S_53 S_158 := by rw [eS_158]; exact oX.In xm_155 (oX.nin xm_142 hnq_144)
  have xm_167 : oX [2013, 5001] S_108 S_158 := by rw [eS_158]; exact oX.In xm_156 (oX.nin xm_143 hnq_144)
  have ik_168 : oI S_158 q_144 0 = 100 := by rw [eS_158]; exact setI_same
  have hEc : isE S_158 q_144 (cuE 2) := isE_1 ik_168
  have t_169 : oty S_158 q_132 30 := (oX.ty XS_158 (oX.ty XS_146 tq_132))
  have t_170 : oty S_158 q_144 301 := (oX.ty XS_158 tq_144)
  have hFc := o_free hD hS hA
  refine va_callv (va_runI (As := [.int 2, .int (-1), .ref q_144]) (rest := [.ref q_132, .int 2, .ref q_12]) ⟨hx, hb, hml, hown, hts⟩ (c_X0_init_c l dC dI H.size tL tS tG cq S_158 hIS_158 q_132 t_169 2 (-1) 1 (by decide +kernel) q_144 t_170 (cuE 2) rfl hEc) (cwI 3 hts gX5_init_X0_init rfl rfl rfl (hts (.initialized RX0) iw_X5_init_7) (hts (.methodLink RX5 20 yX0_init) iw_X5_init_9) (hts (.instanceMethod yX0_init) iw_X5_init_10) rfl (by decide +kernel) ⟨(Nat.le_of_ble_eq_true rfl), (Nat.le_of_ble_eq_true rfl)⟩) (pr_SO hP hK hD (hZ.go hS hFc)) rfl rfl hl.1 rfl (lv_room (Nat.le_of_ble_eq_true rfl)) dX5_init_85 ⟨(Nat.le_of_ble_eq_true rfl), (Nat.le_of_ble_eq_true rfl)⟩) hS (fun q _ h => hFc q h) hFc (fun u t H locs ht hvm w_171 hB hz1 hk1 hS => ?_)
  obtain ⟨S_173, rfl⟩ : ∃ z, z = u := ⟨_, rfl⟩
  obtain ⟨hP1, hK1, hD1⟩ := hB
  rw [ht] at hP1
  have hP : va_P (dC, dI) vwCl (oW cq S_173) H := hP1
  have hD : va_D A (oW cq S_173) := hD1.weaken (fun _ _ _ h => hFc _ h)
  clear hP1 hK1 hD1 hk1 hz1 hvm ht hFc
  refine W.widen (k := 14) (n := 260) (Nat.le_of_ble_eq_true rfl) (Nat.le_of_ble_eq_true rfl) ?_
  obtain ⟨hIS_173, XS_173, hx_174⟩ := w_171
  obtain ⟨hxS_173, hcS_173⟩ := hx_174
  have X_175 : oXc [5001] o Z S_173 := oXc.c X_165 XS_173 nzq_132 (by decide +kernel)
  have pk_176 : oP S_173 o 0 = some q_1 := by rw [oXc.p XS_173 (ty_ne (oX.ty XS_158 (oX.ty XS_146 (oX.ty XS_133 t_130))) t_169 (by decide +kernel)) (oX.ty XS_158 (oX.ty XS_146 (oX.ty XS_133 t_130))) (by decide +kernel)]; exact pk_159
  have pk_177 : oP S_173 o 1 = some q_12 := by rw [oXc.p XS_173 (ty_ne (oX.ty XS_158 (oX.ty XS_146 (oX.ty XS_133 t_130))) t_169 (by decide +kernel)) (oX.ty XS_158 (oX.ty XS_146 (oX.ty XS_133 t_130))) (by decide +kernel)]; exact pk_160
  have pk_178 : oP S_173 q_12 0 = some q_27 := by rw [oXc.p XS_173 (ty_ne (oX.ty XS_158 (oX.ty XS_146 (oX.ty XS_133 (oX.ty XS_120 t_117)))) t_169 (by decide +kernel)) (oX.ty XS_158 (oX.ty XS_146 (oX.ty XS_133 (oX.ty XS_120 t_117)))) (by decide +kernel)]; exact pk_161
  have pk_179 : oP S_173 q_12 1 = some q_73 := by rw [oXc.p XS_173 (ty_ne (oX.ty XS_158 (oX.ty XS_146 (oX.ty XS_133 (oX.ty XS_120 t_117)))) t_169 (by decide +kernel)) (oX.ty XS_158 (oX.ty XS_146 (oX.ty XS_133 (oX.ty XS_120 t_117)))) (by decide +kernel)]; exact pk_162
  have ik_180 : oI S_173 o 2 = 0 := by rw [oXc.i XS_173 (ty_ne (oX.ty XS_158 (oX.ty XS_146 (oX.ty XS_133 t_130))) t_169 (by decide +kernel)) (oX.ty XS_158 (oX.ty XS_146 (oX.ty XS_133 t_130))) (by decide +kernel)]; exact ik_163
  have ik_181 : oI S_173 q_144 0 = 100 := by rw [oXc.i XS_173 (ty_ne t_170 t_169 (by decide +kernel)) t_170 (by decide +kernel)]; exact ik_168
  have xm_182 : oX [2013, 5001] S_53 S_173 := oX.c xm_166 XS_173 (oX.nin xm_127 hnq_132) (by decide +kernel)
  have xm_183 : oX [2013, 5001] S_108 S_173 := oX.c xm_167 XS_173 (oX.nin xm_128 hnq_132) (by decide +kernel)
  have hcu2 : rCu S_173 q_132 2 := cu_of hcS_173 (by decide +kernel) (by decide +kernel) rfl rfl
  have t_184 : oty S_173 q_12 13 := (oXc.ty XS_173 (ty_ne (oX.ty XS_158 (oX.ty XS_146 (oX.ty XS_133 (oX.ty XS_120 t_117)))) t_169 (by decide +kernel)) (oX.ty XS_158 (oX.ty XS_146 (oX.ty XS_133 (oX.ty XS_120 t_117)))))
  obtain ⟨q_185, hq_185⟩ := og (cq := cq) t_184.1 (oE_13 t_184.2)
  obtain ⟨q_186, hq_186⟩ := og (cq := cq) hxS_173.1 (oE_0 hxS_173.2)
  refine va_astq (r := (RX0, TX0, 5)) hx hb hK hP hD hS q_185 2 q_186 0 hq_185 rfl hq_186 rfl (by unfold vp_in; decide) dX5_init_88 (fun H locs hP1 hD1 hS => ?_)
  obtain ⟨S_187, eS_187⟩ : ∃ zq, zq = setP S_173 q_12 (2 : Int32).toNatClampNeg (some q_132) := ⟨_, rfl⟩
  have hP : va_P (dC, dI) vwCl (oW cq S_187) H := by rw [eS_187]; exact cP (oset t_184.1 hq_185 hD rfl (he_13 t_184.2) neP) hP1
  have hD : va_D A (oW cq S_187) := by rw [eS_187]; exact cD (oset t_184.1 hq_185 hD rfl (he_13 t_184.2) neP) hD1
  clear hP1 hD1
  have hIS_187 : oInv S_187 := by rw [eS_187]; exact oInv.P (k := 13) hIS_173 t_184.2 (by decide +kernel) rfl (fun h => absurd h.1 (by decide +kernel)) hxS_173 (show 0 ≤ 0 ∧ 0 ≤ 0 from ⟨Nat.le_refl _, Nat.le_refl _⟩)
  have XS_187 : oX [2013] S_173 S_187 := by rw [eS_187]; exact oX.P (k := 13) (key := 2013) t_184.2 rfl (List.mem_singleton.mpr rfl)
  have pk_188 : oP S_187 o 0 = some q_1 := by rw [eS_187, setP_oth (ty_ne (oXc.ty XS_173 (ty_ne (oX.ty XS_158 (oX.ty XS_146 (oX.ty XS_133 t_130))) t_169 (by decide +kernel)) (oX.ty XS_158 (oX.ty XS_146 (oX.ty XS_133 t_130)))) t_184 (by decide +kernel))]; exact pk_176
  have pk_189 : oP S_187 o 1 = some q_12 := by rw [eS_187, setP_oth (ty_ne (oXc.ty XS_173 (ty_ne (oX.ty XS_158 (oX.ty XS_146 (oX.ty XS_133 t_130))) t_169 (by decide +kernel)) (oX.ty XS_158 (oX.ty XS_146 (oX.ty XS_133 t_130)))) t_184 (by decide +kernel))]; exact pk_177
  have pk_190 : oP S_187 q_12 0 = some q_27 := by rw [eS_187, setP_ne (by decide +kernel)]; exact pk_178
  have pk_191 : oP S_187 q_12 1 = some q_73 := by rw [eS_187, setP_ne (by decide +kernel)]; exact pk_179
  have ik_192 : oI S_187 o 2 = 0 := by rw [eS_187]; exact ik_180
  have ik_193 : oI S_187 q_144 0 = 100 := by rw [eS_187]; exact ik_181
  have X_194 : oXc [5001] o Z S_187 := by rw [eS_187]; exact oXc.Pn X_175 nzq_12
  have xm_195 : oX [2013, 5001] S_53 S_187 := oX.st xm_182 XS_187 (by decide +kernel)
  have xm_196 : oX [2013, 5001] S_108 S_187 := oX.st xm_183 XS_187 (by decide +kernel)
  have xm_197 : oX [2013, 5001] S_173 S_187 := oX.st oX.rf XS_187 (by decide +kernel)
  have pk_198 : oP S_187 q_12 2 = some q_132 := by rw [eS_187]; exact setP_same
  refine lv_aload_n hx hb dX5_init_89 rfl (lv_at hl 0 rfl) ?_
  have t_199 : oty S_187 o 35 := (oX.ty XS_187 (oXc.ty XS_173 (ty_ne (oX.ty XS_158 (oX.ty XS_146 (oX.ty XS_133 t_130))) t_169 (by decide +kernel)) (oX.ty XS_158 (oX.ty XS_146 (oX.ty XS_133 t_130)))))
  obtain ⟨q_200, hq_200⟩ := og (cq := cq) t_199.1 (oE_35 t_199.2)
  refine va_get (D := (dC, dI)) (ci := 5) (v := .ref q_12) (C := RX5) (T := TX5) (N := 3) hx hb hts in_wsX5_init_X5 hown hK hP q_200 hq_200 rfl 1 (by decide +kernel) (hts (.fieldLink RX5 17 "ShipOffice$Law" "customs" "[LShipOffice$Act;") iw_X5_init_5) (fun _ h9 => h9) (o_rd pk_189) dX5_init_90 ?_
  refine lv_iconst (v := 3) hx hb dX5_init_93 (by decide +kernel) ?_
  refine va_new (ci := 0) (fs := [.int 0, .int 0, .int 0, .null, .null]) (C := RX0) (T := TX0) (N := 5) hx hb hts in_wsX5_init_X0 tyX0 tyX0_ok hown (hts (.classLink RX5 9 RX0) iw_X5_init_3) (hts (.instantiable RX0 5) iw_X5_init_6) (hts (.initialized RX0) iw_X5_init_7) hK hP hD hS hA rfl (fun j hj => by rcases (show j = 0 ∨ j = 1 ∨ j = 2 ∨ j = 3 ∨ j = 4 by omega) with rfl | rfl | rfl | rfl | rfl <;> rfl) (Nat.le_of_ble_eq_true rfl) (Nat.le_of_ble_eq_true rfl) dX5_init_94 (fun q_201 H hP1 hD1 hS => ?_)
  have hnq_201 := add_q hD1
  obtain ⟨S_202, eS_202⟩ : ∃ zq, zq = addO S_187 q_201 30 := ⟨_, rfl⟩
  have hP : va_P (dC, dI) vwCl (oW cq S_202) H := by rw [eS_202]; exact cP (onew hD1 (by rw [oE_30 add_K, add_I, add_P]; rfl)) hP1
  have hD : va_D A (oW cq S_202) := by rw [eS_202]; exact cD (onew hD1 (by rw [oE_30 add_K, add_I, add_P]; rfl)) hD1
  clear hP1 hD1
  have hIS_202 : oInv S_202 := by rw [eS_202]; exact oInv.add hIS_187 hnq_201 (by decide +kernel)
  have XS_202 : oX [] S_187 S_202 := by rw [eS_202]; exact oX.add hnq_201
  have nzq_201 : q_201 ∉ oL Z := oXc.nin X_194 hnq_201
  have pk_203 : oP S_202 o 0 = some q_1 := by rw [eS_202, add_Pn hnq_201 t_199.1]; exact pk_188
  have pk_204 : oP S_202 o 1 = some q_12 := by rw [eS_202, add_Pn hnq_201 t_199.1]; exact pk_189
  have pk_205 : oP S_202 q_12 0 = some q_27 := by rw [eS_202, add_Pn hnq_201 (oX.ty XS_187 t_184).1]; exact pk_190
  have pk_206 : oP S_202 q_12 1 = some q_73 := by rw [eS_202, add_Pn hnq_201 (oX.ty XS_187 t_184).1]; exact pk_191
  have pk_207 : oP S_202 q_12 2 = some q_132 := by rw [eS_202, add_Pn hnq_201 (oX.ty XS_187 t_184).1]; exact pk_198
  have ik_208 : oI S_202 o 2 = 0 := by rw [eS_202, add_In hnq_201 t_199.1]; exact ik_192
  have ik_209 : oI S_202 q_144 0 = 100 := by rw [eS_202, add_In hnq_201 (oX.ty XS_187 (oXc.ty XS_173 (ty_ne t_170 t_169 (by decide +kernel)) t_170)).1]; exact ik_193
  have sr_210 : oP S_202 o 1 = some q_12 := by rw [eS_202, add_Pn hnq_201 t_199.1]; exact pk_189
  have X_211 : oXc [5001] o Z S_202 := oXc.st X_194 XS_202 (by decide +kernel)
  have xm_212 : oX [2013, 5001] S_53 S_202 := oX.st xm_195 XS_202 (by decide +kernel)
  have xm_213 : oX [2013, 5001] S_108 S_202 := oX.st xm_196 XS_202 (by decide +kernel)
  have xm_214 : oX [2013, 5001] S_173 S_202 := oX.st xm_197 XS_202 (by decide +kernel)
  have tq_201 : oty S_202 q_201 30 := by rw [eS_202]; exact add_ty
  refine W.widen (k := 15) (n := 265) (Nat.le_of_ble_eq_true rfl) (Nat.le_of_ble_eq_true rfl) ?_
  refine lv_dup hx hb dX5_init_97 rfl ?_
  refine lv_iconst (v := 3) hx hb dX5_init_98 (by decide +kernel) ?_
  refine lv_iconst (v := (-1)) hx hb dX5_init_99 (by decide +kernel) ?_
  refine lv_iconst (v := 1) hx hb dX5_init_100 (by decide +kernel) ?_
  refine va_newa (atype := .int) (ty := .int) (a0 := (1, .inl (fun _ => 0))) hx hb (hts (.arrayClass .int) iw_X5_init_8) rfl hK hP hD hS hA (fun _ => rfl) (by decide +kernel) (by decide +kernel) (by decide +kernel) (Nat.le_of_ble_eq_true rfl) (Nat.le_of_ble_eq_true rfl) dX5_init_101 (fun q_215 k_216 H hK1 hP1 hD1 hS => ?_)
  obtain ⟨rfl, -⟩ := lv_ad (k := 0) hK1 rfl
  clear hK1
  have hnq_215 := add_q hD1
  obtain ⟨S_217, eS_217⟩ : ∃ zq, zq = addO S_202 q_215 301 := ⟨_, rfl⟩
  have hP : va_P (dC, dI) vwCl (oW cq S_217) H := by rw [eS_217]; exact cP (onew hD1 (by rw [oE_ar (n := 1) add_K (by decide +kernel), add_I])) hP1
  have hD : va_D A (oW cq S_217) := by rw [eS_217]; exact cD (onew hD1 (by rw [oE_ar (n := 1) add_K (by decide +kernel), add_I])) hD1
  clear hP1 hD1
  have hIS_217 : oInv S_217 := by rw [eS_217]; exact oInv.add hIS_202 hnq_215 (by decide +kernel)
  have XS_217 : oX [] S_202 S_217 := by rw [eS_217]; exact oX.add hnq_215
  have nzq_215 : q_215 ∉ oL Z := oXc.nin X_211 hnq_215
  have pk_218 : oP S_217 o 0 = some q_1 := by rw [eS_217, add_Pn hnq_215 (oX.ty XS_202 t_199).1]; exact pk_203
  have pk_219 : oP S_217 o 1 = some q_12 := by rw [eS_217, add_Pn hnq_215 (oX.ty XS_202 t_199).1]; exact pk_204
  have pk_220 : oP S_217 q_12 0 = some q_27 := by rw [eS_217, add_Pn hnq_215 (oX.ty XS_202 (oX.ty XS_187 t_184)).1]; exact pk_205
  have pk_221 : oP S_217 q_12 1 = some q_73 := by rw [eS_217, add_Pn hnq_215 (oX.ty XS_202 (oX.ty XS_187 t_184)).1]; exact pk_206
  have pk_222 : oP S_217 q_12 2 = some q_132 := by rw [eS_217, add_Pn hnq_215 (oX.ty XS_202 (oX.ty XS_187 t_184)).1]; exact pk_207
  have ik_223 : oI S_217 o 2 = 0 := by rw [eS_217, add_In hnq_215 (oX.ty XS_202 t_199).1]; exact ik_208
  have ik_224 : oI S_217 q_144 0 = 100 := by rw [eS_217, add_In hnq_215 (oX.ty XS_202 (oX.ty XS_187 (oXc.ty XS_173 (ty_ne t_170 t_169 (by decide +kernel)) t_170))).1]; exact ik_209
  have sr_225 : oP S_217 o 1 = some q_12 := by rw [eS_217, add_Pn hnq_215 (oX.ty XS_202 t_199).1]; exact sr_210
  have X_226 : oXc [5001] o Z S_217 := oXc.st X_211 XS_217 (by decide +kernel)
  have xm_227 : oX [2013, 5001] S_53 S_217 := oX.st xm_212 XS_217 (by decide +kernel)
  have xm_228 : oX [2013, 5001] S_108 S_217 := oX.st xm_213 XS_217 (by decide +kernel)
  have xm_229 : oX [2013, 5001] S_173 S_217 := oX.st xm_214 XS_217 (by decide +kernel)
  have tq_215 : oty S_217 q_215 301 := by rw [eS_217]; exact add_ty
  refine W.widen (k := 16) (n := 266) (Nat.le_of_ble_eq_true rfl) (Nat.le_of_ble_eq_true rfl) ?_
  refine lv_dup hx hb dX5_init_103 rfl ?_
  refine lv_iconst (v := 0) hx hb dX5_init_104 (by decide +kernel) ?_
  refine lv_bipush (v := 50) hx hb dX5_init_105 (by decide +kernel) ?_
  obtain ⟨q_230, hq_230⟩ := og (cq := cq) tq_215.1 (oE_ar (n := 1) tq_215.2 (by decide +kernel))
  refine va_iast hx hb hK hP hD hS q_230 0 hq_230 rfl (by unfold vp_in; decide) dX5_init_107 (fun H locs hP1 hD1 hS => ?_)
  obtain ⟨S_231, eS_231⟩ : ∃ zq, zq = setI S_217 q_215 (0 : Int32).toNatClampNeg 50 := ⟨_, rfl⟩
  have hP : va_P (dC, dI) vwCl (oW cq S_231) H := by rw [eS_231]; exact cP (oset tq_215.1 hq_230 hD rfl (he_ar (n := 1) tq_215.2 (by decide +kernel)) neI) hP1
  have hD : va_D A (oW cq S_231) := by rw [eS_231]; exact cD (oset tq_215.1 hq_230 hD rfl (he_ar (n := 1) tq_215.2 (by decide +kernel)) neI) hD1
  clear hP1 hD1
  have hIS_231 : oInv S_231 := by rw [eS_231]; exact oInv.A (k := 301) hIS_217 tq_215.2 (by decide +kernel)
  have XS_231 : oX [5000] S_217 S_231 := by rw [eS_231]; exact oX.I (k := 301) (key := 5000) tq_215.2 (wk_ar (n := 1) (by decide +kernel)) (List.mem_singleton.mpr rfl)
  have pk_232 : oP S_231 o 0 = some q_1 := by rw [eS_231]; exact pk_218
  have pk_233 : oP S_231 o 1 = some q_12 := by rw [eS_231]; exact pk_219
  have pk_234 : oP S_231 q_12 0 = some q_27 := by rw [eS_231]; exact pk_220
  have pk_235 : oP S_231 q_12 1 = some q_73 := by rw [eS_231]; exact pk_221
  have pk_236 : oP S_231 q_12 2 = some q_132 := by rw [eS_231]; exact pk_222
  have ik_237 : oI S_231 o 2 = 0 := by rw [eS_231, setI_oth (ty_ne (oX.ty XS_217 (oX.ty XS_202 t_199)) tq_215 (by decide +kernel))]; exact ik_223
  have X_239 : oXc [5001] o Z S_231 := by rw [eS_231]; exact oXc.In X_226 nzq_215
  have xm_240 : oX [2013, 5001] S_53 S_231 := by rw [eS_231]; exact oX.In xm_227 (oX.nin xm_212 hnq_215)
  have xm_241 : oX [2013, 5001] S_108 S_231 := by rw [eS_231]; exact oX.In xm_228 (oX.nin xm_213 hnq_215)
  have xm_242 : oX [2013, 5001] S_173 S_231 := by rw [eS_231]; exact oX.In xm_229 (oX.nin xm_214 hnq_215)
  have ik_243 : oI S_231 q_215 0 = 50 := by rw [eS_231]; exact setI_same
  have hEc : isE S_231 q_215 (cuE 3) := isE_1 ik_243
  have t_244 : oty S_231 q_201 30 := (oX.ty XS_231 (oX.ty XS_217 tq_201))
  have t_245 : oty S_231 q_215 301 := (oX.ty XS_231 tq_215)
  have hFc := o_free hD hS hA
  refine va_callv (va_runI (As := [.int 3, .int (-1), .ref q_215]) (rest := [.ref q_201, .int 3, .ref q_12]) ⟨hx, hb, hml, hown, hts⟩ (c_X0_init_c l dC dI H.size tL tS tG cq S_231 hIS_231 q_201 t_244 3 (-1) 1 (by decide +kernel) q_215 t_245 (cuE 3) rfl hEc) (cwI 3 hts gX5_init_X0_init rfl rfl rfl (hts (.initialized RX0) iw_X5_init_7) (hts (.methodLink RX5 20 yX0_init) iw_X5_init_9) (hts (.instanceMethod yX0_init) iw_X5_init_10) rfl (by decide +kernel) ⟨(Nat.le_of_ble_eq_true rfl), (Nat.le_of_ble_eq_true rfl)⟩) (pr_SO hP hK hD (hZ.go hS hFc)) rfl rfl hl.1 rfl (lv_room (Nat.le_of_ble_eq_true rfl)) dX5_init_108 ⟨(Nat.le_of_ble_eq_true rfl), (Nat.le_of_ble_eq_true rfl)⟩) hS (fun q _ h => hFc q h) hFc (fun u t H locs ht hvm w_246 hB hz1 hk1 hS => ?_)
  obtain ⟨S_248, rfl⟩ : ∃ z, z = u := ⟨_, rfl⟩
  obtain ⟨hP1, hK1, hD1⟩ := hB
  rw [ht] at hP1
  have hP : va_P (dC, dI) vwCl (oW cq S_248) H := hP1
  have hD : va_D A (oW cq S_248) := hD1.weaken (fun _ _ _ h => hFc _ h)
  clear hP1 hK1 hD1 hk1 hz1 hvm ht hFc
  refine W.widen (k := 18) (n := 335) (Nat.le_of_ble_eq_true rfl) (Nat.le_of_ble_eq_true rfl) ?_
  obtain ⟨hIS_248, XS_248, hx_249⟩ := w_246
  obtain ⟨hxS_248, hcS_248⟩ := hx_249
  have X_250 : oXc [5001] o Z S_248 := oXc.c X_239 XS_248 nzq_201 (by decide +kernel)
  have pk_251 : oP S_248 o 0 = some q_1 := by rw [oXc.p XS_248 (ty_ne (oX.ty XS_231 (oX.ty XS_217 (oX.ty XS_202 t_199))) t_244 (by decide +kernel)) (oX.ty XS_231 (oX.ty XS_217 (oX.ty XS_202 t_199))) (by decide +kernel)]; exact pk_232
  have pk_252 : oP S_248 o 1 = some q_12 := by rw [oXc.p XS_248 (ty_ne (oX.ty XS_231 (oX.ty XS_217 (oX.ty XS_202 t_199))) t_244 (by decide +kernel)) (oX.ty XS_231 (oX.ty XS_217 (oX.ty XS_202 t_199))) (by decide +kernel)]; exact pk_233
  have pk_253 : oP S_248 q_12 0 = some q_27 := by rw [oXc.p XS_248 (ty_ne (oX.ty XS_231 (oX.ty XS_217 (oX.ty XS_202 (oX.ty XS_187 t_184)))) t_244 (by decide +kernel)) (oX.ty XS_231 (oX.ty XS_217 (oX.ty XS_202 (oX.ty XS_187 t_184)))) (by decide +kernel)]; exact pk_234
  have pk_254 : oP S_248 q_12 1 = some q_73 := by rw [oXc.p XS_248 (ty_ne (oX.ty XS_231 (oX.ty XS_217 (oX.ty XS_202 (oX.ty XS_187 t_184)))) t_244 (by decide +kernel)) (oX.ty XS_231 (oX.ty XS_217 (oX.ty XS_202 (oX.ty XS_187 t_184)))) (by decide +kernel)]; exact pk_235
  have pk_255 : oP S_248 q_12 2 = some q_132 := by rw [oXc.p XS_248 (ty_ne (oX.ty XS_231 (oX.ty XS_217 (oX.ty XS_202 (oX.ty XS_187 t_184)))) t_244 (by decide +kernel)) (oX.ty XS_231 (oX.ty XS_217 (oX.ty XS_202 (oX.ty XS_187 t_184)))) (by decide +kernel)]; exact pk_236
  have ik_256 : oI S_248 o 2 = 0 := by rw [oXc.i XS_248 (ty_ne (oX.ty XS_231 (oX.ty XS_217 (oX.ty XS_202 t_199))) t_244 (by decide +kernel)) (oX.ty XS_231 (oX.ty XS_217 (oX.ty XS_202 t_199))) (by decide +kernel)]; exact ik_237
  have ik_257 : oI S_248 q_215 0 = 50 := by rw [oXc.i XS_248 (ty_ne t_245 t_244 (by decide +kernel)) t_245 (by decide +kernel)]; exact ik_243
  have xm_258 : oX [2013, 5001] S_53 S_248 := oX.c xm_240 XS_248 (oX.nin xm_195 hnq_201) (by decide +kernel)
  have xm_259 : oX [2013, 5001] S_108 S_248 := oX.c xm_241 XS_248 (oX.nin xm_196 hnq_201) (by decide +kernel)
  have xm_260 : oX [2013, 5001] S_173 S_248 := oX.c xm_242 XS_248 (oX.nin xm_197 hnq_201) (by decide +kernel)
  have hcu3 : rCu S_248 q_201 3 := cu_of hcS_248 (by decide +kernel) (by decide +kernel) rfl rfl
  have t_261 : oty S_248 q_12 13 := (oXc.ty XS_248 (ty_ne (oX.ty XS_231 (oX.ty XS_217 (oX.ty XS_202 (oX.ty XS_187 t_184)))) t_244 (by decide +kernel)) (oX.ty XS_231 (oX.ty XS_217 (oX.ty XS_202 (oX.ty XS_187 t_184)))))
  obtain ⟨q_262, hq_262⟩ := og (cq := cq) t_261.1 (oE_13 t_261.2)
  obtain ⟨q_263, hq_263⟩ := og (cq := cq) hxS_248.1 (oE_0 hxS_248.2)
  refine va_astq (r := (RX0, TX0, 5)) hx hb hK hP hD hS q_262 2 q_263 0 hq_262 rfl hq_263 rfl (by unfold vp_in; decide) dX5_init_111 (fun H locs hP1 hD1 hS => ?_)
  obtain ⟨S_264, eS_264⟩ : ∃ zq, zq = setP S_248 q_12 (3 : Int32).toNatClampNeg (some q_201) := ⟨_, rfl⟩
  have hP : va_P (dC, dI) vwCl (oW cq S_264) H := by rw [eS_264]; exact cP (oset t_261.1 hq_262 hD rfl (he_13 t_261.2) neP) hP1
  have hD : va_D A (oW cq S_264) := by rw [eS_264]; exact cD (oset t_261.1 hq_262 hD rfl (he_13 t_261.2) neP) hD1
  clear hP1 hD1
  have hIS_264 : oInv S_264 := by rw [eS_264]; exact oInv.P (k := 13) hIS_248 t_261.2 (by decide +kernel) rfl (fun h => absurd h.1 (by decide +kernel)) hxS_248 (show 0 ≤ 0 ∧ 0 ≤ 0 from ⟨Nat.le_refl _, Nat.le_refl _⟩)
  have XS_264 : oX [2013] S_248 S_264 := by rw [eS_264]; exact oX.P (k := 13) (key := 2013) t_261.2 rfl (List.mem_singleton.mpr rfl)
  have pk_265 : oP S_264 o 0 = some q_1 := by rw [eS_264, setP_oth (ty_ne (oXc.ty XS_248 (ty_ne (oX.ty XS_231 (oX.ty XS_217 (oX.ty XS_202 t_199))) t_244 (by decide +kernel)) (oX.ty XS_231 (oX.ty XS_217 (oX.ty XS_202 t_199)))) t_261 (by decide +kernel))]; exact pk_251
  have pk_266 : oP S_264 o 1 = some q_12 := by rw [eS_264, setP_oth (ty_ne (oXc.ty XS_248 (ty_ne (oX.ty XS_231 (oX.ty XS_217 (oX.ty XS_202 t_199))) t_244 (by decide +kernel)) (oX.ty XS_231 (oX.ty XS_217 (oX.ty XS_202 t_199)))) t_261 (by decide +kernel))]; exact pk_252
  have pk_267 : oP S_264 q_12 0 = some q_27 := by rw [eS_264, setP_ne (by decide +kernel)]; exact pk_253
  have pk_268 : oP S_264 q_12 1 = some q_73 := by rw [eS_264, setP_ne (by decide +kernel)]; exact pk_254
  have pk_269 : oP S_264 q_12 2 = some q_132 := by rw [eS_264, setP_ne (by decide +kernel)]; exact pk_255
  have ik_270 : oI S_264 o 2 = 0 := by rw [eS_264]; exact ik_256
  have ik_271 : oI S_264 q_215 0 = 50 := by rw [eS_264]; exact ik_257
  have X_272 : oXc [5001] o Z S_264 := by rw [eS_264]; exact oXc.Pn X_250 nzq_12
  have xm_273 : oX [2013, 5001] S_53 S_264 := oX.st xm_258 XS_264 (by decide +kernel)
  have xm_274 : oX [2013, 5001] S_108 S_264 := oX.st xm_259 XS_264 (by decide +kernel)
  have xm_275 : oX [2013, 5001] S_173 S_264 := oX.st xm_260 XS_264 (by decide +kernel)
  have xm_276 : oX [2013, 5001] S_248 S_264 := oX.st oX.rf XS_264 (by decide +kernel)
  have pk_277 : oP S_264 q_12 3 = some q_201 := by rw [eS_264]; exact setP_same
  refine lv_aload_n hx hb dX5_init_112 rfl (lv_at hl 0 rfl) ?_
  have t_278 : oty S_264 o 35 := (oX.ty XS_264 (oXc.ty XS_248 (ty_ne (oX.ty XS_231 (oX.ty XS_217 (oX.ty XS_202 t_199))) t_244 (by decide +kernel)) (oX.ty XS_231 (oX.ty XS_217 (oX.ty XS_202 t_199)))))
  obtain ⟨q_279, hq_279⟩ := og (cq := cq) t_278.1 (oE_35 t_278.2)
  refine va_get (D := (dC, dI)) (ci := 5) (v := .ref q_12) (C := RX5) (T := TX5) (N := 3) hx hb hts in_wsX5_init_X5 hown hK hP q_279 hq_279 rfl 1 (by decide +kernel) (hts (.fieldLink RX5 17 "ShipOffice$Law" "customs" "[LShipOffice$Act;") iw_X5_init_5) (fun _ h9 => h9) (o_rd pk_266) dX5_init_113 ?_
  refine lv_iconst (v := 4) hx hb dX5_init_116 (by decide +kernel) ?_
  refine va_new (ci := 0) (fs := [.int 0, .int 0, .int 0, .null, .null]) (C := RX0) (T := TX0) (N := 5) hx hb hts in_wsX5_init_X0 tyX0 tyX0_ok hown (hts (.classLink RX5 9 RX0) iw_X5_init_3) (hts (.instantiable RX0 5) iw_X5_init_6) (hts (.initialized RX0) iw_X5_init_7) hK hP hD hS hA rfl (fun j hj => by rcases (show j = 0 ∨ j = 1 ∨ j = 2 ∨ j = 3 ∨ j = 4 by omega) with rfl | rfl | rfl | rfl | rfl <;> rfl) (Nat.le_of_ble_eq_true rfl) (Nat.le_of_ble_eq_true rfl) dX5_init_117 (fun q_280 H hP1 hD1 hS => ?_)
  have hnq_280 := add_q hD1
  obtain ⟨S_281, eS_281⟩ : ∃ zq, zq = addO S_264 q_280 30 := ⟨_, rfl⟩
  have hP : va_P (dC, dI) vwCl (oW cq S_281) H := by rw [eS_281]; exact cP (onew hD1 (by rw [oE_30 add_K, add_I, add_P]; rfl)) hP1
  have hD : va_D A (oW cq S_281) := by rw [eS_281]; exact cD (onew hD1 (by rw [oE_30 add_K, add_I, add_P]; rfl)) hD1
  clear hP1 hD1
  have hIS_281 : oInv S_281 := by rw [eS_281]; exact oInv.add hIS_264 hnq_280 (by decide +kernel)
  have XS_281 : oX [] S_264 S_281 := by rw [eS_281]; exact oX.add hnq_280
  have nzq_280 : q_280 ∉ oL Z := oXc.nin X_272 hnq_280
  have pk_282 : oP S_281 o 0 = some q_1 := by rw [eS_281, add_Pn hnq_280 t_278.1]; exact pk_265
  have pk_283 : oP S_281 o 1 = some q_12 := by rw [eS_281, add_Pn hnq_280 t_278.1]; exact pk_266
  have pk_284 : oP S_281 q_12 0 = some q_27 := by rw [eS_281, add_Pn hnq_280 (oX.ty XS_264 t_261).1]; exact pk_267
  have pk_285 : oP S_281 q_12 1 = some q_73 := by rw [eS_281, add_Pn hnq_280 (oX.ty XS_264 t_261).1]; exact pk_268
  have pk_286 : oP S_281 q_12 2 = some q_132 := by rw [eS_281, add_Pn hnq_280 (oX.ty XS_264 t_261).1]; exact pk_269
  have pk_287 : oP S_281 q_12 3 = some q_201 := by rw [eS_281, add_Pn hnq_280 (oX.ty XS_264 t_261).1]; exact pk_277
  have ik_288 : oI S_281 o 2 = 0 := by rw [eS_281, add_In hnq_280 t_278.1]; exact ik_270
  have ik_289 : oI S_281 q_215 0 = 50 := by rw [eS_281, add_In hnq_280 (oX.ty XS_264 (oXc.ty XS_248 (ty_ne t_245 t_244 (by decide +kernel)) t_245)).1]; exact ik_271
  have sr_290 : oP S_281 o 1 = some q_12 := by rw [eS_281, add_Pn hnq_280 t_278.1]; exact pk_266
  have X_291 : oXc [5001] o Z S_281 := oXc.st X_272 XS_281 (by decide +kernel)
  have xm_292 : oX [2013, 5001] S_53 S_281 := oX.st xm_273 XS_281 (by decide +kernel)
  have xm_293 : oX [2013, 5001] S_108 S_281 := oX.st xm_274 XS_281 (by decide +kernel)
  have xm_294 : oX [2013, 5001] S_173 S_281 := oX.st xm_275 XS_281 (by decide +kernel)
  have xm_295 : oX [2013, 5001] S_248 S_281 := oX.st xm_276 XS_281 (by decide +kernel)
  have tq_280 : oty S_281 q_280 30 := by rw [eS_281]; exact add_ty
  refine W.widen (k := 19) (n := 340) (Nat.le_of_ble_eq_true rfl) (Nat.le_of_ble_eq_true rfl) ?_
  refine lv_dup hx hb dX5_init_120 rfl ?_
  refine lv_iconst (v := 4) hx hb dX5_init_121 (by decide +kernel) ?_
  refine lv_iconst (v := (-1)) hx hb dX5_init_122 (by decide +kernel) ?_
  refine lv_iconst (v := 1) hx hb dX5_init_123 (by decide +kernel) ?_
  refine va_newa (atype := .int) (ty := .int) (a0 := (1, .inl (fun _ => 0))) hx hb (hts (.arrayClass .int) iw_X5_init_8) rfl hK hP hD hS hA (fun _ => rfl) (by decide +kernel) (by decide +kernel) (by decide +kernel) (Nat.le_of_ble_eq_true rfl) (Nat.le_of_ble_eq_true rfl) dX5_init_124 (fun q_296 k_297 H hK1 hP1 hD1 hS => ?_)
  obtain ⟨rfl, -⟩ := lv_ad (k := 0) hK1 rfl
  clear hK1
  have hnq_296 := add_q hD1
  obtain ⟨S_298, eS_298⟩ : ∃ zq, zq = addO S_281 q_296 301 := ⟨_, rfl⟩
  have hP : va_P (dC, dI) vwCl (oW cq S_298) H := by rw [eS_298]; exact cP (onew hD1 (by rw [oE_ar (n := 1) add_K (by decide +kernel), add_I])) hP1
  have hD : va_D A (oW cq S_298) := by rw [eS_298]; exact cD (onew hD1 (by rw [oE_ar (n := 1) add_K (by decide +kernel), add_I])) hD1
  clear hP1 hD1
  have hIS_298 : oInv S_298 := by rw [eS_298]; exact oInv.add hIS_281 hnq_296 (by decide +kernel)
  have XS_298 : oX [] S_281 S_298 := by rw [eS_298]; exact oX.add hnq_296
  have nzq_296 : q_296 ∉ oL Z := oXc.nin X_291 hnq_296
  have pk_299 : oP S_298 o 0 = some q_1 := by rw [eS_298, add_Pn hnq_296 (oX.ty XS_281 t_278).1]; exact pk_282
  have pk_300 : oP S_298 o 1 = some q_12 := by rw [eS_298, add_Pn hnq_296 (oX.ty XS_281 t_278).1]; exact pk_283
  have pk_301 : oP S_298 q_12 0 = some q_27 := by rw [eS_298, add_Pn hnq_296 (oX.ty XS_281 (oX.ty XS_264 t_261)).1]; exact pk_284
  have pk_302 : oP S_298 q_12 1 = some q_73 := by rw [eS_298, add_Pn hnq_296 (oX.ty XS_281 (oX.ty XS_264 t_261)).1]; exact pk_285
  have pk_303 : oP S_298 q_12 2 = some q_132 := by rw [eS_298, add_Pn hnq_296 (oX.ty XS_281 (oX.ty XS_264 t_261)).1]; exact pk_286
  have pk_304 : oP S_298 q_12 3 = some q_201 := by rw [eS_298, add_Pn hnq_296 (oX.ty XS_281 (oX.ty XS_264 t_261)).1]; exact pk_287
  have ik_305 : oI S_298 o 2 = 0 := by rw [eS_298, add_In hnq_296 (oX.ty XS_281 t_278).1]; exact ik_288
  have ik_306 : oI S_298 q_215 0 = 50 := by rw [eS_298, add_In hnq_296 (oX.ty XS_281 (oX.ty XS_264 (oXc.ty XS_248 (ty_ne t_245 t_244 (by decide +kernel)) t_245))).1]; exact ik_289
  have sr_307 : oP S_298 o 1 = some q_12 := by rw [eS_298, add_Pn hnq_296 (oX.ty XS_281 t_278).1]; exact sr_290
  have X_308 : oXc [5001] o Z S_298 := oXc.st X_291 XS_298 (by decide +kernel)
  have xm_309 : oX [2013, 5001] S_53 S_298 := oX.st xm_292 XS_298 (by decide +kernel)
  have xm_310 : oX [2013, 5001] S_108 S_298 := oX.st xm_293 XS_298 (by decide +kernel)
  have xm_311 : oX [2013, 5001] S_173 S_298 := oX.st xm_294 XS_298 (by decide +kernel)
  have xm_312 : oX [2013, 5001] S_248 S_298 := oX.st xm_295 XS_298 (by decide +kernel)
  have tq_296 : oty S_298 q_296 301 := by rw [eS_298]; exact add_ty
  refine W.widen (k := 20) (n := 341) (Nat.le_of_ble_eq_true rfl) (Nat.le_of_ble_eq_true rfl) ?_
  refine lv_dup hx hb dX5_init_126 rfl ?_
  refine lv_iconst (v := 0) hx hb dX5_init_127 (by decide +kernel) ?_
  refine lv_bipush (v := 90) hx hb dX5_init_128 (by decide +kernel) ?_
  obtain ⟨q_313, hq_313⟩ := og (cq := cq) tq_296.1 (oE_ar (n := 1) tq_296.2 (by decide +kernel))
  refine va_iast hx hb hK hP hD hS q_313 0 hq_313 rfl (by unfold vp_in; decide) dX5_init_130 (fun H locs hP1 hD1 hS => ?_)
  obtain ⟨S_314, eS_314⟩ : ∃ zq, zq = setI S_298 q_296 (0 : Int32).toNatClampNeg 90 := ⟨_, rfl⟩
  have hP : va_P (dC, dI) vwCl (oW cq S_314) H := by rw [eS_314]; exact cP (oset tq_296.1 hq_313 hD rfl (he_ar (n := 1) tq_296.2 (by decide +kernel)) neI) hP1
  have hD : va_D A (oW cq S_314) := by rw [eS_314]; exact cD (oset tq_296.1 hq_313 hD rfl (he_ar (n := 1) tq_296.2 (by decide +kernel)) neI) hD1
  clear hP1 hD1
  have hIS_314 : oInv S_314 := by rw [eS_314]; exact oInv.A (k := 301) hIS_298 tq_296.2 (by decide +kernel)
  have XS_314 : oX [5000] S_298 S_314 := by rw [eS_314]; exact oX.I (k := 301) (key := 5000) tq_296.2 (wk_ar (n := 1) (by decide +kernel)) (List.mem_singleton.mpr rfl)
  have pk_315 : oP S_314 o 0 = some q_1 := by rw [eS_314]; exact pk_299
  have pk_316 : oP S_314 o 1 = some q_12 := by rw [eS_314]; exact pk_300
  have pk_317 : oP S_314 q_12 0 = some q_27 := by rw [eS_314]; exact pk_301
  have pk_318 : oP S_314 q_12 1 = some q_73 := by rw [eS_314]; exact pk_302
  have pk_319 : oP S_314 q_12 2 = some q_132 := by rw [eS_314]; exact pk_303
  have pk_320 : oP S_314 q_12 3 = some q_201 := by rw [eS_314]; exact pk_304
  have ik_321 : oI S_314 o 2 = 0 := by rw [eS_314, setI_oth (ty_ne (oX.ty XS_298 (oX.ty XS_281 t_278)) tq_296 (by decide +kernel))]; exact ik_305
  have X_323 : oXc [5001] o Z S_314 := by rw [eS_314]; exact oXc.In X_308 nzq_296
  have xm_324 : oX [2013, 5001] S_53 S_314 := by rw [eS_314]; exact oX.In xm_309 (oX.nin xm_292 hnq_296)
  have xm_325 : oX [2013, 5001] S_108 S_314 := by rw [eS_314]; exact oX.In xm_310 (oX.nin xm_293 hnq_296)
  have xm_326 : oX [2013, 5001] S_173 S_314 := by rw [eS_314]; exact oX.In xm_311 (oX.nin xm_294 hnq_296)
  have xm_327 : oX [2013, 5001] S_248 S_314 := by rw [eS_314]; exact oX.In xm_312 (oX.nin xm_295 hnq_296)
  have ik_328 : oI S_314 q_296 0 = 90 := by rw [eS_314]; exact setI_same
  have hEc : isE S_314 q_296 (cuE 4) := isE_1 ik_328
  have t_329 : oty S_314 q_280 30 := (oX.ty XS_314 (oX.ty XS_298 tq_280))
  have t_330 : oty S_314 q_296 301 := (oX.ty XS_314 tq_296)
  have hFc := o_free hD hS hA
  refine va_callv (va_runI (As := [.int 4, .int (-1), .ref q_296]) (rest := [.ref q_280, .int 4, .ref q_12]) ⟨hx, hb, hml, hown, hts⟩ (c_X0_init_c l dC dI H.size tL tS tG cq S_314 hIS_314 q_280 t_329 4 (-1) 1 (by decide +kernel) q_296 t_330 (cuE 4) rfl hEc) (cwI 3 hts gX5_init_X0_init rfl rfl rfl (hts (.initialized RX0) iw_X5_init_7) (hts (.methodLink RX5 20 yX0_init) iw_X5_init_9) (hts (.instanceMethod yX0_init) iw_X5_init_10) rfl (by decide +kernel) ⟨(Nat.le_of_ble_eq_true rfl), (Nat.le_of_ble_eq_true rfl)⟩) (pr_SO hP hK hD (hZ.go hS hFc)) rfl rfl hl.1 rfl (lv_room (Nat.le_of_ble_eq_true rfl)) dX5_init_131 ⟨(Nat.le_of_ble_eq_true rfl), (Nat.le_of_ble_eq_true rfl)⟩) hS (fun q _ h => hFc q h) hFc (fun u t H locs ht hvm w_331 hB hz1 hk1 hS => ?_)
  obtain ⟨S_333, rfl⟩ : ∃ z, z = u := ⟨_, rfl⟩
  obtain ⟨hP1, hK1, hD1⟩ := hB
  rw [ht] at hP1
  have hP : va_P (dC, dI) vwCl (oW cq S_333) H := hP1
  have hD : va_D A (oW cq S_333) := hD1.weaken (fun _ _ _ h => hFc _ h)
  clear hP1 hK1 hD1 hk1 hz1 hvm ht hFc
  refine W.widen (k := 22) (n := 410) (Nat.le_of_ble_eq_true rfl) (Nat.le_of_ble_eq_true rfl) ?_
  obtain ⟨hIS_333, XS_333, hx_334⟩ := w_331
  obtain ⟨hxS_333, hcS_333⟩ := hx_334
  have X_335 : oXc [5001] o Z S_333 := oXc.c X_323 XS_333 nzq_280 (by decide +kernel)
  have pk_336 : oP S_333 o 0 = some q_1 := by rw [oXc.p XS_333 (ty_ne (oX.ty XS_314 (oX.ty XS_298 (oX.ty XS_281 t_278))) t_329 (by decide +kernel)) (oX.ty XS_314 (oX.ty XS_298 (oX.ty XS_281 t_278))) (by decide +kernel)]; exact pk_315
  have pk_337 : oP S_333 o 1 = some q_12 := by rw [oXc.p XS_333 (ty_ne (oX.ty XS_314 (oX.ty XS_298 (oX.ty XS_281 t_278))) t_329 (by decide +kernel)) (oX.ty XS_314 (oX.ty XS_298 (oX.ty XS_281 t_278))) (by decide +kernel)]; exact pk_316
  have pk_338 : oP S_333 q_12 0 = some q_27 := by rw [oXc.p XS_333 (ty_ne (oX.ty XS_314 (oX.ty XS_298 (oX.ty XS_281 (oX.ty XS_264 t_261)))) t_329 (by decide +kernel)) (oX.ty XS_314 (oX.ty XS_298 (oX.ty XS_281 (oX.ty XS_264 t_261)))) (by decide +kernel)]; exact pk_317
  have pk_339 : oP S_333 q_12 1 = some q_73 := by rw [oXc.p XS_333 (ty_ne (oX.ty XS_314 (oX.ty XS_298 (oX.ty XS_281 (oX.ty XS_264 t_261)))) t_329 (by decide +kernel)) (oX.ty XS_314 (oX.ty XS_298 (oX.ty XS_281 (oX.ty XS_264 t_261)))) (by decide +kernel)]; exact pk_318
  have pk_340 : oP S_333 q_12 2 = some q_132 := by rw [oXc.p XS_333 (ty_ne (oX.ty XS_314 (oX.ty XS_298 (oX.ty XS_281 (oX.ty XS_264 t_261)))) t_329 (by decide +kernel)) (oX.ty XS_314 (oX.ty XS_298 (oX.ty XS_281 (oX.ty XS_264 t_261)))) (by decide +kernel)]; exact pk_319
  have pk_341 : oP S_333 q_12 3 = some q_201 := by rw [oXc.p XS_333 (ty_ne (oX.ty XS_314 (oX.ty XS_298 (oX.ty XS_281 (oX.ty XS_264 t_261)))) t_329 (by decide +kernel)) (oX.ty XS_314 (oX.ty XS_298 (oX.ty XS_281 (oX.ty XS_264 t_261)))) (by decide +kernel)]; exact pk_320
  have ik_342 : oI S_333 o 2 = 0 := by rw [oXc.i XS_333 (ty_ne (oX.ty XS_314 (oX.ty XS_298 (oX.ty XS_281 t_278))) t_329 (by decide +kernel)) (oX.ty XS_314 (oX.ty XS_298 (oX.ty XS_281 t_278))) (by decide +kernel)]; exact ik_321
  have ik_343 : oI S_333 q_296 0 = 90 := by rw [oXc.i XS_333 (ty_ne t_330 t_329 (by decide +kernel)) t_330 (by decide +kernel)]; exact ik_328
  have xm_344 : oX [2013, 5001] S_53 S_333 := oX.c xm_324 XS_333 (oX.nin xm_273 hnq_280) (by decide +kernel)
  have xm_345 : oX [2013, 5001] S_108 S_333 := oX.c xm_325 XS_333 (oX.nin xm_274 hnq_280) (by decide +kernel)
  have xm_346 : oX [2013, 5001] S_173 S_333 := oX.c xm_326 XS_333 (oX.nin xm_275 hnq_280) (by decide +kernel)
  have xm_347 : oX [2013, 5001] S_248 S_333 := oX.c xm_327 XS_333 (oX.nin xm_276 hnq_280) (by decide +kernel)
  have hcu4 : rCu S_333 q_280 4 := cu_of hcS_333 (by decide +kernel) (by decide +kernel) rfl rfl
  have t_348 : oty S_333 q_12 13 := (oXc.ty XS_333 (ty_ne (oX.ty XS_314 (oX.ty XS_298 (oX.ty XS_281 (oX.ty XS_264 t_261)))) t_329 (by decide +kernel)) (oX.ty XS_314 (oX.ty XS_298 (oX.ty XS_281 (oX.ty XS_264 t_261)))))
  obtain ⟨q_349, hq_349⟩ := og (cq := cq) t_348.1 (oE_13 t_348.2)
  obtain ⟨q_350, hq_350⟩ := og (cq := cq) hxS_333.1 (oE_0 hxS_333.2)
  refine va_astq (r := (RX0, TX0, 5)) hx hb hK hP hD hS q_349 2 q_350 0 hq_349 rfl hq_350 rfl (by unfold vp_in; decide) dX5_init_134 (fun H locs hP1 hD1 hS => ?_)
  obtain ⟨S_351, eS_351⟩ : ∃ zq, zq = setP S_333 q_12 (4 : Int32).toNatClampNeg (some q_280) := ⟨_, rfl⟩
  have hP : va_P (dC, dI) vwCl (oW cq S_351) H := by rw [eS_351]; exact cP (oset t_348.1 hq_349 hD rfl (he_13 t_348.2) neP) hP1
  have hD : va_D A (oW cq S_351) := by rw [eS_351]; exact cD (oset t_348.1 hq_349 hD rfl (he_13 t_348.2) neP) hD1
  clear hP1 hD1
  have hIS_351 : oInv S_351 := by rw [eS_351]; exact oInv.P (k := 13) hIS_333 t_348.2 (by decide +kernel) rfl (fun h => absurd h.1 (by decide +kernel)) hxS_333 (show 0 ≤ 0 ∧ 0 ≤ 0 from ⟨Nat.le_refl _, Nat.le_refl _⟩)
  have XS_351 : oX [2013] S_333 S_351 := by rw [eS_351]; exact oX.P (k := 13) (key := 2013) t_348.2 rfl (List.mem_singleton.mpr rfl)
  have pk_352 : oP S_351 o 0 = some q_1 := by rw [eS_351, setP_oth (ty_ne (oXc.ty XS_333 (ty_ne (oX.ty XS_314 (oX.ty XS_298 (oX.ty XS_281 t_278))) t_329 (by decide +kernel)) (oX.ty XS_314 (oX.ty XS_298 (oX.ty XS_281 t_278)))) t_348 (by decide +kernel))]; exact pk_336
  have pk_353 : oP S_351 o 1 = some q_12 := by rw [eS_351, setP_oth (ty_ne (oXc.ty XS_333 (ty_ne (oX.ty XS_314 (oX.ty XS_298 (oX.ty XS_281 t_278))) t_329 (by decide +kernel)) (oX.ty XS_314 (oX.ty XS_298 (oX.ty XS_281 t_278)))) t_348 (by decide +kernel))]; exact pk_337
  have pk_354 : oP S_351 q_12 0 = some q_27 := by rw [eS_351, setP_ne (by decide +kernel)]; exact pk_338
  have pk_355 : oP S_351 q_12 1 = some q_73 := by rw [eS_351, setP_ne (by decide +kernel)]; exact pk_339
  have pk_356 : oP S_351 q_12 2 = some q_132 := by rw [eS_351, setP_ne (by decide +kernel)]; exact pk_340
  have pk_357 : oP S_351 q_12 3 = some q_201 := by rw [eS_351, setP_ne (by decide +kernel)]; exact pk_341
  have ik_358 : oI S_351 o 2 = 0 := by rw [eS_351]; exact ik_342
  have ik_359 : oI S_351 q_296 0 = 90 := by rw [eS_351]; exact ik_343
  have X_360 : oXc [5001] o Z S_351 := by rw [eS_351]; exact oXc.Pn X_335 nzq_12
  have xm_361 : oX [2013, 5001] S_53 S_351 := oX.st xm_344 XS_351 (by decide +kernel)
  have xm_362 : oX [2013, 5001] S_108 S_351 := oX.st xm_345 XS_351 (by decide +kernel)
  have xm_363 : oX [2013, 5001] S_173 S_351 := oX.st xm_346 XS_351 (by decide +kernel)
  have xm_364 : oX [2013, 5001] S_248 S_351 := oX.st xm_347 XS_351 (by decide +kernel)
  have xm_365 : oX [2013, 5001] S_333 S_351 := oX.st oX.rf XS_351 (by decide +kernel)
  have pk_366 : oP S_351 q_12 4 = some q_280 := by rw [eS_351]; exact setP_same
  have t_368 : oty S_351 o 35 := (oX.ty XS_351 (oXc.ty XS_333 (ty_ne (oX.ty XS_314 (oX.ty XS_298 (oX.ty XS_281 t_278))) t_329 (by decide +kernel)) (oX.ty XS_314 (oX.ty XS_298 (oX.ty XS_281 t_278)))))
  obtain ⟨S_367, eS_367⟩ : ∃ zq, zq = setK S_351 o 5 := ⟨_, rfl⟩
  have hP : va_P (dC, dI) vwCl (oW cq S_367) H := by rw [eS_367]; exact cP (ret_W (c := 5) t_368.2 (by decide +kernel)) hP
  have hD : va_D A (oW cq S_367) := by rw [eS_367]; exact cD (ret_W (c := 5) t_368.2 (by decide +kernel)) hD
  have hIS_367 : oInv S_367 := by rw [eS_367]; exact oInv.ret (c := 5) hIS_351 t_368 (by decide +kernel) (fun i hi => by rcases nn_5 hi with rfl | rfl <;> first | exact ⟨_, pk_352⟩ | exact ⟨_, pk_353⟩) (fun i p hp => by rcases ct_5 hp with rfl <;> first | (rw [ik_358]; decide)) (fun _ r hr k hk => by rw [pk_353] at hr; cases hr; rcases (show k = 0 ∨ k = 1 ∨ k = 2 ∨ k = 3 ∨ k = 4 by omega) with rfl | rfl | rfl | rfl | rfl <;> first | exact ⟨_, pk_354⟩ | exact ⟨_, pk_355⟩ | exact ⟨_, pk_356⟩ | exact ⟨_, pk_357⟩ | exact ⟨_, pk_366⟩) (fun h => absurd h (by decide +kernel)) (fun h => absurd h (by decide +kernel))
  have XS_367 : oXc [5001] o Z S_367 := by rw [eS_367]; exact oXc.K X_360
  have tS_367 : oty S_367 o 5 := by rw [eS_367]; exact K_ty t_368.1
  have pk_369 : oP S_367 o 0 = some q_1 := by rw [eS_367]; exact pk_352
  have pk_370 : oP S_367 o 1 = some q_12 := by rw [eS_367]; exact pk_353
  have pk_371 : oP S_367 q_12 0 = some q_27 := by rw [eS_367]; exact pk_354
  have pk_372 : oP S_367 q_12 1 = some q_73 := by rw [eS_367]; exact pk_355
  have pk_373 : oP S_367 q_12 2 = some q_132 := by rw [eS_367]; exact pk_356
  have pk_374 : oP S_367 q_12 3 = some q_201 := by rw [eS_367]; exact pk_357
  have pk_375 : oP S_367 q_12 4 = some q_280 := by rw [eS_367]; exact pk_366
  have ik_376 : oI S_367 o 2 = 0 := by rw [eS_367]; exact ik_358
  have ik_377 : oI S_367 q_296 0 = 90 := by rw [eS_367]; exact ik_359
  have rc_378 : rCu S_367 q_27 0 := by rw [eS_367]; exact rCu_K t_368 (by decide +kernel) (rCu_o xm_361 hxS_53 (by decide +kernel) hcu0)
  have rt_379 : oty S_367 q_27 0 := by rw [eS_367]; exact setK_ty (ty_ne (oX.ty XS_351 (oXc.ty XS_333 (ty_ne (oX.ty XS_314 (oX.ty XS_298 (oX.ty XS_281 (oX.ty XS_264 (oXc.ty XS_248 (ty_ne (oX.ty XS_231 (oX.ty XS_217 (oX.ty XS_202 (oX.ty XS_187 (oXc.ty XS_173 (ty_ne (oX.ty XS_158 (oX.ty XS_146 (oX.ty XS_133 (oX.ty XS_120 (oXc.ty XS_108 (ty_ne (oX.ty XS_95 (oX.ty XS_85 (oX.ty XS_74 (oX.ty XS_63 hxS_53)))) t_104 (by decide +kernel)) (oX.ty XS_95 (oX.ty XS_85 (oX.ty XS_74 (oX.ty XS_63 hxS_53))))))))) t_169 (by decide +kernel)) (oX.ty XS_158 (oX.ty XS_146 (oX.ty XS_133 (oX.ty XS_120 (oXc.ty XS_108 (ty_ne (oX.ty XS_95 (oX.ty XS_85 (oX.ty XS_74 (oX.ty XS_63 hxS_53)))) t_104 (by decide +kernel)) (oX.ty XS_95 (oX.ty XS_85 (oX.ty XS_74 (oX.ty XS_63 hxS_53)))))))))))))) t_244 (by decide +kernel)) (oX.ty XS_231 (oX.ty XS_217 (oX.ty XS_202 (oX.ty XS_187 (oXc.ty XS_173 (ty_ne (oX.ty XS_158 (oX.ty XS_146 (oX.ty XS_133 (oX.ty XS_120 (oXc.ty XS_108 (ty_ne (oX.ty XS_95 (oX.ty XS_85 (oX.ty XS_74 (oX.ty XS_63 hxS_53)))) t_104 (by decide +kernel)) (oX.ty XS_95 (oX.ty XS_85 (oX.ty XS_74 (oX.ty XS_63 hxS_53))))))))) t_169 (by decide +kernel)) (oX.ty XS_158 (oX.ty XS_146 (oX.ty XS_133 (oX.ty XS_120 (oXc.ty XS_108 (ty_ne (oX.ty XS_95 (oX.ty XS_85 (oX.ty XS_74 (oX.ty XS_63 hxS_53)))) t_104 (by decide +kernel)) (oX.ty XS_95 (oX.ty XS_85 (oX.ty XS_74 (oX.ty XS_63 hxS_53))))))))))))))))))) t_329 (by decide +kernel)) (oX.ty XS_314 (oX.ty XS_298 (oX.ty XS_281 (oX.ty XS_264 (oXc.ty XS_248 (ty_ne (oX.ty XS_231 (oX.ty XS_217 (oX.ty XS_202 (oX.ty XS_187 (oXc.ty XS_173 (ty_ne (oX.ty XS_158 (oX.ty XS_146 (oX.ty XS_133 (oX.ty XS_120 (oXc.ty XS_108 (ty_ne (oX.ty XS_95 (oX.ty XS_85 (oX.ty XS_74 (oX.ty XS_63 hxS_53)))) t_104 (by decide +kernel)) (oX.ty XS_95 (oX.ty XS_85 (oX.ty XS_74 (oX.ty XS_63 hxS_53))))))))) t_169 (by decide +kernel)) (oX.ty XS_158 (oX.ty XS_146 (oX.ty XS_133 (oX.ty XS_120 (oXc.ty XS_108 (ty_ne (oX.ty XS_95 (oX.ty XS_85 (oX.ty XS_74 (oX.ty XS_63 hxS_53)))) t_104 (by decide +kernel)) (oX.ty XS_95 (oX.ty XS_85 (oX.ty XS_74 (oX.ty XS_63 hxS_53)))))))))))))) t_244 (by decide +kernel)) (oX.ty XS_231 (oX.ty XS_217 (oX.ty XS_202 (oX.ty XS_187 (oXc.ty XS_173 (ty_ne (oX.ty XS_158 (oX.ty XS_146 (oX.ty XS_133 (oX.ty XS_120 (oXc.ty XS_108 (ty_ne (oX.ty XS_95 (oX.ty XS_85 (oX.ty XS_74 (oX.ty XS_63 hxS_53)))) t_104 (by decide +kernel)) (oX.ty XS_95 (oX.ty XS_85 (oX.ty XS_74 (oX.ty XS_63 hxS_53))))))))) t_169 (by decide +kernel)) (oX.ty XS_158 (oX.ty XS_146 (oX.ty XS_133 (oX.ty XS_120 (oXc.ty XS_108 (ty_ne (oX.ty XS_95 (oX.ty XS_85 (oX.ty XS_74 (oX.ty XS_63 hxS_53)))) t_104 (by decide +kernel)) (oX.ty XS_95 (oX.ty XS_85 (oX.ty XS_74 (oX.ty XS_63 hxS_53))))))))))))))))))))) t_368 (by decide +kernel)) (oX.ty XS_351 (oXc.ty XS_333 (ty_ne (oX.ty XS_314 (oX.ty XS_298 (oX.ty XS_281 (oX.ty XS_264 (oXc.ty XS_248 (ty_ne (oX.ty XS_231 (oX.ty XS_217 (oX.ty XS_202 (oX.ty XS_187 (oXc.ty XS_173 (ty_ne (oX.ty XS_158 (oX.ty XS_146 (oX.ty XS_133 (oX.ty XS_120 (oXc.ty XS_108 (ty_ne (oX.ty XS_95 (oX.ty XS_85 (oX.ty XS_74 (oX.ty XS_63 hxS_53)))) t_104 (by decide +kernel)) (oX.ty XS_95 (oX.ty XS_85 (oX.ty XS_74 (oX.ty XS_63 hxS_53))))))))) t_169 (by decide +kernel)) (oX.ty XS_158 (oX.ty XS_146 (oX.ty XS_133 (oX.ty XS_120 (oXc.ty XS_108 (ty_ne (oX.ty XS_95 (oX.ty XS_85 (oX.ty XS_74 (oX.ty XS_63 hxS_53)))) t_104 (by decide +kernel)) (oX.ty XS_95 (oX.ty XS_85 (oX.ty XS_74 (oX.ty XS_63 hxS_53)))))))))))))) t_244 (by decide +kernel)) (oX.ty XS_231 (oX.ty XS_217 (oX.ty XS_202 (oX.ty XS_187 (oXc.ty XS_173 (ty_ne (oX.ty XS_158 (oX.ty XS_146 (oX.ty XS_133 (oX.ty XS_120 (oXc.ty XS_108 (ty_ne (oX.ty XS_95 (oX.ty XS_85 (oX.ty XS_74 (oX.ty XS_63 hxS_53)))) t_104 (by decide +kernel)) (oX.ty XS_95 (oX.ty XS_85 (oX.ty XS_74 (oX.ty XS_63 hxS_53))))))))) t_169 (by decide +kernel)) (oX.ty XS_158 (oX.ty XS_146 (oX.ty XS_133 (oX.ty XS_120 (oXc.ty XS_108 (ty_ne (oX.ty XS_95 (oX.ty XS_85 (oX.ty XS_74 (oX.ty XS_63 hxS_53)))) t_104 (by decide +kernel)) (oX.ty XS_95 (oX.ty XS_85 (oX.ty XS_74 (oX.ty XS_63 hxS_53))))))))))))))))))) t_329 (by decide +kernel)) (oX.ty XS_314 (oX.ty XS_298 (oX.ty XS_281 (oX.ty XS_264 (oXc.ty XS_248 (ty_ne (oX.ty XS_231 (oX.ty XS_217 (oX.ty XS_202 (oX.ty XS_187 (oXc.ty XS_173 (ty_ne (oX.ty XS_158 (oX.ty XS_146 (oX.ty XS_133 (oX.ty XS_120 (oXc.ty XS_108 (ty_ne (oX.ty XS_95 (oX.ty XS_85 (oX.ty XS_74 (oX.ty XS_63 hxS_53)))) t_104 (by decide +kernel)) (oX.ty XS_95 (oX.ty XS_85 (oX.ty XS_74 (oX.ty XS_63 hxS_53))))))))) t_169 (by decide +kernel)) (oX.ty XS_158 (oX.ty XS_146 (oX.ty XS_133 (oX.ty XS_120 (oXc.ty XS_108 (ty_ne (oX.ty XS_95 (oX.ty XS_85 (oX.ty XS_74 (oX.ty XS_63 hxS_53)))) t_104 (by decide +kernel)) (oX.ty XS_95 (oX.ty XS_85 (oX.ty XS_74 (oX.ty XS_63 hxS_53)))))))))))))) t_244 (by decide +kernel)) (oX.ty XS_231 (oX.ty XS_217 (oX.ty XS_202 (oX.ty XS_187 (oXc.ty XS_173 (ty_ne (oX.ty XS_158 (oX.ty XS_146 (oX.ty XS_133 (oX.ty XS_120 (oXc.ty XS_108 (ty_ne (oX.ty XS_95 (oX.ty XS_85 (oX.ty XS_74 (oX.ty XS_63 hxS_53)))) t_104 (by decide +kernel)) (oX.ty XS_95 (oX.ty XS_85 (oX.ty XS_74 (oX.ty XS_63 hxS_53))))))))) t_169 (by decide +kernel)) (oX.ty XS_158 (oX.ty XS_146 (oX.ty XS_133 (oX.ty XS_120 (oXc.ty XS_108 (ty_ne (oX.ty XS_95 (oX.ty XS_85 (oX.ty XS_74 (oX.ty XS_63 hxS_53)))) t_104 (by decide +kernel)) (oX.ty XS_95 (oX.ty XS_85 (oX.ty XS_74 (oX.ty XS_63 hxS_53)))))))))))))))))))))
  have rc_380 : rCu S_367 q_73 1 := by rw [eS_367]; exact rCu_K t_368 (by decide +kernel) (rCu_o xm_362 hxS_108 (by decide +kernel) hcu1)
  have rt_381 : oty S_367 q_73 0 := by rw [eS_367]; exact setK_ty (ty_ne (oX.ty XS_351 (oXc.ty XS_333 (ty_ne (oX.ty XS_314 (oX.ty XS_298 (oX.ty XS_281 (oX.ty XS_264 (oXc.ty XS_248 (ty_ne (oX.ty XS_231 (oX.ty XS_217 (oX.ty XS_202 (oX.ty XS_187 (oXc.ty XS_173 (ty_ne (oX.ty XS_158 (oX.ty XS_146 (oX.ty XS_133 (oX.ty XS_120 hxS_108)))) t_169 (by decide +kernel)) (oX.ty XS_158 (oX.ty XS_146 (oX.ty XS_133 (oX.ty XS_120 hxS_108))))))))) t_244 (by decide +kernel)) (oX.ty XS_231 (oX.ty XS_217 (oX.ty XS_202 (oX.ty XS_187 (oXc.ty XS_173 (ty_ne (oX.ty XS_158 (oX.ty XS_146 (oX.ty XS_133 (oX.ty XS_120 hxS_108)))) t_169 (by decide +kernel)) (oX.ty XS_158 (oX.ty XS_146 (oX.ty XS_133 (oX.ty XS_120 hxS_108)))))))))))))) t_329 (by decide +kernel)) (oX.ty XS_314 (oX.ty XS_298 (oX.ty XS_281 (oX.ty XS_264 (oXc.ty XS_248 (ty_ne (oX.ty XS_231 (oX.ty XS_217 (oX.ty XS_202 (oX.ty XS_187 (oXc.ty XS_173 (ty_ne (oX.ty XS_158 (oX.ty XS_146 (oX.ty XS_133 (oX.ty XS_120 hxS_108)))) t_169 (by decide +kernel)) (oX.ty XS_158 (oX.ty XS_146 (oX.ty XS_133 (oX.ty XS_120 hxS_108))))))))) t_244 (by decide +kernel)) (oX.ty XS_231 (oX.ty XS_217 (oX.ty XS_202 (oX.ty XS_187 (oXc.ty XS_173 (ty_ne (oX.ty XS_158 (oX.ty XS_146 (oX.ty XS_133 (oX.ty XS_120 hxS_108)))) t_169 (by decide +kernel)) (oX.ty XS_158 (oX.ty XS_146 (oX.ty XS_133 (oX.ty XS_120 hxS_108)))))))))))))))) t_368 (by decide +kernel)) (oX.ty XS_351 (oXc.ty XS_333 (ty_ne (oX.ty XS_314 (oX.ty XS_298 (oX.ty XS_281 (oX.ty XS_264 (oXc.ty XS_248 (ty_ne (oX.ty XS_231 (oX.ty XS_217 (oX.ty XS_202 (oX.ty XS_187 (oXc.ty XS_173 (ty_ne (oX.ty XS_158 (oX.ty XS_146 (oX.ty XS_133 (oX.ty XS_120 hxS_108)))) t_169 (by decide +kernel)) (oX.ty XS_158 (oX.ty XS_146 (oX.ty XS_133 (oX.ty XS_120 hxS_108))))))))) t_244 (by decide +kernel)) (oX.ty XS_231 (oX.ty XS_217 (oX.ty XS_202 (oX.ty XS_187 (oXc.ty XS_173 (ty_ne (oX.ty XS_158 (oX.ty XS_146 (oX.ty XS_133 (oX.ty XS_120 hxS_108)))) t_169 (by decide +kernel)) (oX.ty XS_158 (oX.ty XS_146 (oX.ty XS_133 (oX.ty XS_120 hxS_108)))))))))))))) t_329 (by decide +kernel)) (oX.ty XS_314 (oX.ty XS_298 (oX.ty XS_281 (oX.ty XS_264 (oXc.ty XS_248 (ty_ne (oX.ty XS_231 (oX.ty XS_217 (oX.ty XS_202 (oX.ty XS_187 (oXc.ty XS_173 (ty_ne (oX.ty XS_158 (oX.ty XS_146 (oX.ty XS_133 (oX.ty XS_120 hxS_108)))) t_169 (by decide +kernel)) (oX.ty XS_158 (oX.ty XS_146 (oX.ty XS_133 (oX.ty XS_120 hxS_108))))))))) t_244 (by decide +kernel)) (oX.ty XS_231 (oX.ty XS_217 (oX.ty XS_202 (oX.ty XS_187 (oXc.ty XS_173 (ty_ne (oX.ty XS_158 (oX.ty XS_146 (oX.ty XS_133 (oX.ty XS_120 hxS_108)))) t_169 (by decide +kernel)) (oX.ty XS_158 (oX.ty XS_146 (oX.ty XS_133 (oX.ty XS_120 hxS_108))))))))))))))))
  have rc_382 : rCu S_367 q_132 2 := by rw [eS_367]; exact rCu_K t_368 (by decide +kernel) (rCu_o xm_363 hxS_173 (by decide +kernel) hcu2)
  have rt_383 : oty S_367 q_132 0 := by rw [eS_367]; exact setK_ty (ty_ne (oX.ty XS_351 (oXc.ty XS_333 (ty_ne (oX.ty XS_314 (oX.ty XS_298 (oX.ty XS_281 (oX.ty XS_264 (oXc.ty XS_248 (ty_ne (oX.ty XS_231 (oX.ty XS_217 (oX.ty XS_202 (oX.ty XS_187 hxS_173)))) t_244 (by decide +kernel)) (oX.ty XS_231 (oX.ty XS_217 (oX.ty XS_202 (oX.ty XS_187 hxS_173))))))))) t_329 (by decide +kernel)) (oX.ty XS_314 (oX.ty XS_298 (oX.ty XS_281 (oX.ty XS_264 (oXc.ty XS_248 (ty_ne (oX.ty XS_231 (oX.ty XS_217 (oX.ty XS_202 (oX.ty XS_187 hxS_173)))) t_244 (by decide +kernel)) (oX.ty XS_231 (oX.ty XS_217 (oX.ty XS_202 (oX.ty XS_187 hxS_173))))))))))) t_368 (by decide +kernel)) (oX.ty XS_351 (oXc.ty XS_333 (ty_ne (oX.ty XS_314 (oX.ty XS_298 (oX.ty XS_281 (oX.ty XS_264 (oXc.ty XS_248 (ty_ne (oX.ty XS_231 (oX.ty XS_217 (oX.ty XS_202 (oX.ty XS_187 hxS_173)))) t_244 (by decide +kernel)) (oX.ty XS_231 (oX.ty XS_217 (oX.ty XS_202 (oX.ty XS_187 hxS_173))))))))) t_329 (by decide +kernel)) (oX.ty XS_314 (oX.ty XS_298 (oX.ty XS_281 (oX.ty XS_264 (oXc.ty XS_248 (ty_ne (oX.ty XS_231 (oX.ty XS_217 (oX.ty XS_202 (oX.ty XS_187 hxS_173)))) t_244 (by decide +kernel)) (oX.ty XS_231 (oX.ty XS_217 (oX.ty XS_202 (oX.ty XS_187 hxS_173)))))))))))
  have rc_384 : rCu S_367 q_201 3 := by rw [eS_367]; exact rCu_K t_368 (by decide +kernel) (rCu_o xm_364 hxS_248 (by decide +kernel) hcu3)
  have rt_385 : oty S_367 q_201 0 := by rw [eS_367]; exact setK_ty (ty_ne (oX.ty XS_351 (oXc.ty XS_333 (ty_ne (oX.ty XS_314 (oX.ty XS_298 (oX.ty XS_281 (oX.ty XS_264 hxS_248)))) t_329 (by decide +kernel)) (oX.ty XS_314 (oX.ty XS_298 (oX.ty XS_281 (oX.ty XS_264 hxS_248)))))) t_368 (by decide +kernel)) (oX.ty XS_351 (oXc.ty XS_333 (ty_ne (oX.ty XS_314 (oX.ty XS_298 (oX.ty XS_281 (oX.ty XS_264 hxS_248)))) t_329 (by decide +kernel)) (oX.ty XS_314 (oX.ty XS_298 (oX.ty XS_281 (oX.ty XS_264 hxS_248))))))
  have rc_386 : rCu S_367 q_280 4 := by rw [eS_367]; exact rCu_K t_368 (by decide +kernel) (rCu_o xm_365 hxS_333 (by decide +kernel) hcu4)
  have rt_387 : oty S_367 q_280 0 := by rw [eS_367]; exact setK_ty (ty_ne (oX.ty XS_351 hxS_333) t_368 (by decide +kernel)) (oX.ty XS_351 hxS_333)
  have rt_388 : oty S_367 q_12 13 := by rw [eS_367]; exact setK_ty (ty_ne (oX.ty XS_351 t_348) t_368 (by decide +kernel)) (oX.ty XS_351 t_348)
  exact W.vret hx hb hr (fun t ht hW => ⟨⟨S_367, rfl, ⟨hIS_367, XS_367, ⟨tS_367, ⟨ik_376, q_12, pk_370, rt_388, fun p hp => by rcases (show p = 0 ∨ p = 1 ∨ p = 2 ∨ p = 3 ∨ p = 4 by omega) with rfl | rfl | rfl | rfl | rfl <;> first | exact ⟨_, pk_371, rt_379, rc_378⟩ | exact ⟨_, pk_372, rt_381, rc_380⟩ | exact ⟨_, pk_373, rt_383, rc_382⟩ | exact ⟨_, pk_374, rt_385, rc_384⟩ | exact ⟨_, pk_375, rt_387, rc_386⟩⟩⟩⟩, ⟨by rw [ht]; exact hP, va_K.moved hW.alike hK, hD⟩⟩, hS.F ht⟩) hS.2.2 dX5_init_135
