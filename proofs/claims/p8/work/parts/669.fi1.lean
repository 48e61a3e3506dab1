


set_option maxHeartbeats 4000000 in
set_option maxRecDepth 100000 in
theorem c_J7_copyOf_59c91_c (l : Launch) (dC : Nat → ClassId) (dI : Nat → Nat → Nat) (sz : Nat) (tL tS tG : Nat) (cq : Nat → ClassId) (Z : oS) (gI : oInv Z) (a1 : Nat) (ta1 : oty Z a1 63) (x2 : Int32) (hx2 : 0 ≤ x2.toInt ∧ x2.toInt ≤ 60) : Met l yJ7_copyOf_59c91 wsJ7_copyOf_59c91 ({ frames := 1, cells := 1, slots := 60, locals := 40 }) (va_Pc [.ref a1, .int x2] (pcO (dC, dI) (oT cq) (oW cq Z) sz tL tS tG (oW cq Z))) (va_Qq (fun (r : Option Nat) (u : oS) => oInv u ∧ oX ([] : List Nat) Z u ∧ (∃ b, r = some b ∧ oty u b (300 + x2.toNatClampNeg)) ∧ (∀ b, r = some b → b ∉ oL Z ∧ ∀ j, j < x2.toNatClampNeg → oI u b j = oI Z a1 j)) (fun u t => va_P (dC, dI) vwCl (oW cq u) t.heap ∧ va_K (dC, dI) vwCl (oT cq) t ∧ va_D (va_A (oW cq Z) sz) (oW cq u)) (va_A (oW cq Z) sz)) 1 60 (va_A (oW cq Z) sz) := by
  refine Met.ofW (cc := cJ7_copyOf_59c91) (maxL := 3) (ret := (some (.array .int))) (by decide +kernel) rfl ?_
  intro p e s m args below meth c s₁ B hml hv
  obtain ⟨rfl, ⟨hsz, hP, hK, hD0⟩, hZ⟩ := hv
  have hx := B.exec
  have hb := B.bytes
  have hr := B.returns
  have hts := atoms_spec (ws := wsJ7_copyOf_59c91) B.pre
  have hown : s.vm.findClass RJ7 = some m.cls := findClass_of_methodNamed B.named
  have hlocks := B.notSynchronized
  subst hsz
  have hD := hD0.self (sz := s.heap.size)
  generalize hAe : va_A (oW cq Z) s.heap.size = A at hD hZ ⊢
  have hA : ∀ q : Nat, s.heap.size ≤ q → A q := fun q h => by rw [← hAe]; exact Or.inr h
  have hS : va_S A s.heap s.heap [] := va_S.rf
  have hP : va_P (dC, dI) vwCl (oW cq Z) s.heap := hP
  have hl := lv_entry ([.ref a1, .int x2]) (n := 3) (Nat.le_of_ble_eq_true rfl)
  rw [lg_entry_eq]
  generalize (lg_sl ([.ref a1, .int x2]) ++ List.replicate (3 - (lg_sl ([.ref a1, .int x2])).length) Slot.unset).toArray = ls at hl ⊢
  have hl : lv_has ls 3 [(0, .ref a1), (1, .int x2)] := hl
  refine lv_iload_n hx hb dJ7_copyOf_59c91_0 rfl (lv_at hl 1 rfl) ?_
  refine lv_aload_n hx hb dJ7_copyOf_59c91_1 rfl (lv_at hl 0 rfl) ?_
  obtain ⟨q_1, hq_1⟩ := og (cq := cq) ta1.1 (oE_63 ta1.2)
  refine va_alen (v := 60) hx hb hK hP q_1 0 hq_1 rfl (show Int32.ofNat 60 = 60 by decide) dJ7_copyOf_59c91_2 ?_
  refine lv_icmp_ne (tgt := 14) hx hb dJ7_copyOf_59c91_3 (by decide +kernel) (fun c_2 => ?_) (fun c_2 => ?_)
  · have dc_2 := c_ne (a := x2.toInt) (b := 60) rfl (by decide +kernel) c_2
    refine lv_iload_n hx hb dJ7_copyOf_59c91_14 rfl (lv_at hl 1 rfl) ?_
    have hp_5 : x2.toNatClampNeg = x2.toInt.toNat := rfl
    refine va_newa (atype := .int) (ty := .int) (a0 := (x2.toNatClampNeg, .inl (fun _ => 0))) hx hb (hts (.arrayClass .int) iw_J7_copyOf_59c91_1) rfl hK hP hD hS hA (fun _ => rfl) (fun h => by have := c_lt (a := x2.toInt) (b := 0) rfl (by decide +kernel) h; omega) rfl (show _ * 4 ≤ 536870912 by have : x2.toNatClampNeg = x2.toInt.toNat := rfl; omega) (Nat.le_of_ble_eq_true rfl) (by have h1 : x2.toNatClampNeg = x2.toInt.toNat := rfl; show 0 + x2.toNatClampNeg ≤ 60; omega) dJ7_copyOf_59c91_15 (fun q_3 k_4 H hK1 hP1 hD1 hS => ?_)
    obtain ⟨rfl, -⟩ := lv_ad (k := 0) hK1 rfl
    clear hK1
    have hnq_3 := add_q hD1
    obtain ⟨S_6, eS_6⟩ : ∃ zq, zq = addO Z q_3 (300 + x2.toNatClampNeg) := ⟨_, rfl⟩
    have hP : va_P (dC, dI) vwCl (oW cq S_6) H := by rw [eS_6]; exact cP (onew hD1 (by rw [oE_ar (n := x2.toNatClampNeg) add_K (by omega), add_I])) hP1
    have hD : va_D A (oW cq S_6) := by rw [eS_6]; exact cD (onew hD1 (by rw [oE_ar (n := x2.toNatClampNeg) add_K (by omega), add_I])) hD1
    clear hP1 hD1
    have hIS_6 : oInv S_6 := by rw [eS_6]; exact oInv.add gI hnq_3 (by omega)
    have XS_6 : oX [] Z S_6 := by rw [eS_6]; exact oX.add hnq_3
    have nzq_3 : q_3 ∉ oL Z := hnq_3
    have X_7 : oX ([] : List Nat) Z S_6 := oX.st oX.rf XS_6 (by decide +kernel)
    have tq_3 : oty S_6 q_3 (300 + x2.toNatClampNeg) := by rw [eS_6]; exact add_ty
    have hzq_3 : x2.toNatClampNeg = x2.toInt.toNat := rfl
    refine W.widen (k := 1) (n := 59) (Nat.le_of_ble_eq_true rfl) (by omega) ?_
    refine lv_astore_n (lv' := [(2, .ref q_3), (0, .ref a1), (1, .int x2)]) hx hb dJ7_copyOf_59c91_17 rfl hl (by decide +kernel) rfl (fun ls hl => ?_)
    refine lv_aload_n hx hb dJ7_copyOf_59c91_18 rfl (lv_at hl 1 rfl) ?_
    refine lv_iconst (v := 0) hx hb dJ7_copyOf_59c91_19 (by decide +kernel) ?_
    refine lv_aload_n hx hb dJ7_copyOf_59c91_20 rfl (lv_at hl 0 rfl) ?_
    refine lv_iconst (v := 0) hx hb dJ7_copyOf_59c91_21 (by decide +kernel) ?_
    refine lv_aload_n hx hb dJ7_copyOf_59c91_22 rfl (lv_at hl 1 rfl) ?_
    have t_8 : oty S_6 a1 63 := (oX.ty XS_6 ta1)
    obtain ⟨q_9, hq_9⟩ := og (cq := cq) t_8.1 (oE_63 t_8.2)
    refine va_alen (v := 60) hx hb hK hP q_9 0 hq_9 rfl (show Int32.ofNat 60 = 60 by decide) dJ7_copyOf_59c91_23 ?_
    refine lv_iload_n hx hb dJ7_copyOf_59c91_24 rfl (lv_at hl 2 rfl) ?_
    refine va_mmin hx hb (by rw [hml]; exact hl.1.symm) hown (hts (.methodLink RJ7 304 Lib.Math.min.name) iw_J7_copyOf_59c91_2) (hts (.static Lib.Math.min.name) iw_J7_copyOf_59c91_3) (hts (.initialized "java/lang/Math") iw_J7_copyOf_59c91_4) (hts (.code Lib.Math.min.name Lib.Math.min.code 2 (some .int)) (by decide +kernel)) (Nat.le_of_ble_eq_true rfl) (Nat.le_of_ble_eq_true rfl) (Nat.le_of_ble_eq_true rfl) (Nat.le_of_ble_eq_true rfl) dJ7_copyOf_59c91_25 ?_
    refine lv_topi (fun x_10 ex_10 => ?_)
    have hx_10 := mmin_i ex_10
    clear ex_10
    have kc_11 : (60 : Int32).toInt = 60 := by decide
    obtain ⟨q_12, hq_12⟩ := og (cq := cq) tq_3.1 (oE_ar (n := x2.toNatClampNeg) tq_3.2 (by omega))
    have hn3 : ¬ x_10 < 0 := fun h => by have := c_lt (a := x_10.toInt) (b := 0) rfl (by decide +kernel) h; omega
    have hnn : x_10.toNatClampNeg = x_10.toInt.toNat := rfl
    refine va_copyi (ty := .int) hx hb (by rw [hml]; exact hl.1.symm) hown (hts (.methodLink RJ7 150 arraycopyName) iw_J7_copyOf_59c91_5) (hts (.native arraycopyName) iw_J7_copyOf_59c91_6) (hts (.static arraycopyName) iw_J7_copyOf_59c91_7) (hts (.initialized "java/lang/System") iw_J7_copyOf_59c91_8) hK hP hD hS q_9 q_12 0 0 hq_9 hq_12 rfl rfl rfl (by decide +kernel) (by decide +kernel) hn3 (show 0 + _ ≤ 60 by omega) (show 0 + _ ≤ _ by omega) (fun i _ => rfl) (Nat.le_of_ble_eq_true rfl) (Nat.le_of_ble_eq_true rfl) dJ7_copyOf_59c91_28 (fun H locs hP1 hD1 hS => ?_)
    obtain ⟨S_13, eS_13⟩ : ∃ zq, zq = setF S_6 q_3 (va_cpy (oI S_6 a1) (oI S_6 q_3) (0 : Int32).toNatClampNeg (0 : Int32).toNatClampNeg x_10.toNatClampNeg) := ⟨_, rfl⟩
    have hP : va_P (dC, dI) vwCl (oW cq S_13) H := by rw [eS_13]; exact cP (oset tq_3.1 hq_12 hD rfl (he_F (n := x2.toNatClampNeg) tq_3.2 (by omega)) neF) hP1
    have hD : va_D A (oW cq S_13) := by rw [eS_13]; exact cD (oset tq_3.1 hq_12 hD rfl (he_F (n := x2.toNatClampNeg) tq_3.2 (by omega)) neF) hD1
    clear hP1 hD1
    have hIS_13 : oInv S_13 := by rw [eS_13]; exact oInv.F (n := x2.toNatClampNeg) hIS_6 tq_3.2
    have XS_13 : oX [5000] S_6 S_13 := by rw [eS_13]; exact oX.F (n := x2.toNatClampNeg) tq_3.2 (by decide +kernel) (by omega)
    have X_14 : oX ([] : List Nat) Z S_13 := by rw [eS_13]; exact oX.Fn X_7 nzq_3
    refine lv_aload_n hx hb dJ7_copyOf_59c91_31 rfl (lv_at hl 0 rfl) ?_
    refine W.widen (k := 1) (n := 60) (Nat.le_of_ble_eq_true rfl) (Nat.le_of_ble_eq_true rfl) ?_
    have t_15 : oty S_13 q_3 (300 + x2.toNatClampNeg) := (oX.ty XS_13 tq_3)
    exact W.aret (v := .ref q_3) hx hb hr (Or.inr ⟨_, rfl⟩) (Or.inr ⟨_, rfl⟩) (fun t ht hW => ⟨⟨(some q_3), S_13, rfl, ⟨hIS_13, X_14, ⟨_, rfl, t_15⟩, (fun b hb => by cases hb; exact ⟨nzq_3, fun j hj => by rw [eS_13]; refine (congrFun (show oI (setF S_6 q_3 (va_cpy (oI S_6 a1) (oI S_6 q_3) (0 : Int32).toNatClampNeg (0 : Int32).toNatClampNeg x_10.toNatClampNeg)) q_3 = _ from va_up_self ..) j).trans ?_; rw [cpy_j (show j < x_10.toNatClampNeg by have n1 : x_10.toNatClampNeg = x_10.toInt.toNat := rfl; have n2 : x2.toNatClampNeg = x2.toInt.toNat := rfl; omega)]; exact congrFun (oX.f (W := []) (oX.st oX.rf XS_6 (by decide +kernel)) ta1 (fun _ => by simp)) j⟩)⟩, ⟨by rw [ht]; exact hP, va_K.moved hW.alike hK, hD⟩⟩, hS.F ht⟩) hS.2.2 dJ7_copyOf_59c91_32
  · have dc_2 := c_eq (a := x2.toInt) (b := 60) rfl (by decide +kernel) c_2
    refine lv_aload_n hx hb dJ7_copyOf_59c91_6 rfl (lv_at hl 0 rfl) ?_
    have hnI := va_nm_int (hK.2 0 _ rfl).2
    refine va_clone (ad := "[I") hx hb (by rw [hml]; exact hl.1.symm) hown (hts (.methodLink RJ7 316 ⟨"[I", "clone", "()Ljava/lang/Object;"⟩) iw_J7_copyOf_59c91_9) (hts (.sameMethod "[I" "java/lang/Object" "clone" "()Ljava/lang/Object;") iw_J7_copyOf_59c91_10) (hts (.native ⟨"java/lang/Object", "clone", "()Ljava/lang/Object;"⟩) iw_J7_copyOf_59c91_11) (hts (.instanceMethod ⟨"java/lang/Object", "clone", "()Ljava/lang/Object;"⟩) iw_J7_copyOf_59c91_12) (hts (.selects "[I" ⟨"[I", "clone", "()Ljava/lang/Object;"⟩ ⟨"java/lang/Object", "clone", "()Ljava/lang/Object;"⟩) iw_J7_copyOf_59c91_13) hZ.2.2.2.2 hK hP hD hS hA q_1 0 hq_1 rfl hnI (fun i v hv => va_fit (cA := cq 0) (n := 60) (F := fun j => .int (oI Z a1 j)) (ty := .int) (fun i _ => rfl) i v hv) (Nat.le_of_ble_eq_true rfl) (Nat.le_of_ble_eq_true rfl) (Nat.le_of_ble_eq_true rfl) (Nat.le_of_ble_eq_true rfl) dJ7_copyOf_59c91_7 (fun q_16 H hK1 hP1 hD1 hS => ?_)
    clear hK1
    have hnq_16 := add_q hD1
    obtain ⟨S_17, eS_17⟩ : ∃ zq, zq = setF (addO Z q_16 360) q_16 (oI Z a1) := ⟨_, rfl⟩
    have hP : va_P (dC, dI) vwCl (oW cq S_17) H := by rw [eS_17]; exact cP (onewF (n := 60) hD1 (by decide +kernel)) hP1
    have hD : va_D A (oW cq S_17) := by rw [eS_17]; exact cD (onewF (n := 60) hD1 (by decide +kernel)) hD1
    clear hP1 hD1
    have hIS_17 : oInv S_17 := by rw [eS_17]; exact oInv.F (n := 60) (oInv.add gI hnq_16 (by decide +kernel)) add_K
    have XS_17 : oX [] Z S_17 := by rw [eS_17]; exact oX.Fn (oX.add hnq_16) hnq_16
    have tq_16 : oty S_17 q_16 360 := by rw [eS_17]; exact oX.ty (W := [5000]) (oX.F (n := 60) add_K (by decide +kernel) (by decide +kernel)) add_ty
    have X_18 : oX ([] : List Nat) Z S_17 := oX.st oX.rf XS_17 (by decide +kernel)
    refine W.widen (k := 1) (n := 60) (Nat.le_of_ble_eq_true rfl) (Nat.le_of_ble_eq_true rfl) ?_
    obtain ⟨q_19, hq_19⟩ := og (cq := cq) tq_16.1 (oE_ar (n := 60) tq_16.2 (by decide +kernel))
    refine va_castA hx hb hown (hts (.classLink RJ7 317 "[I") iw_J7_copyOf_59c91_14) hP q_19 hq_19 hnI dJ7_copyOf_59c91_10 ?_
    have h60 : x2.toNatClampNeg = 60 := (show x2.toInt.toNat = 60 by omega)
    have t_20 : oty S_17 q_16 (300 + x2.toNatClampNeg) := by rw [h60]; exact tq_16
    exact W.aret (v := .ref q_16) hx hb hr (Or.inr ⟨_, rfl⟩) (Or.inr ⟨_, rfl⟩) (fun t ht hW => ⟨⟨(some q_16), S_17, rfl, ⟨hIS_17, X_18, ⟨_, rfl, t_20⟩, (fun b hb => by cases hb; exact ⟨hnq_16, fun j _ => by rw [eS_17]; exact congrFun (show oI (setF (addO Z q_16 360) q_16 (oI Z a1)) q_16 = oI Z a1 from va_up_self ..) j⟩)⟩, ⟨by rw [ht]; exact hP, va_K.moved hW.alike hK, hD⟩⟩, hS.F ht⟩) hS.2.2 dJ7_copyOf_59c91_13
set_option maxHeartbeats 4000000 in
set_option maxRecDepth 100000 in
theorem c_X5_add_g (l : Launch) (dC : Nat → ClassId) (dI : Nat → Nat → Nat) (sz : Nat) (cq : Nat → ClassId) (Z : oS) (gI : oInv Z) (o : Nat) (to : oty Z o 5) (a1 : Nat) (ta1 : oty Z a1 0) : Met l yX5_add wsX5_add ({ frames := 0, cells := 0, slots := 0, locals := 0 }) (va_Pc [.ref o, .ref a1] (pcW (dC, dI) (oT cq) (oW cq Z) sz)) (va_Qv (fun (u : oS) => oInv u ∧ oX [502, 2012] Z u ∧ ((oI Z o 2).toInt < 30 → ∃ y : Int32, y.toInt = (oI Z o 2).toInt + 1 ∧ u = setI (setP Z (oQ Z o 0) (oI Z o 2).toNatClampNeg (some a1)) o 2 y)) (fun u t => va_P (dC, dI) vwCl (oW cq u) t.heap ∧ va_K (dC, dI) vwCl (oT cq) t ∧ va_D (va_A (oW cq Z) sz) (oW cq u)) (va_A (oW cq Z) sz)) 0 0 (va_A (oW cq Z) sz) := by
  refine Met.ofW (cc := cX5_add) (maxL := 2) (ret := none) (by decide +kernel) rfl ?_
  intro p e s m args below meth c s₁ B hml hv
  obtain ⟨rfl, hsz, hP, hK, hD0⟩ := hv
  have hx := B.exec
  have hb := B.bytes
  have hr := B.returns
  have hts := atoms_spec (ws := wsX5_add) B.pre
  have hown : s.vm.findClass RX5 = some m.cls := findClass_of_methodNamed B.named
  have hlocks := B.notSynchronized
  subst hsz
  have hD := hD0.self (sz := s.heap.size)
  generalize hAe : va_A (oW cq Z) s.heap.size = A at hD ⊢
  have hA : ∀ q : Nat, s.heap.size ≤ q → A q := fun q h => by rw [← hAe]; exact Or.inr h
  have hS : va_S A s.heap s.heap [] := va_S.rf
  have hP : va_P (dC, dI) vwCl (oW cq Z) s.heap := hP
  have hl := lv_entry ([.ref o, .ref a1]) (n := 2) (Nat.le_of_ble_eq_true rfl)
  rw [lg_entry_eq]
  generalize (lg_sl ([.ref o, .ref a1]) ++ List.replicate (2 - (lg_sl ([.ref o, .ref a1])).length) Slot.unset).toArray = ls at hl ⊢
  have hl : lv_has ls 2 [(0, .ref o), (1, .ref a1)] := hl
  refine lv_aload_n hx hb dX5_add_0 rfl (lv_at hl 0 rfl) ?_
  obtain ⟨q_1, hq_1⟩ := og (cq := cq) to.1 (oE_5 to.2)
  refine va_get (D := (dC, dI)) (ci := 5) (v := .int (oI Z o 2)) (C := RX5) (T := TX5) (N := 3) hx hb hts in_wsX5_add_X5 hown hK hP q_1 hq_1 rfl 2 (by decide +kernel) (hts (.fieldLink RX5 23 "ShipOffice$Law" "actCount" "I") iw_X5_add_1) (fun _ h9 => h9) rfl dX5_add_1 ?_
  refine lv_topi (fun x_2 ex_2 => ?_)
  have hx_2 : 0 ≤ x_2.toInt ∧ x_2.toInt ≤ 30 := iv_of ex_2 (oInv.iv gI to.2 rfl rfl)
  have gx_2 : x_2.toInt = (oI Z o 2).toInt := iv_to ex_2
  clear ex_2
  refine lv_bipush (v := 30) hx hb dX5_add_4 (by decide +kernel) ?_
  refine lv_icmp_ge (tgt := 29) hx hb dX5_add_6 (by decide +kernel) (fun c_3 => ?_) (fun c_3 => ?_)
  · have dc_3 := c_le (a := 30) (b := x_2.toInt) (by decide +kernel) rfl c_3
    exact W.vret hx hb hr (fun t ht hW => ⟨⟨Z, rfl, ⟨gI, oX.rf, (fun h => by omega)⟩, ⟨by rw [ht]; exact hP, va_K.moved hW.alike hK, hD⟩⟩, hS.F ht⟩) hS.2.2 dX5_add_29
  · have dc_3 := c_nle (a := 30) (b := x_2.toInt) (by decide +kernel) rfl c_3
    refine lv_aload_n hx hb dX5_add_9 rfl (lv_at hl 0 rfl) ?_
    obtain ⟨b_4, hb_4⟩ := oInv.nn (i := 0) gI to rfl
    refine va_get (D := (dC, dI)) (ci := 5) (v := .ref b_4) (C := RX5) (T := TX5) (N := 3) hx hb hts in_wsX5_add_X5 hown hK hP q_1 hq_1 rfl 0 (by decide +kernel) (hts (.fieldLink RX5 11 "ShipOffice$Law" "acts" "[LShipOffice$Act;") iw_X5_add_2) (fun _ h9 => h9) (o_rd hb_4) dX5_add_10 ?_
    have tb_4 : oty Z b_4 12 := oInv.rd gI to.2 hb_4 rfl rfl
    refine lv_aload_n hx hb dX5_add_13 rfl (lv_at hl 0 rfl) ?_
    refine va_get (D := (dC, dI)) (ci := 5) (v := .int (oI Z o 2)) (C := RX5) (T := TX5) (N := 3) hx hb hts in_wsX5_add_X5 hown hK hP q_1 hq_1 rfl 2 (by decide +kernel) (hts (.fieldLink RX5 23 "ShipOffice$Law" "actCount" "I") iw_X5_add_1) (fun _ h9 => h9) rfl dX5_add_14 ?_
    refine lv_topi (fun x_5 ex_5 => ?_)
    have hx_5 : 0 ≤ x_5.toInt ∧ x_5.toInt ≤ 30 := iv_of ex_5 (oInv.iv gI to.2 rfl rfl)
    have gx_5 : x_5.toInt = (oI Z o 2).toInt := iv_to ex_5
    clear ex_5
    refine lv_aload_n hx hb dX5_add_17 rfl (lv_at hl 1 rfl) ?_
    obtain ⟨q_6, hq_6⟩ := og (cq := cq) tb_4.1 (oE_12 tb_4.2)
    obtain ⟨q_7, hq_7⟩ := og (cq := cq) ta1.1 (oE_0 ta1.2)
    refine va_astq (r := (RX0, TX0, 5)) hx hb hK hP hD hS q_6 2 q_7 0 hq_6 rfl hq_7 rfl (vp_in_iff.mpr (by omega)) dX5_add_18 (fun H locs hP1 hD1 hS => ?_)
    obtain ⟨S_8, eS_8⟩ : ∃ zq, zq = setP Z b_4 (x_5 : Int32).toNatClampNeg (some a1) := ⟨_, rfl⟩
    have hP : va_P (dC, dI) vwCl (oW cq S_8) H := by rw [eS_8]; exact cP (oset tb_4.1 hq_6 hD rfl (he_12 tb_4.2) neP) hP1
    have hD : va_D A (oW cq S_8) := by rw [eS_8]; exact cD (oset tb_4.1 hq_6 hD rfl (he_12 tb_4.2) neP) hD1
    clear hP1 hD1
    have hIS_8 : oInv S_8 := by rw [eS_8]; exact oInv.P (k := 12) gI tb_4.2 (by decide +kernel) rfl (fun h => absurd h.1 (by decide +kernel)) ta1 (show 0 ≤ 0 ∧ 0 ≤ 0 from ⟨Nat.le_refl _, Nat.le_refl _⟩)
    have XS_8 : oX [2012] Z S_8 := by rw [eS_8]; exact oX.P (k := 12) (key := 2012) tb_4.2 rfl (List.mem_singleton.mpr rfl)
    have X_9 : oX [502, 2012] Z S_8 := oX.st oX.rf XS_8 (by decide +kernel)
    have g_10 : (oI S_8 o 2).toInt = (oI Z o 2).toInt := by rw [eS_8]; rfl
    have helS_8 : oP S_8 b_4 (x_5 : Int32).toNatClampNeg = some a1 := by rw [eS_8, setP_same]
    have hsrS_8 : oP S_8 o 0 = some b_4 := by rw [eS_8, setP_oth (ty_ne to tb_4 (by decide +kernel))]; exact hb_4
    refine lv_aload_n hx hb dX5_add_19 rfl (lv_at hl 0 rfl) ?_
    refine lv_dup hx hb dX5_add_20 rfl ?_
    have t_11 : oty S_8 o 5 := (oX.ty XS_8 to)
    obtain ⟨q_12, hq_12⟩ := og (cq := cq) t_11.1 (oE_5 t_11.2)
    refine va_get (D := (dC, dI)) (ci := 5) (v := .int (oI S_8 o 2)) (C := RX5) (T := TX5) (N := 3) hx hb hts in_wsX5_add_X5 hown hK hP q_12 hq_12 rfl 2 (by decide +kernel) (hts (.fieldLink RX5 23 "ShipOffice$Law" "actCount" "I") iw_X5_add_1) (fun _ h9 => h9) rfl dX5_add_21 ?_
    refine lv_topi (fun x_13 ex_13 => ?_)
    have hx_13 : 0 ≤ x_13.toInt ∧ x_13.toInt ≤ 30 := iv_of ex_13 (oInv.iv hIS_8 t_11.2 rfl rfl)
    have gx_13 : x_13.toInt = (oI S_8 o 2).toInt := iv_to ex_13
    clear ex_13
    refine lv_iconst (v := 1) hx hb dX5_add_24 (by decide +kernel) ?_
    refine lv_iadd hx hb dX5_add_25 ?_
    refine lv_topi (fun x_14 ex_14 => ?_)
    have hx_14 : x_14.toInt = x_13.toInt + 1 := (iv_to ex_14).trans (ad_i rfl (by decide +kernel) (by omega) (by omega))
    clear ex_14
    refine va_put (D := (dC, dI)) (ci := 5) (v := .int x_14) (ty := .int) (C := RX5) (T := TX5) (N := 3) hx hb hts in_wsX5_add_X5 tyX5 tyX5_ok nmX5 hown hK hP hD hS q_12 hq_12 rfl 2 (by decide +kernel) (hts (.fieldLink RX5 23 "ShipOffice$Law" "actCount" "I") iw_X5_add_1) (fun _ h9 => h9) rfl (by decide +kernel) rfl rfl (Nat.le_of_ble_eq_true rfl) dX5_add_26 (fun H locs hP1 hD1 hS => ?_)
    obtain ⟨S_15, eS_15⟩ : ∃ zq, zq = setI S_8 o 2 x_14 := ⟨_, rfl⟩
    have hP : va_P (dC, dI) vwCl (oW cq S_15) H := by rw [eS_15]; exact cP (oset t_11.1 hq_12 hD rfl (he_5_2 t_11.2) neI) hP1
    have hD : va_D A (oW cq S_15) := by rw [eS_15]; exact cD (oset t_11.1 hq_12 hD rfl (he_5_2 t_11.2) neI) hD1
    clear hP1 hD1
    have hIS_15 : oInv S_15 := by rw [eS_15]; exact oInv.I (k := 5) (lo := 0) (hi := 30) hIS_8 t_11.2 (by decide +kernel) rfl rfl (by omega) (inv_cnt hIS_8 t_11 rfl hsrS_8 (by omega) (by omega) ⟨_, by rw [← cnt_at (x := x_5) (S := S_8) (a := o) (i := 2) (by omega)]; exact helS_8⟩)
    have XS_15 : oX [502] S_8 S_15 := by rw [eS_15]; exact oX.I (k := 5) (key := 502) t_11.2 rfl (List.mem_singleton.mpr rfl)
    have X_16 : oX [502, 2012] Z S_15 := oX.st X_9 XS_15 (by decide +kernel)
    have g_17 : (oI S_15 o 2).toInt = x_14.toInt := by rw [eS_15, setI_same]
    exact W.vret hx hb hr (fun t ht hW => ⟨⟨S_15, rfl, ⟨hIS_15, X_16, (fun _ => ⟨x_14, by omega, by rw [eS_15, eS_8, oQ_e hb_4, (show x_5 = oI Z o 2 from Int32.toInt_inj.mp (by omega))]⟩)⟩, ⟨by rw [ht]; exact hP, va_K.moved hW.alike hK, hD⟩⟩, hS.F ht⟩) hS.2.2 dX5_add_29
