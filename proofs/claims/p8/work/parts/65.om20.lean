abbrev cX10_days : ByteArray := prog_1_method_2_code
def yX10_days : MethodName := ⟨RX10, "days", "(I)I"⟩
def wsX10_days : List Cond := .code yX10_days cX10_days 2 (some .int) :: ([.fieldLink RX10 73 "ShipOffice" "now" "I", .methodLink RX10 69 yX10_refuse, .instanceMethod yX10_refuse, .selects RX10 yX10_refuse yX10_refuse, .initialized RX10, .code yX10_refuse cX10_refuse 2 (some .int), .fieldLink RX10 66 "ShipOffice" "refusals" "[I"] ++ wsX100)
theorem il_X10_days_1 : ∀ w ∈ ([.fieldLink RX10 73 "ShipOffice" "now" "I", .methodLink RX10 69 yX10_refuse, .instanceMethod yX10_refuse, .selects RX10 yX10_refuse yX10_refuse, .initialized RX10, .code yX10_refuse cX10_refuse 2 (some .int), .fieldLink RX10 66 "ShipOffice" "refusals" "[I"] : List Cond), w ∈ wsX10_days := fun w h => (List.mem_cons_of_mem _ (List.mem_append_left _ h))
theorem il_X10_days_2 : ∀ w ∈ wsX100, w ∈ wsX10_days := fun w h => (List.mem_cons_of_mem _ (List.mem_append_right _ h))
theorem iw_X10_days_1 : Cond.fieldLink RX10 73 "ShipOffice" "now" "I" ∈ wsX10_days := (mmI il_X10_days_1 0 rfl)
set_option maxRecDepth 100000 in
theorem ggX10_days_X10_refuse : GoodIn wsX10_days wsX10_refuse := goodIn_sub (mmC (mmI il_X10_days_1 5 rfl) (mmA (mmC (mmI il_X10_days_1 6 rfl) mmN) il_X10_days_2)) gw_X10_refuse
theorem gX10_days_X10_refuse : GoodIn wsX10_days (wsV RX10 69 RX10 yX10_refuse wsX10_refuse) := goodIn_app (goodIn_sub (mmC (mmI il_X10_days_1 1 rfl) (mmC (mmI il_X10_days_1 2 rfl) (mmC (mmI il_X10_days_1 3 rfl) (mmC (mmI il_X10_days_1 4 rfl) mmN)))) (by decide +kernel)) ggX10_days_X10_refuse
theorem dX10_days_0 : decode cX10_days 0 = .ok (.iload_n 1, 1) := by decide +kernel
theorem dX10_days_1 : decode cX10_days 1 = .ok (.iconst 1, 1) := by decide +kernel
theorem dX10_days_2 : decode cX10_days 2 = .ok (.if_icmp .ge 10, 3) := by decide +kernel
theorem dX10_days_5 : decode cX10_days 5 = .ok (.aload_n 0, 1) := by decide +kernel
theorem dX10_days_6 : decode cX10_days 6 = .ok (.bipush (-4), 2) := by decide +kernel
theorem dX10_days_8 : decode cX10_days 8 = .ok (.invokevirtual 69, 3) := by decide +kernel
theorem dX10_days_11 : decode cX10_days 11 = .ok (.ireturn, 1) := by decide +kernel
theorem dX10_days_12 : decode cX10_days 12 = .ok (.iload_n 1, 1) := by decide +kernel
theorem dX10_days_13 : decode cX10_days 13 = .ok (.sipush 3000, 3) := by decide +kernel
theorem dX10_days_16 : decode cX10_days 16 = .ok (.aload_n 0, 1) := by decide +kernel
theorem dX10_days_17 : decode cX10_days 17 = .ok (.getfield 73, 3) := by decide +kernel
theorem dX10_days_20 : decode cX10_days 20 = .ok (.isub, 1) := by decide +kernel
theorem dX10_days_21 : decode cX10_days 21 = .ok (.if_icmp .le 10, 3) := by decide +kernel
theorem dX10_days_24 : decode cX10_days 24 = .ok (.aload_n 0, 1) := by decide +kernel
theorem dX10_days_25 : decode cX10_days 25 = .ok (.bipush (-6), 2) := by decide +kernel
theorem dX10_days_27 : decode cX10_days 27 = .ok (.invokevirtual 69, 3) := by decide +kernel
theorem dX10_days_30 : decode cX10_days 30 = .ok (.ireturn, 1) := by decide +kernel
theorem dX10_days_31 : decode cX10_days 31 = .ok (.aload_n 0, 1) := by decide +kernel
theorem dX10_days_32 : decode cX10_days 32 = .ok (.dup, 1) := by decide +kernel
theorem dX10_days_33 : decode cX10_days 33 = .ok (.getfield 73, 3) := by decide +kernel
theorem dX10_days_36 : decode cX10_days 36 = .ok (.iload_n 1, 1) := by decide +kernel
theorem dX10_days_37 : decode cX10_days 37 = .ok (.iadd, 1) := by decide +kernel
theorem dX10_days_38 : decode cX10_days 38 = .ok (.putfield 73, 3) := by decide +kernel
theorem dX10_days_41 : decode cX10_days 41 = .ok (.aload_n 0, 1) := by decide +kernel
theorem dX10_days_42 : decode cX10_days 42 = .ok (.getfield 73, 3) := by decide +kernel
theorem dX10_days_45 : decode cX10_days 45 = .ok (.ireturn, 1) := by decide +kernel
theorem in_wsX10_days_X10 : ∀ w ∈ wsX100, w ∈ wsX10_days := fun w h => List.mem_cons_of_mem _ (List.mem_append_right _ h)
/-- what days(n) answers on day a, and the day behind it -/
def odays (a n r a1 : Int) : Prop := (n < 1 ∧ r = -4 ∧ a1 = a) ∨ (1 ≤ n ∧ 3000 - a < n ∧ r = -6 ∧ a1 = a) ∨ (1 ≤ n ∧ n ≤ 3000 - a ∧ r = a + n ∧ a1 = a + n)
set_option maxHeartbeats 4000000 in
set_option maxRecDepth 100000 in
theorem c_X10_days (l : Launch) (dC : Nat → ClassId) (dI : Nat → Nat → Nat) (sz : Nat) (cq : Nat → ClassId) (Z : oS) (gI : oInv Z) (o : Nat) (to : oty Z o 10) (x1 : Int32) : Met l yX10_days wsX10_days ({ frames := 1, cells := 0, slots := 0, locals := 21 }) (va_Pc [.ref o, .int x1] (pcW (dC, dI) (oT cq) (oW cq Z) sz)) (va_Qi (fun (r : Int32) (u : oS) => oInv u ∧ oX [1000, 2107] Z u ∧ (odays (oI Z o 0).toInt x1.toInt r.toInt (oI u o 0).toInt)) (fun u t => va_P (dC, dI) vwCl (oW cq u) t.heap ∧ va_K (dC, dI) vwCl (oT cq) t ∧ va_D (va_A (oW cq Z) sz) (oW cq u)) (va_A (oW cq Z) sz)) 0 0 (va_A (oW cq Z) sz) := by
  refine Met.ofW (cc := cX10_days) (maxL := 2) (ret := (some .int)) (by decide +kernel) rfl ?_
  intro p e s m args below meth c s₁ B hml hv
  obtain ⟨rfl, hsz, hP, hK, hD0⟩ := hv
  have hx := B.exec
  have hb := B.bytes
  have hr := B.returns
  have hts := atoms_spec (ws := wsX10_days) B.pre
  have hown : s.vm.findClass RX10 = some m.cls := findClass_of_methodNamed B.named
  have hlocks := B.notSynchronized
  subst hsz
  have hD := hD0.self (sz := s.heap.size)
  generalize hAe : va_A (oW cq Z) s.heap.size = A at hD ⊢
  have hA : ∀ q : Nat, s.heap.size ≤ q → A q := fun q h => by rw [← hAe]; exact Or.inr h
  have hS : va_S A s.heap s.heap [] := va_S.rf
  have hP : va_P (dC, dI) vwCl (oW cq Z) s.heap := hP
  have hl := lv_entry ([.ref o, .int x1]) (n := 2) (Nat.le_of_ble_eq_true rfl)
  rw [lg_entry_eq]
  generalize (lg_sl ([.ref o, .int x1]) ++ List.replicate (2 - (lg_sl ([.ref o, .int x1])).length) Slot.unset).toArray = ls at hl ⊢
  have hl : lv_has ls 2 [(0, .ref o), (1, .int x1)] := hl
  refine lv_iload_n hx hb dX10_days_0 rfl (lv_at hl 1 rfl) ?_
  refine lv_iconst (v := 1) hx hb dX10_days_1 (by decide +kernel) ?_
  refine lv_icmp_ge (tgt := 12) hx hb dX10_days_2 (by decide +kernel) (fun c_1 => ?_) (fun c_1 => ?_)
  · have dc_1 := c_le (a := 1) (b := x1.toInt) (by decide +kernel) rfl c_1
    refine lv_iload_n hx hb dX10_days_12 rfl (lv_at hl 1 rfl) ?_
    refine lv_sipush (v := 3000) hx hb dX10_days_13 (by decide +kernel) ?_
    refine lv_aload_n hx hb dX10_days_16 rfl (lv_at hl 0 rfl) ?_
    obtain ⟨q_2, hq_2⟩ := og (cq := cq) to.1 (oE_10 to.2)
    refine va_get (D := (dC, dI)) (ci := 10) (v := .int (oI Z o 0)) (C := RX10) (T := TX10) (N := 16) hx hb hts in_wsX10_days_X10 hown hK hP q_2 hq_2 rfl 0 (by decide +kernel) (hts (.fieldLink RX10 73 "ShipOffice" "now" "I") iw_X10_days_1) (fun _ h9 => h9) rfl dX10_days_17 ?_
    refine lv_topi (fun x_3 ex_3 => ?_)
    have hx_3 : 0 ≤ x_3.toInt ∧ x_3.toInt ≤ 3000 := iv_of ex_3 (oInv.iv gI to.2 rfl rfl)
    have gx_3 : x_3.toInt = (oI Z o 0).toInt := iv_to ex_3
    clear ex_3
    refine lv_isub hx hb dX10_days_20 ?_
    refine lv_topi (fun x_4 ex_4 => ?_)
    have hx_4 : x_4.toInt = 3000 - x_3.toInt := (iv_to ex_4).trans (sb_i (by decide +kernel) rfl (by omega) (by omega))
    clear ex_4
    refine lv_icmp_le (tgt := 31) hx hb dX10_days_21 (by decide +kernel) (fun c_5 => ?_) (fun c_5 => ?_)
    · have dc_5 := c_le (a := x1.toInt) (b := x_4.toInt) rfl rfl c_5
      refine lv_aload_n hx hb dX10_days_31 rfl (lv_at hl 0 rfl) ?_
      refine lv_dup hx hb dX10_days_32 rfl ?_
      refine va_get (D := (dC, dI)) (ci := 10) (v := .int (oI Z o 0)) (C := RX10) (T := TX10) (N := 16) hx hb hts in_wsX10_days_X10 hown hK hP q_2 hq_2 rfl 0 (by decide +kernel) (hts (.fieldLink RX10 73 "ShipOffice" "now" "I") iw_X10_days_1) (fun _ h9 => h9) rfl dX10_days_33 ?_
      refine lv_topi (fun x_6 ex_6 => ?_)
      have hx_6 : 0 ≤ x_6.toInt ∧ x_6.toInt ≤ 3000 := iv_of ex_6 (oInv.iv gI to.2 rfl rfl)
      have gx_6 : x_6.toInt = (oI Z o 0).toInt := iv_to ex_6
      clear ex_6
      refine lv_iload_n hx hb dX10_days_36 rfl (lv_at hl 1 rfl) ?_
      refine lv_iadd hx hb dX10_days_37 ?_
      refine lv_topi (fun x_7 ex_7 => ?_)
      have hx_7 : x_7.toInt = x_6.toInt + x1.toInt := (iv_to ex_7).trans (ad_i rfl rfl (by omega) (by omega))
      clear ex_7
      refine va_put (D := (dC, dI)) (ci := 10) (v := .int x_7) (ty := .int) (C := RX10) (T := TX10) (N := 16) hx hb hts in_wsX10_days_X10 tyX10 tyX10_ok nmX10 hown hK hP hD hS q_2 hq_2 rfl 0 (by decide +kernel) (hts (.fieldLink RX10 73 "ShipOffice" "now" "I") iw_X10_days_1) (fun _ h9 => h9) rfl (by decide +kernel) rfl rfl (Nat.le_of_ble_eq_true rfl) dX10_days_38 (fun H locs hP1 hD1 hS => ?_)
      obtain ⟨S_8, eS_8⟩ : ∃ zq, zq = setI Z o 0 x_7 := ⟨_, rfl⟩
      have hP : va_P (dC, dI) vwCl (oW cq S_8) H := by rw [eS_8]; exact cP (oset to.1 hq_2 hD rfl (he_10_0 to.2) neI) hP1
      have hD : va_D A (oW cq S_8) := by rw [eS_8]; exact cD (oset to.1 hq_2 hD rfl (he_10_0 to.2) neI) hD1
      clear hP1 hD1
      have hIS_8 : oInv S_8 := by rw [eS_8]; exact oInv.I0 (k := 10) (lo := 0) (hi := 3000) gI to.2 (by decide +kernel) rfl rfl rfl (by omega)
      have XS_8 : oX [1000] Z S_8 := by rw [eS_8]; exact oX.I (k := 10) (key := 1000) to.2 rfl (List.mem_singleton.mpr rfl)
      have X_9 : oX [1000, 2107] Z S_8 := oX.st oX.rf XS_8 (by decide +kernel)
      have g_10 : (oI S_8 o 0).toInt = x_7.toInt := by rw [eS_8, setI_same]
      refine lv_aload_n hx hb dX10_days_41 rfl (lv_at hl 0 rfl) ?_
      have t_11 : oty S_8 o 10 := (oX.ty XS_8 to)
      obtain ⟨q_12, hq_12⟩ := og (cq := cq) t_11.1 (oE_10 t_11.2)
      refine va_get (D := (dC, dI)) (ci := 10) (v := .int (oI S_8 o 0)) (C := RX10) (T := TX10) (N := 16) hx hb hts in_wsX10_days_X10 hown hK hP q_12 hq_12 rfl 0 (by decide +kernel) (hts (.fieldLink RX10 73 "ShipOffice" "now" "I") iw_X10_days_1) (fun _ h9 => h9) rfl dX10_days_42 ?_
      refine lv_topi (fun x_13 ex_13 => ?_)
      have hx_13 : 0 ≤ x_13.toInt ∧ x_13.toInt ≤ 3000 := iv_of ex_13 (oInv.iv hIS_8 t_11.2 rfl rfl)
      have gx_13 : x_13.toInt = (oI S_8 o 0).toInt := iv_to ex_13
      clear ex_13
      exact W.iret (v := x_13) hx hb hr (fun t ht hW => ⟨⟨x_13, S_8, rfl, ⟨hIS_8, X_9, (by unfold odays; omega)⟩, ⟨by rw [ht]; exact hP, va_K.moved hW.alike hK, hD⟩⟩, hS.F ht⟩) hS.2.2 dX10_days_45
    · have dc_5 := c_nle (a := x1.toInt) (b := x_4.toInt) rfl rfl c_5
      refine lv_aload_n hx hb dX10_days_24 rfl (lv_at hl 0 rfl) ?_
      refine lv_bipush (v := (-6)) hx hb dX10_days_25 (by decide +kernel) ?_
      have hFc := o_free hD hS hA
      refine va_calli (va_runV (As := [.int (-6)]) (rest := []) ⟨hx, hb, hml, hown, hts⟩ (c_X10_refuse l dC dI s.heap.size cq Z gI o to (-6) (by decide +kernel)) (cwV 1 hts gX10_days_X10_refuse rfl rfl rfl (by decide +kernel) ⟨(Nat.le_of_ble_eq_true rfl), (Nat.le_of_ble_eq_true rfl)⟩) (pr_V (r := (RX10, TX10, 16)) hP hK hD q_2 10 rfl hq_2) rfl rfl hl.1 rfl (lv_room (Nat.le_of_ble_eq_true rfl)) dX10_days_27 ⟨(Nat.le_of_ble_eq_true rfl), (Nat.le_of_ble_eq_true rfl)⟩) hS (fun q _ h => hFc q h) hFc (fun r_15 u t H locs ht hvm w_14 hB hz1 hk1 hS => ?_)
      obtain ⟨S_16, rfl⟩ : ∃ z, z = u := ⟨_, rfl⟩
      obtain ⟨hP1, hK1, hD1⟩ := hB
      rw [ht] at hP1
      have hP : va_P (dC, dI) vwCl (oW cq S_16) H := hP1
      have hD : va_D A (oW cq S_16) := hD1.weaken (fun _ _ _ h => hFc _ h)
      clear hP1 hK1 hD1 hk1 hz1 hvm ht hFc
      obtain ⟨hIS_16, XS_16, hb_17, hx_18⟩ := w_14
      have X_19 : oX [1000, 2107] Z S_16 := oX.st oX.rf XS_16 (by decide +kernel)
      have g_20 : (oI S_16 o 0).toInt = (oI Z o 0).toInt := by rw [oX.i XS_16 to (by decide +kernel)]
      have rf_21 : r_15.toInt = -6 := by rw [hx_18]; decide
      exact W.iret (v := r_15) hx hb hr (fun t ht hW => ⟨⟨r_15, S_16, rfl, ⟨hIS_16, X_19, (by unfold odays; omega)⟩, ⟨by rw [ht]; exact hP, va_K.moved hW.alike hK, hD⟩⟩, hS.F ht⟩) hS.2.2 dX10_days_30
  · have dc_1 := c_nle (a := 1) (b := x1.toInt) (by decide +kernel) rfl c_1
    refine lv_aload_n hx hb dX10_days_5 rfl (lv_at hl 0 rfl) ?_
    refine lv_bipush (v := (-4)) hx hb dX10_days_6 (by decide +kernel) ?_
    have hFc := o_free hD hS hA
    obtain ⟨q_22, hq_22⟩ := og (cq := cq) to.1 (oE_10 to.2)
    refine va_calli (va_runV (As := [.int (-4)]) (rest := []) ⟨hx, hb, hml, hown, hts⟩ (c_X10_refuse l dC dI s.heap.size cq Z gI o to (-4) (by decide +kernel)) (cwV 1 hts gX10_days_X10_refuse rfl rfl rfl (by decide +kernel) ⟨(Nat.le_of_ble_eq_true rfl), (Nat.le_of_ble_eq_true rfl)⟩) (pr_V (r := (RX10, TX10, 16)) hP hK hD q_22 10 rfl hq_22) rfl rfl hl.1 rfl (lv_room (Nat.le_of_ble_eq_true rfl)) dX10_days_8 ⟨(Nat.le_of_ble_eq_true rfl), (Nat.le_of_ble_eq_true rfl)⟩) hS (fun q _ h => hFc q h) hFc (fun r_24 u t H locs ht hvm w_23 hB hz1 hk1 hS => ?_)
    obtain ⟨S_25, rfl⟩ : ∃ z, z = u := ⟨_, rfl⟩
    obtain ⟨hP1, hK1, hD1⟩ := hB
    rw [ht] at hP1
    have hP : va_P (dC, dI) vwCl (oW cq S_25) H := hP1
    have hD : va_D A (oW cq S_25) := hD1.weaken (fun _ _ _ h => hFc _ h)
    clear hP1 hK1 hD1 hk1 hz1 hvm ht hFc
    obtain ⟨hIS_25, XS_25, hb_26, hx_27⟩ := w_23
    have X_28 : oX [1000, 2107] Z S_25 := oX.st oX.rf XS_25 (by decide +kernel)
    have g_29 : (oI S_25 o 0).toInt = (oI Z o 0).toInt := by rw [oX.i XS_25 to (by decide +kernel)]
    have rf_30 : r_24.toInt = -4 := by rw [hx_27]; decide
    exact W.iret (v := r_24) hx hb hr (fun t ht hW => ⟨⟨r_24, S_25, rfl, ⟨hIS_25, X_28, (by unfold odays; omega)⟩, ⟨by rw [ht]; exact hP, va_K.moved hW.alike hK, hD⟩⟩, hS.F ht⟩) hS.2.2 dX10_days_11
