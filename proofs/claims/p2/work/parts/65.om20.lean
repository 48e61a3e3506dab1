abbrev cX10_days : ByteArray := prog_1_method_2_code
def yX10_days : MethodName := ⟨RX10, "days", "(I)I"⟩
def wsX10_days : List Cond := .code yX10_days cX10_days 2 (some .int) :: ([.fieldLink RX10 73 "ShipOffice" "now" "I", .methodLink RX10 69 yX10_refuse, .instanceMethod yX10_refuse, .selects RX10 yX10_refuse yX10_refuse, .initialized RX10, .code yX10_refuse cX10_refuse 2 (some .int), .fieldLink RX10 66 "ShipOffice" "refusals" "[I"] ++ wsX100)
set_option maxRecDepth 20000 in
theorem ggX10_days_X10_refuse : GoodIn wsX10_days wsX10_refuse := goodIn_r _ [6, 7, 8, 9, 10, 11, 12, 13, 14, 15, 16, 17, 18, 19, 20, 21, 22, 23] (by decide +kernel) (by decide +kernel)
set_option maxRecDepth 20000 in
theorem gX10_days_X10_refuse : GoodIn wsX10_days (wsV RX10 69 RX10 yX10_refuse wsX10_refuse) := goodIn_app (goodIn_of _ (by decide +kernel)) ggX10_days_X10_refuse
theorem dX10_days_0 : decode cX10_days 0 = .ok (.iload_n 1, 1) := by decide +kernel
theorem dX10_days_1 : decode cX10_days 1 = .ok (.iconst 1, 1) := by decide +kernel
theorem dX10_days_2 : decode cX10_days 2 = .ok (.if_icmp .ge 10, 3) := by decide +kernel
theorem dX10_days_5 : decode cX10_days 5 = .ok (.aload_n 0, 1) := by decide +kernel
theorem dX10_days_6 : decode cX10_days 6 = .ok (.bipush (-4), 2) := by decide +kernel
theorem dX10_days_8 : decode cX10_days 8 = .ok (.invokevirtual 69, 3) := by decide +kernel
theorem dX10_days_11 : decode cX10_days 11 = .ok (.ireturn, 1) := by decide +kernel
theorem dX10_days_12 : decode cX10_days 12 = .ok (.iload_n 1, 1) := by decide +kernel
theorem dX10_days_13 : decode cX10_days 13 = .ok (.sipush 3000, 3) := by decide +kernel
theorem dX10_days_16 : decode cX10_days 16 = .ok (.aload_n 0, 1) := by decide +kernel
theorem dX10_days_17 : decode cX10_days 17 = .ok (.getfield 73, 3) := by decide +kernel
theorem dX10_days_20 : decode cX10_days 20 = .ok (.isub, 1) := by decide +kernel
theorem dX10_days_21 : decode cX10_days 21 = .ok (.if_icmp .le 10, 3) := by decide +kernel
theorem dX10_days_24 : decode cX10_days 24 = .ok (.aload_n 0, 1) := by decide +kernel
theorem dX10_days_25 : decode cX10_days 25 = .ok (.bipush (-6), 2) := by decide +kernel
theorem dX10_days_27 : decode cX10_days 27 = .ok (.invokevirtual 69, 3) := by decide +kernel
theorem dX10_days_30 : decode cX10_days 30 = .ok (.ireturn, 1) := by decide +kernel
theorem dX10_days_31 : decode cX10_days 31 = .ok (.aload_n 0, 1) := by decide +kernel
theorem dX10_days_32 : decode cX10_days 32 = .ok (.dup, 1) := by decide +kernel
theorem dX10_days_33 : decode cX10_days 33 = .ok (.getfield 73, 3) := by decide +kernel
theorem dX10_days_36 : decode cX10_days 36 = .ok (.iload_n 1, 1) := by decide +kernel
theorem dX10_days_37 : decode cX10_days 37 = .ok (.iadd, 1) := by decide +kernel
theorem dX10_days_38 : decode cX10_days 38 = .ok (.putfield 73, 3) := by decide +kernel
theorem dX10_days_41 : decode cX10_days 41 = .ok (.aload_n 0, 1) := by decide +kernel
theorem dX10_days_42 : decode cX10_days 42 = .ok (.getfield 73, 3) := by decide +kernel
theorem dX10_days_45 : decode cX10_days 45 = .ok (.ireturn, 1) := by decide +kernel
theorem in_wsX10_days_X10 : ∀ w ∈ wsX100, w ∈ wsX10_days := fun w h => List.mem_cons_of_mem _ (List.mem_append_right _ h)
/-- what days(n) answers on day a, and the day behind it -/
def odays (a n r a1 : Int) : Prop := (n < 1 ∧ r = -4 ∧ a1 = a) ∨ (1 ≤ n ∧ 3000 - a < n ∧ r = -6 ∧ a1 = a) ∨ (1 ≤ n ∧ n ≤ 3000 - a ∧ r = a + n ∧ a1 = a + n)
theorem oX.now {Z S : oS} {o : Nat} (h : oX Z S) (t : oty Z o 10) : (oI S o 0).toInt = (oI Z o 0).toInt := congrArg Int32.toInt ((h o t.1).2.2 t.2)
set_option maxHeartbeats 4000000 in
set_option maxRecDepth 100000 in
theorem c_X10_days (l : Launch) (dC : Nat → ClassId) (dI : Nat → Nat → Nat) (sz : Nat) (cq : Nat → ClassId) (Z : oS) (gI : oInv Z) (o : Nat) (to : oty Z o 10) (x1 : Int32) : Met l yX10_days wsX10_days ({ frames := 1, cells := 0, slots := 0, locals := 21 }) (va_Pc [.ref o, .int x1] (pcW (dC, dI) (oT cq) (oW cq Z) sz)) (va_Qi (fun (r : Int32) (u : oS) => oInv u ∧ True ∧ (oty u o 10 ∧ odays (oI Z o 0).toInt x1.toInt r.toInt (oI u o 0).toInt)) (fun u t => va_P (dC, dI) vwCl (oW cq u) t.heap ∧ va_K (dC, dI) vwCl (oT cq) t ∧ va_D (va_A (oW cq Z) sz) (oW cq u)) (va_A (oW cq Z) sz)) 0 0 (va_A (oW cq Z) sz) := by
  refine Met.ofW (cc := cX10_days) (maxL := 2) (ret := (some .int)) (by decide) rfl ?_
  intro p e s m args below meth c s₁ B hml hv
  obtain ⟨rfl, hsz, hP, hK, hD0⟩ := hv
  have hx := B.exec
  have hb := B.bytes
  have hr := B.returns
  have hts := atoms_spec (ws := wsX10_days) B.pre
  have hown : s.vm.findClass RX10 = some m.cls := findClass_of_methodNamed B.named
  have hlocks := B.notSynchronized
  subst hsz
  have hD := hD0.self (sz := s.heap.size)
  generalize hAe : va_A (oW cq Z) s.heap.size = A at hD ⊢
  have hA : ∀ q : Nat, s.heap.size ≤ q → A q := fun q h => by rw [← hAe]; exact Or.inr h
  have hS : va_S A s.heap s.heap [] := va_S.rf
  have hP : va_P (dC, dI) vwCl (oW cq Z) s.heap := hP
  have hl := lv_entry ([.ref o, .int x1]) (n := 2) (Nat.le_of_ble_eq_true rfl)
  rw [lg_entry_eq]
  generalize (lg_sl ([.ref o, .int x1]) ++ List.replicate (2 - (lg_sl ([.ref o, .int x1])).length) Slot.unset).toArray = ls at hl ⊢
  have hl : lv_has ls 2 [(0, .ref o), (1, .int x1)] := hl
  refine lv_iload_n hx hb dX10_days_0 rfl (lv_at hl 1 rfl) ?_
  refine lv_iconst (v := 1) hx hb dX10_days_1 (by decide) ?_
  refine lv_icmp_ge (tgt := 12) hx hb dX10_days_2 (by decide) (fun c_1 => ?_) (fun c_1 => ?_)
  · have dc_1 := c_le (a := 1) (b := x1.toInt) (by decide) rfl c_1
    refine lv_iload_n hx hb dX10_days_12 rfl (lv_at hl 1 rfl) ?_
    refine lv_sipush (v := 3000) hx hb dX10_days_13 (by decide) ?_
    refine lv_aload_n hx hb dX10_days_16 rfl (lv_at hl 0 rfl) ?_
    obtain ⟨q_2, hq_2⟩ := og (cq := cq) to.1 (oE_10 to.2)
    refine va_get (D := (dC, dI)) (ci := 10) (v := .int (oI Z o 0)) (C := RX10) (T := TX10) (N := 16) hx hb hts in_wsX10_days_X10 hown hK hP q_2 hq_2 rfl 0 (by decide) (hts (.fieldLink RX10 73 "ShipOffice" "now" "I") (by decide +kernel)) (fun _ h9 => h9) rfl dX10_days_17 ?_
    refine lv_topi (fun x_3 ex_3 => ?_)
    have hx_3 : 0 ≤ x_3.toInt ∧ x_3.toInt ≤ 3000 := iv_of ex_3 (oInv.iv gI to.2 rfl rfl)
    have gx_3 : x_3.toInt = (oI Z o 0).toInt := iv_to ex_3
    clear ex_3
    refine lv_isub hx hb dX10_days_20 ?_
    refine lv_topi (fun x_4 ex_4 => ?_)
    have hx_4 : x_4.toInt = 3000 - x_3.toInt := (iv_to ex_4).trans (sb_i (by decide) rfl (by omega) (by omega))
    clear ex_4
    refine lv_icmp_le (tgt := 31) hx hb dX10_days_21 (by decide) (fun c_5 => ?_) (fun c_5 => ?_)
    · have dc_5 := c_le (a := x1.toInt) (b := x_4.toInt) rfl rfl c_5
      refine lv_aload_n hx hb dX10_days_31 rfl (lv_at hl 0 rfl) ?_
      refine lv_dup hx hb dX10_days_32 rfl ?_
      refine va_get (D := (dC, dI)) (ci := 10) (v := .int (oI Z o 0)) (C := RX10) (T := TX10) (N := 16) hx hb hts in_wsX10_days_X10 hown hK hP q_2 hq_2 rfl 0 (by decide) (hts (.fieldLink RX10 73 "ShipOffice" "now" "I") (by decide +kernel)) (fun _ h9 => h9) rfl dX10_days_33 ?_
      refine lv_topi (fun x_6 ex_6 => ?_)
      have hx_6 : 0 ≤ x_6.toInt ∧ x_6.toInt ≤ 3000 := iv_of ex_6 (oInv.iv gI to.2 rfl rfl)
      have gx_6 : x_6.toInt = (oI Z o 0).toInt := iv_to ex_6
      clear ex_6
      refine lv_iload_n hx hb dX10_days_36 rfl (lv_at hl 1 rfl) ?_
      refine lv_iadd hx hb dX10_days_37 ?_
      refine lv_topi (fun x_7 ex_7 => ?_)
      have hx_7 : x_7.toInt = x_6.toInt + x1.toInt := (iv_to ex_7).trans (ad_i rfl rfl (by omega) (by omega))
      clear ex_7
      refine va_put (D := (dC, dI)) (ci := 10) (v := .int x_7) (ty := .int) (C := RX10) (T := TX10) (N := 16) hx hb hts in_wsX10_days_X10 tyX10 tyX10_ok nmX10 hown hK hP hD hS q_2 hq_2 rfl 0 (by decide) (hts (.fieldLink RX10 73 "ShipOffice" "now" "I") (by decide +kernel)) (fun _ h9 => h9) rfl (by decide +kernel) rfl rfl (Nat.le_of_ble_eq_true rfl) dX10_days_38 (fun H locs hP1 hD1 hS => ?_)
      obtain ⟨S_8, eS_8⟩ : ∃ zq, zq = setI Z o 0 x_7 := ⟨_, rfl⟩
      have hP : va_P (dC, dI) vwCl (oW cq S_8) H := by rw [eS_8]; exact cP (oset to.1 hq_2 hD rfl (he_10_0 to.2) neI) hP1
      have hD : va_D A (oW cq S_8) := by rw [eS_8]; exact cD (oset to.1 hq_2 hD rfl (he_10_0 to.2) neI) hD1
      clear hP1 hD1
      have hIS_8 : oInv S_8 := by rw [eS_8]; exact oInv.I0 (k := 10) (lo := 0) (hi := 3000) gI to.2 (by decide) rfl rfl rfl (by omega)
      have tnS_8 : oty S_8 o 10 := by rw [eS_8]; exact to
      have g_9 : (oI S_8 o 0).toInt = x_7.toInt := by rw [eS_8, setI_same]
      refine lv_aload_n hx hb dX10_days_41 rfl (lv_at hl 0 rfl) ?_
      obtain ⟨q_10, hq_10⟩ := og (cq := cq) tnS_8.1 (oE_10 tnS_8.2)
      refine va_get (D := (dC, dI)) (ci := 10) (v := .int (oI S_8 o 0)) (C := RX10) (T := TX10) (N := 16) hx hb hts in_wsX10_days_X10 hown hK hP q_10 hq_10 rfl 0 (by decide) (hts (.fieldLink RX10 73 "ShipOffice" "now" "I") (by decide +kernel)) (fun _ h9 => h9) rfl dX10_days_42 ?_
      refine lv_topi (fun x_11 ex_11 => ?_)
      have hx_11 : 0 ≤ x_11.toInt ∧ x_11.toInt ≤ 3000 := iv_of ex_11 (oInv.iv hIS_8 tnS_8.2 rfl rfl)
      have gx_11 : x_11.toInt = (oI S_8 o 0).toInt := iv_to ex_11
      clear ex_11
      exact W.iret (v := x_11) hx hb hr (fun t ht hW => ⟨⟨x_11, S_8, rfl, ⟨hIS_8, trivial, ⟨tnS_8, by unfold odays; omega⟩⟩, ⟨by rw [ht]; exact hP, va_K.moved hW.alike hK, hD⟩⟩, hS.F ht⟩) hS.2.2 dX10_days_45
    · have dc_5 := c_nle (a := x1.toInt) (b := x_4.toInt) rfl rfl c_5
      refine lv_aload_n hx hb dX10_days_24 rfl (lv_at hl 0 rfl) ?_
      refine lv_bipush (v := (-6)) hx hb dX10_days_25 (by decide) ?_
      have hFc := o_free hD hS hA
      refine va_calli (va_runV (As := [.int (-6)]) (rest := []) ⟨hx, hb, hml, hown, hts⟩ (c_X10_refuse l dC dI s.heap.size cq Z gI o to (-6) (by decide)) (cwV 1 hts gX10_days_X10_refuse rfl rfl rfl (by decide +kernel) ⟨(Nat.le_of_ble_eq_true rfl), (Nat.le_of_ble_eq_true rfl)⟩) (pr_V (r := (RX10, TX10, 16)) hP hK hD q_2 10 rfl hq_2) rfl rfl hl.1 rfl (lv_room (Nat.le_of_ble_eq_true rfl)) dX10_days_27 ⟨(Nat.le_of_ble_eq_true rfl), (Nat.le_of_ble_eq_true rfl)⟩) hS (fun q _ h => hFc q h) hFc (fun r_13 u t H locs ht hvm w_12 hB hz1 hk1 hS => ?_)
      obtain ⟨S_14, rfl⟩ : ∃ z, z = u := ⟨_, rfl⟩
      obtain ⟨hP1, hK1, hD1⟩ := hB
      rw [ht] at hP1
      have hP : va_P (dC, dI) vwCl (oW cq S_14) H := hP1
      have hD : va_D A (oW cq S_14) := hD1.weaken (fun _ _ _ h => hFc _ h)
      clear hP1 hK1 hD1 hk1 hz1 hvm ht hFc
      obtain ⟨hIS_14, XS_14, hb_15, hx_16⟩ := w_12
      have X_17 : oX Z S_14 := XS_14
      have rf_18 : r_13.toInt = -6 := by rw [hx_16]; decide
      have t_19 : oty S_14 o 10 := (oX.ty XS_14 to)
      exact W.iret (v := r_13) hx hb hr (fun t ht hW => ⟨⟨r_13, S_14, rfl, ⟨hIS_14, trivial, ⟨t_19, by have hn := oX.now X_17 to; unfold odays; omega⟩⟩, ⟨by rw [ht]; exact hP, va_K.moved hW.alike hK, hD⟩⟩, hS.F ht⟩) hS.2.2 dX10_days_30
  · have dc_1 := c_nle (a := 1) (b := x1.toInt) (by decide) rfl c_1
    refine lv_aload_n hx hb dX10_days_5 rfl (lv_at hl 0 rfl) ?_
    refine lv_bipush (v := (-4)) hx hb dX10_days_6 (by decide) ?_
    have hFc := o_free hD hS hA
    obtain ⟨q_20, hq_20⟩ := og (cq := cq) to.1 (oE_10 to.2)
    refine va_calli (va_runV (As := [.int (-4)]) (rest := []) ⟨hx, hb, hml, hown, hts⟩ (c_X10_refuse l dC dI s.heap.size cq Z gI o to (-4) (by decide)) (cwV 1 hts gX10_days_X10_refuse rfl rfl rfl (by decide +kernel) ⟨(Nat.le_of_ble_eq_true rfl), (Nat.le_of_ble_eq_true rfl)⟩) (pr_V (r := (RX10, TX10, 16)) hP hK hD q_20 10 rfl hq_20) rfl rfl hl.1 rfl (lv_room (Nat.le_of_ble_eq_true rfl)) dX10_days_8 ⟨(Nat.le_of_ble_eq_true rfl), (Nat.le_of_ble_eq_true rfl)⟩) hS (fun q _ h => hFc q h) hFc (fun r_22 u t H locs ht hvm w_21 hB hz1 hk1 hS => ?_)
    obtain ⟨S_23, rfl⟩ : ∃ z, z = u := ⟨_, rfl⟩
    obtain ⟨hP1, hK1, hD1⟩ := hB
    rw [ht] at hP1
    have hP : va_P (dC, dI) vwCl (oW cq S_23) H := hP1
    have hD : va_D A (oW cq S_23) := hD1.weaken (fun _ _ _ h => hFc _ h)
    clear hP1 hK1 hD1 hk1 hz1 hvm ht hFc
    obtain ⟨hIS_23, XS_23, hb_24, hx_25⟩ := w_21
    have X_26 : oX Z S_23 := XS_23
    have rf_27 : r_22.toInt = -4 := by rw [hx_25]; decide
    have t_28 : oty S_23 o 10 := (oX.ty XS_23 to)
    exact W.iret (v := r_22) hx hb hr (fun t ht hW => ⟨⟨r_22, S_23, rfl, ⟨hIS_23, trivial, ⟨t_28, by have hn := oX.now X_26 to; unfold odays; omega⟩⟩, ⟨by rw [ht]; exact hP, va_K.moved hW.alike hK, hD⟩⟩, hS.F ht⟩) hS.2.2 dX10_days_11
