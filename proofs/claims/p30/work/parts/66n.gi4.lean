


set_option maxHeartbeats 4000000 in
set_option maxRecDepth 100000 in
theorem c_X10_check_c (l : Launch) (dC : Nat → ClassId) (dI : Nat → Nat → Nat) (sz : Nat) (cq : Nat → ClassId) (Z : oS) (gI : oInv Z) (o : Nat) (to : oty Z o 10) (x1 : Int32) (x2 : Int32) (x3 : Int32) (v : Nat → Int32) (fa : Nat → Nat → Int32) (hR : RC Z o v fa) (hE : RX Z o v fa) (hRw : rRw Z o v fa) : Met l yX10_check wsX10_check ({ frames := 6, cells := 0, slots := 0, locals := 158 }) (va_Pc [.ref o, .int x1, .int x2, .int x3] (pcW (dC, dI) (oT cq) (oW cq Z) sz)) (va_Qi (fun (r : Int32) (u : oS) => oInv u ∧ oX [1014, 2107, 2108, 5001] Z u ∧ (aSt (v 40).toInt (v 38).toInt x1.toInt x2.toInt x3.toInt r.toInt r.toInt ∧ (¬ bSt (v 40).toInt (v 38).toInt x1.toInt x2.toInt x3.toInt → ckA (fun a => (fa 21 a).toInt) (fun i => (fa 61 i).toInt) (fun a => owF v fa a x2 x3.toInt) x1.toInt (v 62).toInt (v 43).toNatClampNeg r.toInt) ∧ ((bSt (v 40).toInt (v 38).toInt x1.toInt x2.toInt x3.toInt ∧ rfO Z o u r) ∨ (¬ bSt (v 40).toInt (v 38).toInt x1.toInt x2.toInt x3.toInt ∧ (oI u o 14).toInt = 0)))) (fun u t => va_P (dC, dI) vwCl (oW cq u) t.heap ∧ va_K (dC, dI) vwCl (oT cq) t ∧ va_D (va_A (oW cq Z) sz) (oW cq u)) (va_A (oW cq Z) sz)) 0 0 (va_A (oW cq Z) sz) := by
  refine Met.ofW (cc := cX10_check) (maxL := 9) (ret := (some .int)) (by decide) rfl ?_
  intro p e s m args below meth c s₁ B hml hv
  obtain ⟨rfl, hsz, hP, hK, hD0⟩ := hv
  have hx := B.exec
  have hb := B.bytes
  have hr := B.returns
  have hts := atoms_spec (ws := wsX10_check) B.pre
  have hown : s.vm.findClass RX10 = some m.cls := findClass_of_methodNamed B.named
  have hlocks := B.notSynchronized
  subst hsz
  have hD := hD0.self (sz := s.heap.size)
  generalize hAe : va_A (oW cq Z) s.heap.size = A at hD ⊢
  have hA : ∀ q : Nat, s.heap.size ≤ q → A q := fun q h => by rw [← hAe]; exact Or.inr h
  have hS : va_S A s.heap s.heap [] := va_S.rf
  have hP : va_P (dC, dI) vwCl (oW cq Z) s.heap := hP
  have hl := lv_entry ([.ref o, .int x1, .int x2, .int x3]) (n := 9) (Nat.le_of_ble_eq_true rfl)
  rw [lg_entry_eq]
  generalize (lg_sl ([.ref o, .int x1, .int x2, .int x3]) ++ List.replicate (9 - (lg_sl ([.ref o, .int x1, .int x2, .int x3])).length) Slot.unset).toArray = ls at hl ⊢
  have hl : lv_has ls 9 [(0, .ref o), (1, .int x1), (2, .int x2), (3, .int x3)] := hl
  obtain ⟨fn0, fn1, fn2, fn3, fn4⟩ := RC.n hR
  have fb38 : 0 ≤ (v 38).toInt ∧ (v 38).toInt ≤ 3000 := RC.V hR 38
  have fb39 : 0 ≤ (v 39).toInt ∧ (v 39).toInt ≤ 40 := RC.V hR 39
  have fb40 : 0 ≤ (v 40).toInt ∧ (v 40).toInt ≤ 20 := RC.V hR 40
  have fb43 : 0 ≤ (v 43).toInt ∧ (v 43).toInt ≤ 60 := RC.V hR 43
  have fb41 : 0 ≤ (v 41).toInt ∧ (v 41).toInt ≤ 200 := RC.V hR 41
  obtain ⟨lw, hlw0⟩ := oInv.nn (i := 8) gI to rfl
  have tlw : oty Z lw 5 := oInv.rd gI to.2 hlw0 rfl rfl
  have hLr : rLw Z lw v fa := by have q := RC.l hR; rw [oQ_e hlw0] at q; exact q
  have hRw1 := hRw.1
  refine lv_aload_n hx hb dX10_check_0 rfl (lv_at hl 0 rfl) ?_
  refine lv_iload_n hx hb dX10_check_1 rfl (lv_at hl 1 rfl) ?_
  have hFc : ∀ q, va_A [] s.heap.size q → A q := pu_free hS hA
  obtain ⟨q_1, hq_1⟩ := og (cq := cq) to.1 (oE_10 to.2)
  refine va_callq (va_runV (As := [.int x1]) (rest := []) ⟨hx, hb, hml, hown, hts⟩ (c_X10_voyageAt_c l dC dI s.heap.size cq Z gI o to x1 v fa hR) (cwV 1 hts gX10_check_X10_voyageAt rfl rfl rfl (by decide +kernel) ⟨(Nat.le_of_ble_eq_true rfl), (Nat.le_of_ble_eq_true rfl)⟩) (pr_V (r := (RX10, TX10, 16)) hP hK hD q_1 10 rfl hq_1) rfl rfl hl.1 rfl (lv_room (Nat.le_of_ble_eq_true rfl)) dX10_check_2 ⟨(Nat.le_of_ble_eq_true rfl), (Nat.le_of_ble_eq_true rfl)⟩) hS (fun q _ h => hFc q h) hFc (fun r_3 u t H locs ht hvm w_2 hB hz1 hk1 hS => ?_)
  have hP := pu_keep hP hk1
  clear hk1 hz1 hvm hB ht hFc
  obtain ⟨hk_4, hx_5⟩ := w_2
  rcases r_3 with _ | b_6
  · refine W.eq (g2 := F0 m 5 ls [.null]) rfl ?_
    have hnr_3 := atF_n hx_5
    refine lv_astoreN (lv' := [(4, .null), (0, .ref o), (1, .int x1), (2, .int x2), (3, .int x3)]) hx hb dX10_check_5 hl (by decide) rfl (fun ls hl => ?_)
    refine lv_aloadN hx hb dX10_check_7 (lv_at hl 0 rfl) ?_
    refine lv_ifnonnullN hx hb dX10_check_9 ?_
    refine lv_aload_n hx hb dX10_check_12 rfl (lv_at hl 1 rfl) ?_
    refine lv_iconst (v := (-1)) hx hb dX10_check_13 (by decide) ?_
    have hFc := o_free hD hS hA
    refine va_calli (va_runV (As := [.int (-1)]) (rest := []) ⟨hx, hb, hml, hown, hts⟩ (c_X10_refuse_c l dC dI H.size cq Z gI o to (-1) (by decide)) (cwV 1 hts gX10_check_X10_refuse rfl rfl rfl (by decide +kernel) ⟨(Nat.le_of_ble_eq_true rfl), (Nat.le_of_ble_eq_true rfl)⟩) (pr_V (r := (RX10, TX10, 16)) hP hK hD q_1 10 rfl hq_1) rfl rfl hl.1 rfl (lv_room (Nat.le_of_ble_eq_true rfl)) dX10_check_14 ⟨(Nat.le_of_ble_eq_true rfl), (Nat.le_of_ble_eq_true rfl)⟩) hS (fun q _ h => hFc q h) hFc (fun r_8 u t H locs ht hvm w_7 hB hz1 hk1 hS => ?_)
    obtain ⟨S_9, rfl⟩ : ∃ z, z = u := ⟨_, rfl⟩
    obtain ⟨hP1, hK1, hD1⟩ := hB
    rw [ht] at hP1
    have hP : va_P (dC, dI) vwCl (oW cq S_9) H := hP1
    have hD : va_D A (oW cq S_9) := hD1.weaken (fun _ _ _ h => hFc _ h)
    clear hP1 hK1 hD1 hk1 hz1 hvm ht hFc
    obtain ⟨hIS_9, XS_9, hb_10, hx_11⟩ := w_7
    have X_12 : oX [1014, 2107, 2108, 5001] Z S_9 := oX.st oX.rf XS_9 (by decide)
    have g_13 : (oI S_9 o 0).toInt = (oI Z o 0).toInt := by rw [oX.i XS_9 to (by decide)]
    have g_14 : (oI S_9 o 6).toInt = (oI Z o 6).toInt := by rw [oX.i XS_9 to (by decide)]
    have g_15 : (oI S_9 o 14).toInt = (oI Z o 14).toInt := by rw [oX.i XS_9 to (by decide)]
    have pk_16 : oP S_9 o 8 = some lw := by rw [oX.p XS_9 to (by decide)]; exact hlw0
    have rf_17 : r_8.toInt = -1 := by rw [hx_11.1]; decide
    exact W.iret (v := r_8) hx hb hr (fun t ht hW => ⟨⟨r_8, S_9, rfl, ⟨hIS_9, X_12, ⟨by have kc0 : (0 : Int32).toInt = 0 := (by decide); have kc1 : (1 : Int32).toInt = 1 := (by decide); have kc2 : (2 : Int32).toInt = 2 := (by decide); unfold aSt; omega, fun q => absurd (by unfold bSt; omega) q, by have kc0 : (0 : Int32).toInt = 0 := (by decide); have kc1 : (1 : Int32).toInt = 1 := (by decide); have kc2 : (2 : Int32).toInt = 2 := (by decide); exact Or.inl ⟨by unfold bSt; omega, by rw [hx_11.1]; exact hx_11.2⟩⟩⟩, ⟨by rw [ht]; exact hP, va_K.moved hW.alike hK, hD⟩⟩, hS.F ht⟩) hS.2.2 dX10_check_17
  · refine W.eq (g2 := F0 m 5 ls [.ref b_6]) rfl ?_
    have tb_6 : oty Z b_6 9 := hk_4 b_6 rfl
    obtain ⟨hjb_6, ejb_6⟩ := atF_s hx_5
    have ljb_6 := ni_lt hjb_6.1 hjb_6.2
    have njb_6 := tn_i hjb_6.1
    have fVb_6 := RC.vo hR ljb_6
    rw [← ejb_6] at fVb_6
    obtain ⟨fy0b_6, fy1b_6, fy2b_6, fy3b_6, fy4b_6, fySb_6, fyLb_6, fyhb_6⟩ := fVb_6
    have fBb_6 : 0 ≤ (fa 7 x1.toNatClampNeg).toInt ∧ (fa 7 x1.toNatClampNeg).toInt ≤ 3000 := RC.A hR 7 _
    have fSb_6 := onc_i fySb_6
    have fLb_6 := onc_i fyLb_6
    rw [njb_6] at fy0b_6 fSb_6 fLb_6
    refine lv_astore (lv' := [(4, .ref b_6), (0, .ref o), (1, .int x1), (2, .int x2), (3, .int x3)]) hx hb dX10_check_5 hl (by decide) rfl (fun ls hl => ?_)
    refine lv_aload hx hb dX10_check_7 (lv_at hl 0 rfl) ?_
    refine lv_ifnonnull (tgt := 18) hx hb dX10_check_9 (by decide) ?_
    refine lv_aload_n hx hb dX10_check_18 rfl (lv_at hl 1 rfl) ?_
    refine lv_iload_n hx hb dX10_check_19 rfl (lv_at hl 3 rfl) ?_
    refine lv_iload_n hx hb dX10_check_20 rfl (lv_at hl 4 rfl) ?_
    have hFc : ∀ q, va_A [] H.size q → A q := pu_free hS hA
    refine va_calli (va_runV (As := [.int x2, .int x3]) (rest := []) ⟨hx, hb, hml, hown, hts⟩ (c_X10_askRefusal_c l dC dI H.size cq Z gI o to x2 x3) (cwV 2 hts gX10_check_X10_askRefusal rfl rfl rfl (by decide +kernel) ⟨(Nat.le_of_ble_eq_true rfl), (Nat.le_of_ble_eq_true rfl)⟩) (pr_V (r := (RX10, TX10, 16)) hP hK hD q_1 10 rfl hq_1) rfl rfl hl.1 rfl (lv_room (Nat.le_of_ble_eq_true rfl)) dX10_check_21 ⟨(Nat.le_of_ble_eq_true rfl), (Nat.le_of_ble_eq_true rfl)⟩) hS (fun q _ h => hFc q h) hFc (fun r_19 u t H locs ht hvm w_18 hB hz1 hk1 hS => ?_)
    have hP := pu_keep hP hk1
    clear hk1 hz1 hvm hB ht hFc
    obtain ⟨hb_20, hx_21⟩ := w_18
    refine lv_istore (lv' := [(5, .int r_19), (4, .ref b_6), (0, .ref o), (1, .int x1), (2, .int x2), (3, .int x3)]) hx hb dX10_check_24 hl (by decide) rfl (fun ls hl => ?_)
    refine lv_iload hx hb dX10_check_26 (lv_at hl 0 rfl) ?_
    refine lv_if_eq (tgt := 38) hx hb dX10_check_28 (by decide) (fun c_22 => ?_) (fun c_22 => ?_)
    · have dc_22 := c_eq (a := r_19.toInt) (b := 0) rfl (by decide) c_22
      refine lv_aload_n hx hb dX10_check_38 rfl (lv_at hl 2 rfl) ?_
      refine va_get (D := (dC, dI)) (ci := 10) (v := .int (oI Z o 14)) (C := RX10) (T := TX10) (N := 16) hx hb hts in_wsX10_check_X10 hown hK hP q_1 hq_1 rfl 14 (by decide) (hts (.fieldLink RX10 353 "ShipOffice" "rowCount" "I") iw_X10_check_1) (fun _ h9 => h9) rfl dX10_check_39 ?_
      refine lv_topi (fun x_23 ex_23 => ?_)
      have hx_23 : 0 ≤ x_23.toInt ∧ x_23.toInt ≤ 12 := iv_of ex_23 (oInv.iv gI to.2 rfl rfl)
      have gx_23 : x_23.toInt = (oI Z o 14).toInt := iv_to ex_23
      clear ex_23
      refine lv_istore (lv' := [(6, .int x_23), (5, .int r_19), (4, .ref b_6), (0, .ref o), (1, .int x1), (2, .int x2), (3, .int x3)]) hx hb dX10_check_42 hl (by decide) rfl (fun ls hl => ?_)
      refine lv_aload_n hx hb dX10_check_44 rfl (lv_at hl 3 rfl) ?_
      refine lv_iconst (v := 0) hx hb dX10_check_45 (by decide) ?_
      refine va_put (D := (dC, dI)) (ci := 10) (v := .int 0) (ty := .int) (C := RX10) (T := TX10) (N := 16) hx hb hts in_wsX10_check_X10 tyX10 tyX10_ok nmX10 hown hK hP hD hS q_1 hq_1 rfl 14 (by decide) (hts (.fieldLink RX10 353 "ShipOffice" "rowCount" "I") iw_X10_check_1) (fun _ h9 => h9) rfl (by decide +kernel) rfl rfl (Nat.le_of_ble_eq_true rfl) dX10_check_46 (fun H locs hP1 hD1 hS => ?_)
      obtain ⟨S_24, eS_24⟩ : ∃ zq, zq = setI Z o 14 0 := ⟨_, rfl⟩
      have hP : va_P (dC, dI) vwCl (oW cq S_24) H := by rw [eS_24]; exact cP (oset to.1 hq_1 hD rfl (he_10_14 to.2) neI) hP1
      have hD : va_D A (oW cq S_24) := by rw [eS_24]; exact cD (oset to.1 hq_1 hD rfl (he_10_14 to.2) neI) hD1
      clear hP1 hD1
      have hIS_24 : oInv S_24 := by rw [eS_24]; exact oInv.I0 (k := 10) (lo := 0) (hi := 12) gI to.2 (by decide) rfl rfl rfl (by decide)
      have XS_24 : oX [1014] Z S_24 := by rw [eS_24]; exact oX.I (k := 10) (key := 1014) to.2 rfl (List.mem_singleton.mpr rfl)
      have pk_25 : oP S_24 o 8 = some lw := by rw [eS_24]; exact hlw0
      have X_26 : oX [1014, 2107, 2108, 5001] Z S_24 := oX.st oX.rf XS_24 (by decide)
      have g_27 : (oI S_24 o 0).toInt = (oI Z o 0).toInt := by rw [eS_24, setI_ne (by decide)]
      have g_28 : (oI S_24 o 6).toInt = (oI Z o 6).toInt := by rw [eS_24, setI_ne (by decide)]
      have g_29 : (oI S_24 o 14).toInt = 0 := by rw [eS_24, setI_same]; decide
      refine lv_iconst (v := 0) hx hb dX10_check_49 (by decide) ?_
      refine lv_istore (lv' := [(7, .int 0), (6, .int x_23), (5, .int r_19), (4, .ref b_6), (0, .ref o), (1, .int x1), (2, .int x2), (3, .int x3)]) hx hb dX10_check_50 hl (by decide) rfl (fun ls hl => ?_)
      refine lv_iconst (v := 0) hx hb dX10_check_52 (by decide) ?_
      refine lv_istore (lv' := [(8, .int 0), (7, .int 0), (6, .int x_23), (5, .int r_19), (4, .ref b_6), (0, .ref o), (1, .int x1), (2, .int x2), (3, .int x3)]) hx hb dX10_check_53 hl (by decide) rfl (fun ls hl => ?_)
      have cut_30 : ∀ (n : Nat) (y_31 : Int32) (y_32 : Int32) (S_33 : oS) (H : Heap) (locs : List Loc) (ls : Array Slot), 60 - y_32.toInt ≤ (n : Int) → (0 ≤ y_31.toInt ∧ y_31.toInt ≤ 60) → (0 ≤ y_32.toInt ∧ y_32.toInt ≤ 60) → y_31.toInt ≤ y_32.toInt → ((oI S_33 o 14).toInt = 0 ∧ (oI S_33 o 6).toInt = (v 43).toInt) → y_31.toInt = ckC (fun a => (fa 21 a).toInt) x1.toInt y_32.toNatClampNeg → (∀ b, b < y_32.toNatClampNeg → ¬ ckD (fun a => (fa 21 a).toInt) (fun i => (fa 61 i).toInt) (fun a => owF v fa a x2 x3.toInt) x1.toInt (v 62).toInt b) → y_32.toInt ≤ (v 43).toInt → oInv S_33 → oX [1014, 2107, 2108, 5001] S_24 S_33 → va_P (dC, dI) vwCl (oW cq S_33) H → va_D A (oW cq S_33) → va_S A s.heap H locs → oP S_33 o 8 = some lw → lv_has ls 9 [(7, .int y_31), (8, .int y_32), (6, .int x_23), (5, .int r_19), (4, .ref b_6), (0, .ref o), (1, .int x1), (2, .int x2), (3, .int x3)] → W p l e (headSpec wsX10_check { frames := 6, cells := 0, slots := 0, locals := 158 }).room s m #[Value.ref o, Value.int x1, Value.int x2, Value.int x3] below meth c H locs 0 0 (MQ below (va_Qi (fun (r : Int32) (u : oS) => oInv u ∧ oX [1014, 2107, 2108, 5001] Z u ∧ (aSt (v 40).toInt (v 38).toInt x1.toInt x2.toInt x3.toInt r.toInt r.toInt ∧ (¬ bSt (v 40).toInt (v 38).toInt x1.toInt x2.toInt x3.toInt → ckA (fun a => (fa 21 a).toInt) (fun i => (fa 61 i).toInt) (fun a => owF v fa a x2 x3.toInt) x1.toInt (v 62).toInt (v 43).toNatClampNeg r.toInt) ∧ ((bSt (v 40).toInt (v 38).toInt x1.toInt x2.toInt x3.toInt ∧ rfO Z o u r) ∨ (¬ bSt (v 40).toInt (v 38).toInt x1.toInt x2.toInt x3.toInt ∧ (oI u o 14).toInt = 0)))) (fun u t => va_P (dC, dI) vwCl (oW cq u) t.heap ∧ va_K (dC, dI) vwCl (oT cq) t ∧ va_D A (oW cq u)) A) #[Value.ref o, Value.int x1, Value.int x2, Value.int x3] s 0 0 A) (F0 m 55 ls []) := by
        intro n
        induction n using Nat.strongRecOn with
        | ind n ih =>
          intro y_31 y_32 S_33 H locs ls hm hy_31 hy_32 hq0_cut_30 hq1_cut_30 hq2_cut_30 hq3_cut_30 hq4_cut_30 hIS_33 XS_33 hP hD hS pk_34 hl
          have YS_33 : oX [1014, 2107, 2108, 5001] Z S_33 := oX.st X_26 XS_33 (fun _ q => q)
          refine lv_iload hx hb dX10_check_55 (lv_at hl 1 rfl) ?_
          refine lv_aload_n hx hb dX10_check_57 rfl (lv_at hl 5 rfl) ?_
          have t_35 : oty S_33 o 10 := (oX.ty XS_33 (oX.ty XS_24 to))
          obtain ⟨q_36, hq_36⟩ := og (cq := cq) t_35.1 (oE_10 t_35.2)
          refine va_get (D := (dC, dI)) (ci := 10) (v := .int (oI S_33 o 6)) (C := RX10) (T := TX10) (N := 16) hx hb hts in_wsX10_check_X10 hown hK hP q_36 hq_36 rfl 6 (by decide) (hts (.fieldLink RX10 115 "ShipOffice" "agreementCount" "I") iw_X10_check_2) (fun _ h9 => h9) rfl dX10_check_58 ?_
          refine lv_topi (fun x_37 ex_37 => ?_)
          have hx_37 : 0 ≤ x_37.toInt ∧ x_37.toInt ≤ 60 := iv_of ex_37 (oInv.iv hIS_33 t_35.2 rfl rfl)
          have gx_37 : x_37.toInt = (oI S_33 o 6).toInt := iv_to ex_37
          clear ex_37
          refine lv_icmp_ge (tgt := 121) hx hb dX10_check_61 (by decide) (fun c_38 => ?_) (fun c_38 => ?_)
          · have dc_38 := c_le (a := x_37.toInt) (b := y_32.toInt) rfl rfl c_38
            refine lv_iload hx hb dX10_check_121 (lv_at hl 0 rfl) ?_
            refine lv_iload hx hb dX10_check_123 (lv_at hl 2 rfl) ?_
            refine lv_icmp_ge (tgt := 133) hx hb dX10_check_125 (by decide) (fun c_39 => ?_) (fun c_39 => ?_)
            · have dc_39 := c_le (a := x_23.toInt) (b := y_31.toInt) rfl rfl c_39
              refine lv_bipush (v := (-9)) hx hb dX10_check_133 (by decide) ?_
              exact W.iret (v := (-9)) hx hb hr (fun t ht hW => ⟨⟨(-9), S_33, rfl, ⟨hIS_33, YS_33, ⟨by have rc : ((-9) : Int32).toInt = -9 := (by decide); unfold aSt; omega, fun _ => by have eN : y_32.toNatClampNeg = (v 43).toNatClampNeg := (show y_32.toInt.toNat = (v 43).toInt.toNat by omega); exact Or.inr ⟨fun b hb => hq3_cut_30 b (by rw [eN]; exact hb), by have rc : ((-9) : Int32).toInt = -9 := (by decide); rw [← eN, ← hq2_cut_30]; (repeat (first | rw [if_pos (by omega)] | rw [if_neg (by omega)])); (first | done | omega)⟩, Or.inr ⟨by unfold bSt; omega, by omega⟩⟩⟩, ⟨by rw [ht]; exact hP, va_K.moved hW.alike hK, hD⟩⟩, hS.F ht⟩) hS.2.2 dX10_check_135
            · have dc_39 := c_nle (a := x_23.toInt) (b := y_31.toInt) rfl rfl c_39
              refine lv_iload hx hb dX10_check_128 (lv_at hl 0 rfl) ?_
              refine lv_goto (tgt := 135) hx hb dX10_check_130 (by decide) ?_
              exact W.iret (v := y_31) hx hb hr (fun t ht hW => ⟨⟨y_31, S_33, rfl, ⟨hIS_33, YS_33, ⟨by unfold aSt; omega, fun _ => by have eN : y_32.toNatClampNeg = (v 43).toNatClampNeg := (show y_32.toInt.toNat = (v 43).toInt.toNat by omega); exact Or.inr ⟨fun b hb => hq3_cut_30 b (by rw [eN]; exact hb), by rw [← eN, ← hq2_cut_30]; (repeat (first | rw [if_pos (by omega)] | rw [if_neg (by omega)])); (first | done | omega)⟩, Or.inr ⟨by unfold bSt; omega, by omega⟩⟩⟩, ⟨by rw [ht]; exact hP, va_K.moved hW.alike hK, hD⟩⟩, hS.F ht⟩) hS.2.2 dX10_check_135
          · have dc_38 := c_nle (a := x_37.toInt) (b := y_32.toInt) rfl rfl c_38
            refine lv_aload_n hx hb dX10_check_64 rfl (lv_at hl 5 rfl) ?_
            obtain ⟨b_40, hb_40⟩ := oInv.nn (i := 5) hIS_33 t_35 rfl
            refine va_get (D := (dC, dI)) (ci := 10) (v := .ref b_40) (C := RX10) (T := TX10) (N := 16) hx hb hts in_wsX10_check_X10 hown hK hP q_36 hq_36 rfl 5 (by decide) (hts (.fieldLink RX10 23 "ShipOffice" "agreements" "[LShipOffice$Agreement;") iw_X10_check_3) (fun _ h9 => h9) (o_rd hb_40) dX10_check_65 ?_
            have tb_40 : oty S_33 b_40 16 := oInv.rd hIS_33 t_35.2 hb_40 rfl rfl
            refine lv_iload hx hb dX10_check_68 (lv_at hl 1 rfl) ?_
            obtain ⟨q_41, hq_41⟩ := og (cq := cq) tb_40.1 (oE_16 tb_40.2)
            refine va_aldq hx hb hK hP q_41 5 hq_41 rfl (vp_in_iff.mpr (by omega)) dX10_check_70 ?_
            obtain ⟨b_42, hb_42⟩ := oInv.el (i := 6) (x := y_32) hIS_33 t_35 rfl hb_40 (by omega) (by omega)
            refine W.eq (g2 := F0 m 71 ls [.ref b_42]) (congrArg (fun z => F0 m 71 ls [va_rf z]) hb_42) ?_
            have tb_42 : oty S_33 b_42 1 := oInv.rd hIS_33 tb_40.2 hb_42 rfl rfl
            have ljb_42 : y_32.toNatClampNeg < (v 43).toNatClampNeg := ni_lt (by omega) (by omega)
            have ejb_42 : b_42 = agA S_33 o y_32.toNatClampNeg := by unfold agA; rw [oQ_e hb_40, oQ_e hb_42]
            obtain ⟨q_43, hq_43⟩ := og (cq := cq) tb_42.1 (oE_1 tb_42.2)
            obtain ⟨b_44, hb_44⟩ := oInv.nn (i := 1) hIS_33 tb_42 rfl
            refine va_get (D := (dC, dI)) (ci := 1) (v := .ref b_44) (C := RX1) (T := TX1) (N := 18) hx hb hts in_wsX10_check_X1 hown hK hP q_43 hq_43 rfl 1 (by decide) (hts (.fieldLink RX10 118 "ShipOffice$Agreement" "voyage" "LShipOffice$Voyage;") iw_X10_check_4) (fun _ h9 => h9) (o_rd hb_44) dX10_check_71 ?_
            have tb_44 : oty S_33 b_44 9 := oInv.rd hIS_33 tb_42.2 hb_44 rfl rfl
            refine lv_aload hx hb dX10_check_74 (lv_at hl 4 rfl) ?_
            have hR_46 := RC_o (W := [1014, 2107, 2108, 5001]) (oX.st (oX.st oX.rf XS_24 (by decide)) XS_33 (by decide)) gI to (by decide) hR
            have fvx_45 := RC.a hR_46 ljb_42
            rw [← ejb_42] at fvx_45
            obtain ⟨-, ⟨f1vx_45, f2vx_45, f3vx_45⟩, -⟩ := fvx_45
            have vx_45 := RC_vx hR_46 (Option.some.inj (hb_44.symm.trans f3vx_45)) (ejb_6.trans (voA_o (W := [1014, 2107, 2108, 5001]) (oX.st (oX.st oX.rf XS_24 (by decide)) XS_33 (by decide)) gI to (by decide) (by decide) _).symm) ⟨by omega, by omega⟩ ⟨by omega, by omega⟩
            refine lv_acmp_ne (rx := (some b_44)) (ry := (some b_6)) (tgt := 115) hx hb dX10_check_76 (by decide) (fun c_47 => ?_) (fun c_47 => ?_)
            · have _ := c_47
              have hv_48 := (vx_45.resolve_left (fun q => c_47 q.1)).2
              obtain ⟨x_49, ex_49⟩ : ∃ zq : Int32, y_32 + 1 = zq := ⟨_, rfl⟩
              have hx_49 : x_49.toInt = y_32.toInt + 1 := (iv_to ex_49).symm.trans (ad_i rfl (by decide) (by omega) (by omega))
              refine lv_iinc (v := x_49) (lv' := [(8, .int x_49), (7, .int y_31), (6, .int x_23), (5, .int r_19), (4, .ref b_6), (0, .ref o), (1, .int x1), (2, .int x2), (3, .int x3)]) hx hb dX10_check_115 hl (k := 1) rfl ex_49 (by decide) rfl (fun ls hl => ?_)
              clear ex_49
              refine lv_goto (tgt := 55) hx hb dX10_check_118 (by decide) ?_
              exact ih (n - 1) (by omega) y_31 x_49 S_33 _ _ ls (by omega) (by omega) (by omega) (by omega) (by omega) (ckC_n hq2_cut_30 (by omega) (by omega) (by (try dsimp only); omega)) (al_s hq3_cut_30 (ckD_n hq2_cut_30 (by (try dsimp only); omega)) (by omega) (by omega)) (by omega) hIS_33 (oX.st oX.rf XS_33 (by decide)) hP hD hS pk_34 (lv_sub hl [1, 0, 2, 3, 4, 5, 6, 7, 8] rfl)
            · have _ := c_47
              have hv_50 := (vx_45.resolve_right (fun q => q.1 c_47)).2
              refine lv_iload hx hb dX10_check_79 (lv_at hl 0 rfl) ?_
              refine lv_iload hx hb dX10_check_81 (lv_at hl 2 rfl) ?_
              refine lv_icmp_ge (tgt := 109) hx hb dX10_check_83 (by decide) (fun c_51 => ?_) (fun c_51 => ?_)
              · have dc_51 := c_le (a := x_23.toInt) (b := y_31.toInt) rfl rfl c_51
                refine lv_iload hx hb dX10_check_109 (lv_at hl 0 rfl) ?_
                exact W.iret (v := y_31) hx hb hr (fun t ht hW => ⟨⟨y_31, S_33, rfl, ⟨hIS_33, YS_33, ⟨by unfold aSt; omega, fun _ => Or.inl ⟨y_32.toNatClampNeg, ni_lt (by omega) (by omega), ckD_y hq2_cut_30 (by (try dsimp only); omega) (by (try dsimp only); omega), hq3_cut_30, hq2_cut_30⟩, Or.inr ⟨by unfold bSt; omega, by omega⟩⟩⟩, ⟨by rw [ht]; exact hP, va_K.moved hW.alike hK, hD⟩⟩, hS.F ht⟩) hS.2.2 dX10_check_111
              · have dc_51 := c_nle (a := x_23.toInt) (b := y_31.toInt) rfl rfl c_51
                refine lv_aload_n hx hb dX10_check_86 rfl (lv_at hl 5 rfl) ?_
                obtain ⟨b_52, hb_52⟩ := oInv.nn (i := 13) hIS_33 t_35 rfl
                refine va_get (D := (dC, dI)) (ci := 10) (v := .ref b_52) (C := RX10) (T := TX10) (N := 16) hx hb hts in_wsX10_check_X10 hown hK hP q_36 hq_36 rfl 13 (by decide) (hts (.fieldLink RX10 63 "ShipOffice" "row" "[I") iw_X10_check_5) (fun _ h9 => h9) (o_rd hb_52) dX10_check_87 ?_
                have tb_52 : oty S_33 b_52 112 := oInv.rd hIS_33 t_35.2 hb_52 rfl rfl
                refine lv_iload hx hb dX10_check_90 (lv_at hl 0 rfl) ?_
                obtain ⟨q_53, hq_53⟩ := og (cq := cq) tb_52.1 (oE_a1 (n := 12) tb_52.2 (by decide))
                refine va_iald hx hb hK hP q_53 0 hq_53 rfl (vp_in_iff.mpr (by omega)) dX10_check_92 ?_
                refine lv_topi (fun x_54 ex_54 => ?_)
                have gwx_54 : x_54.toInt = (fa 61 y_31.toNatClampNeg).toInt := (iv_to ex_54).trans (congrArg Int32.toInt (rRw_el (W := [1014, 2107, 2108, 5001]) (oX.st (oX.st oX.rf XS_24 (by decide)) XS_33 (by decide)) gI to (by decide) (by decide) hRw hb_52 (show y_31.toInt.toNat < (v 62).toInt.toNat by omega)))
                refine lv_aload_n hx hb dX10_check_93 rfl (lv_at hl 5 rfl) ?_
                refine lv_aload_n hx hb dX10_check_94 rfl (lv_at hl 5 rfl) ?_
                refine va_get (D := (dC, dI)) (ci := 10) (v := .ref b_40) (C := RX10) (T := TX10) (N := 16) hx hb hts in_wsX10_check_X10 hown hK hP q_36 hq_36 rfl 5 (by decide) (hts (.fieldLink RX10 23 "ShipOffice" "agreements" "[LShipOffice$Agreement;") iw_X10_check_3) (fun _ h9 => h9) (o_rd hb_40) dX10_check_95 ?_
                refine lv_iload hx hb dX10_check_98 (lv_at hl 1 rfl) ?_
                refine va_aldq hx hb hK hP q_41 5 hq_41 rfl (vp_in_iff.mpr (by omega)) dX10_check_100 ?_
                obtain ⟨b_55, hb_55⟩ := oInv.el (i := 6) (x := y_32) hIS_33 t_35 rfl hb_40 (by omega) (by omega)
                refine W.eq (g2 := F0 m 101 ls [.ref b_55, .ref o, .int x_54]) (congrArg (fun z => F0 m 101 ls [va_rf z, .ref o, .int x_54]) hb_55) ?_
                have tb_55 : oty S_33 b_55 1 := oInv.rd hIS_33 tb_40.2 hb_55 rfl rfl
                have ljb_55 : y_32.toNatClampNeg < (v 43).toNatClampNeg := ni_lt (by omega) (by omega)
                have ejb_55 : b_55 = agA S_33 o y_32.toNatClampNeg := by unfold agA; rw [oQ_e hb_40, oQ_e hb_55]
                refine lv_iload_n hx hb dX10_check_101 rfl (lv_at hl 7 rfl) ?_
                refine lv_iload_n hx hb dX10_check_102 rfl (lv_at hl 8 rfl) ?_
                have hE_56 := RX_fr (W := [1014, 2107, 2108, 5001]) (z := v) (fz := fa) (oX.st (oX.st oX.rf XS_24 (by decide)) XS_33 (by decide)) gI to (by decide) (RC.n hR).2.2.2.1 (RC.A hR) rfl (fun _ _ => rfl) hE
                have hFc := o_free hD hS hA
                refine va_calli (va_runV (As := [.ref b_55, .int x2, .int x3]) (rest := [.int x_54]) ⟨hx, hb, hml, hown, hts⟩ (c_X10_owedOn_c l dC dI H.size cq S_33 hIS_33 o t_35 b_55 tb_55 x2 (by omega) x3 (by omega) v fa hR_46 hE_56 (by omega) y_32.toNatClampNeg ljb_55 ejb_55) (cwV 3 hts gX10_check_X10_owedOn rfl rfl rfl (by decide +kernel) ⟨(Nat.le_of_ble_eq_true rfl), (Nat.le_of_ble_eq_true rfl)⟩) (pr_V (r := (RX10, TX10, 16)) hP hK hD q_36 10 rfl hq_36) rfl rfl hl.1 rfl (lv_room (Nat.le_of_ble_eq_true rfl)) dX10_check_103 ⟨(Nat.le_of_ble_eq_true rfl), (Nat.le_of_ble_eq_true rfl)⟩) hS (fun q _ h => hFc q h) hFc (fun r_58 u t H locs ht hvm w_57 hB hz1 hk1 hS => ?_)
                obtain ⟨S_59, rfl⟩ : ∃ z, z = u := ⟨_, rfl⟩
                obtain ⟨hP1, hK1, hD1⟩ := hB
                rw [ht] at hP1
                have hP : va_P (dC, dI) vwCl (oW cq S_59) H := hP1
                have hD : va_D A (oW cq S_59) := hD1.weaken (fun _ _ _ h => hFc _ h)
                clear hP1 hK1 hD1 hk1 hz1 hvm ht hFc
                obtain ⟨hIS_59, XS_59, hx_60⟩ := w_57
                have X_61 : oX [1014, 2107, 2108, 5001] Z S_59 := oX.st YS_33 XS_59 (by decide)
                have g_62 : (oI S_59 o 0).toInt = (oI S_33 o 0).toInt := by rw [oX.i XS_59 t_35 (by decide)]
                have g_63 : (oI S_59 o 6).toInt = (oI S_33 o 6).toInt := by rw [oX.i XS_59 t_35 (by decide)]
                have g_64 : (oI S_59 o 14).toInt = (oI S_33 o 14).toInt := by rw [oX.i XS_59 t_35 (by decide)]
                have pk_65 : oP S_59 o 8 = some lw := by rw [oX.p XS_59 t_35 (by decide)]; exact pk_34
                refine lv_icmp_eq (tgt := 112) hx hb dX10_check_106 (by decide) (fun c_66 => ?_) (fun c_66 => ?_)
                · have dc_66 := c_eq (a := x_54.toInt) (b := r_58.toInt) rfl rfl c_66
                  obtain ⟨x_67, ex_67⟩ : ∃ zq : Int32, y_31 + 1 = zq := ⟨_, rfl⟩
                  have hx_67 : x_67.toInt = y_31.toInt + 1 := (iv_to ex_67).symm.trans (ad_i rfl (by decide) (by omega) (by omega))
                  refine lv_iinc (v := x_67) (lv' := [(7, .int x_67), (8, .int y_32), (6, .int x_23), (5, .int r_19), (4, .ref b_6), (0, .ref o), (1, .int x1), (2, .int x2), (3, .int x3)]) hx hb dX10_check_112 hl (k := 0) rfl ex_67 (by decide) rfl (fun ls hl => ?_)
                  clear ex_67
                  obtain ⟨x_68, ex_68⟩ : ∃ zq : Int32, y_32 + 1 = zq := ⟨_, rfl⟩
                  have hx_68 : x_68.toInt = y_32.toInt + 1 := (iv_to ex_68).symm.trans (ad_i rfl (by decide) (by omega) (by omega))
                  refine lv_iinc (v := x_68) (lv' := [(8, .int x_68), (7, .int x_67), (6, .int x_23), (5, .int r_19), (4, .ref b_6), (0, .ref o), (1, .int x1), (2, .int x2), (3, .int x3)]) hx hb dX10_check_115 hl (k := 1) rfl ex_68 (by decide) rfl (fun ls hl => ?_)
                  clear ex_68
                  refine lv_goto (tgt := 55) hx hb dX10_check_118 (by decide) ?_
                  exact ih (n - 1) (by omega) x_67 x_68 S_59 _ _ ls (by omega) (by omega) (by omega) (by omega) (by omega) (ckC_n hq2_cut_30 (by omega) (by omega) (by (try dsimp only); omega)) (al_s hq3_cut_30 (ckD_n hq2_cut_30 (by (try dsimp only); omega)) (by omega) (by omega)) (by omega) hIS_59 (oX.st (oX.st oX.rf XS_33 (by decide)) XS_59 (by decide)) hP hD hS pk_65 (lv_sub hl [1, 0, 2, 3, 4, 5, 6, 7, 8] rfl)
                · have dc_66 := c_ne (a := x_54.toInt) (b := r_58.toInt) rfl rfl c_66
                  refine lv_iload hx hb dX10_check_109 (lv_at hl 0 rfl) ?_
                  exact W.iret (v := y_31) hx hb hr (fun t ht hW => ⟨⟨y_31, S_59, rfl, ⟨hIS_59, X_61, ⟨by unfold aSt; omega, fun _ => Or.inl ⟨y_32.toNatClampNeg, ni_lt (by omega) (by omega), ckD_y hq2_cut_30 (by (try dsimp only); omega) (by (try dsimp only); omega), hq3_cut_30, hq2_cut_30⟩, Or.inr ⟨by unfold bSt; omega, by omega⟩⟩⟩, ⟨by rw [ht]; exact hP, va_K.moved hW.alike hK, hD⟩⟩, hS.F ht⟩) hS.2.2 dX10_check_111
      have kc_69 : (0 : Int32).toInt = 0 := by decide
      exact cut_30 61 0 0 S_24 _ _ ls (by omega) (by decide) (by decide) (by decide) (by omega) (ckC_0 (by decide) (by decide)) (al_0 (by decide)) (by have rc : (0 : Int32).toInt = 0 := (by decide); omega) hIS_24 oX.rf hP hD hS pk_25 (lv_sub hl [1, 0, 2, 3, 4, 5, 6, 7, 8] rfl)
    · have dc_22 := c_ne (a := r_19.toInt) (b := 0) rfl (by decide) c_22
      refine lv_aload_n hx hb dX10_check_31 rfl (lv_at hl 2 rfl) ?_
      refine lv_iload hx hb dX10_check_32 (lv_at hl 0 rfl) ?_
      have hFc := o_free hD hS hA
      refine va_calli (va_runV (As := [.int r_19]) (rest := []) ⟨hx, hb, hml, hown, hts⟩ (c_X10_refuse_c l dC dI H.size cq Z gI o to r_19 (by omega)) (cwV 1 hts gX10_check_X10_refuse rfl rfl rfl (by decide +kernel) ⟨(Nat.le_of_ble_eq_true rfl), (Nat.le_of_ble_eq_true rfl)⟩) (pr_V (r := (RX10, TX10, 16)) hP hK hD q_1 10 rfl hq_1) rfl rfl hl.1 rfl (lv_room (Nat.le_of_ble_eq_true rfl)) dX10_check_34 ⟨(Nat.le_of_ble_eq_true rfl), (Nat.le_of_ble_eq_true rfl)⟩) hS (fun q _ h => hFc q h) hFc (fun r_71 u t H locs ht hvm w_70 hB hz1 hk1 hS => ?_)
      obtain ⟨S_72, rfl⟩ : ∃ z, z = u := ⟨_, rfl⟩
      obtain ⟨hP1, hK1, hD1⟩ := hB
      rw [ht] at hP1
      have hP : va_P (dC, dI) vwCl (oW cq S_72) H := hP1
      have hD : va_D A (oW cq S_72) := hD1.weaken (fun _ _ _ h => hFc _ h)
      clear hP1 hK1 hD1 hk1 hz1 hvm ht hFc
      obtain ⟨hIS_72, XS_72, hb_73, hx_74⟩ := w_70
      have X_75 : oX [1014, 2107, 2108, 5001] Z S_72 := oX.st oX.rf XS_72 (by decide)
      have g_76 : (oI S_72 o 0).toInt = (oI Z o 0).toInt := by rw [oX.i XS_72 to (by decide)]
      have g_77 : (oI S_72 o 6).toInt = (oI Z o 6).toInt := by rw [oX.i XS_72 to (by decide)]
      have g_78 : (oI S_72 o 14).toInt = (oI Z o 14).toInt := by rw [oX.i XS_72 to (by decide)]
      have pk_79 : oP S_72 o 8 = some lw := by rw [oX.p XS_72 to (by decide)]; exact hlw0
      have rf_80 : r_71.toInt = r_19.toInt := by rw [hx_74.1]
      exact W.iret (v := r_71) hx hb hr (fun t ht hW => ⟨⟨r_71, S_72, rfl, ⟨hIS_72, X_75, ⟨by have kc0 : (0 : Int32).toInt = 0 := (by decide); have kc1 : (1 : Int32).toInt = 1 := (by decide); have kc2 : (2 : Int32).toInt = 2 := (by decide); unfold aSt; omega, fun q => absurd (by unfold bSt; omega) q, by have kc0 : (0 : Int32).toInt = 0 := (by decide); have kc1 : (1 : Int32).toInt = 1 := (by decide); have kc2 : (2 : Int32).toInt = 2 := (by decide); exact Or.inl ⟨by unfold bSt; omega, by rw [hx_74.1]; exact hx_74.2⟩⟩⟩, ⟨by rw [ht]; exact hP, va_K.moved hW.alike hK, hD⟩⟩, hS.F ht⟩) hS.2.2 dX10_check_37
