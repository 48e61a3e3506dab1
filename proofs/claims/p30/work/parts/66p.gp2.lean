


theorem moB_o {W : List Nat} {S u : oS} {o : Nat} (hX : oX W S u) (hI : oInv S) (to : oty S o 10) (hk : ∀ k ∈ [1001, 2014, 1002], k ∉ W) (h : moB S o) : moB u o := fun m m' h1 h2 e => by
  have eN : nM u o = nM S o := by unfold nM; rw [hX.i (i := 2) to (hk 1002 (by decide))]
  rw [eN] at h1 h2
  rw [mnA_o hX hI to (hk 1001 (by decide)) (hk 2014 (by decide)), mnA_o hX hI to (hk 1001 (by decide)) (hk 2014 (by decide))] at e
  exact h m m' h1 h2 e
theorem nM_o {W : List Nat} {S u : oS} {o : Nat} (hX : oX W S u) (to : oty S o 10) (hk : 1002 ∉ W) : nM u o = nM S o := by
  unfold nM
  rw [hX.i (i := 2) to hk]
set_option maxHeartbeats 4000000 in
set_option maxRecDepth 100000 in
theorem c_X10_joinGroups_c (l : Launch) (dC : Nat → ClassId) (dI : Nat → Nat → Nat) (sz : Nat) (cq : Nat → ClassId) (Z : oS) (gI : oInv Z) (o : Nat) (to : oty Z o 10) (a1 : Nat) (ta1 : oty Z a1 6) (k_ : Nat) (hk_ : (oI Z o 2).toNatClampNeg = k_ + 1) (ea : a1 = mnA Z o k_) (hDm : moD Z o) (hBm : moB Z o) (hLk : lab (gE (alM Z o) k_) k_ (lbO Z o)) (hlk : lbO Z o k_ = k_) : Met l yX10_joinGroups wsX10_joinGroups ({ frames := 2, cells := 0, slots := 0, locals := 46 }) (va_Pc [.ref o, .ref a1] (pcW (dC, dI) (oT cq) (oW cq Z) sz)) (va_Qv (fun (u : oS) => oInv u ∧ oX [605] Z u ∧ (lab (gE (alM Z o) (k_ + 1)) (k_ + 1) (lbO u o))) (fun u t => va_P (dC, dI) vwCl (oW cq u) t.heap ∧ va_K (dC, dI) vwCl (oT cq) t ∧ va_D (va_A (oW cq Z) sz) (oW cq u)) (va_A (oW cq Z) sz)) 0 0 (va_A (oW cq Z) sz) := by
  refine Met.ofW (cc := cX10_joinGroups) (maxL := 3) (ret := none) (by decide) rfl ?_
  intro p e s m args below meth c s₁ B hml hv
  obtain ⟨rfl, hsz, hP, hK, hD0⟩ := hv
  have hx := B.exec
  have hb := B.bytes
  have hr := B.returns
  have hts := atoms_spec (ws := wsX10_joinGroups) B.pre
  have hown : s.vm.findClass RX10 = some m.cls := findClass_of_methodNamed B.named
  have hlocks := B.notSynchronized
  subst hsz
  have hD := hD0.self (sz := s.heap.size)
  generalize hAe : va_A (oW cq Z) s.heap.size = A at hD ⊢
  have hA : ∀ q : Nat, s.heap.size ≤ q → A q := fun q h => by rw [← hAe]; exact Or.inr h
  have hS : va_S A s.heap s.heap [] := va_S.rf
  have hP : va_P (dC, dI) vwCl (oW cq Z) s.heap := hP
  have hl := lv_entry ([.ref o, .ref a1]) (n := 3) (Nat.le_of_ble_eq_true rfl)
  rw [lg_entry_eq]
  generalize (lg_sl ([.ref o, .ref a1]) ++ List.replicate (3 - (lg_sl ([.ref o, .ref a1])).length) Slot.unset).toArray = ls at hl ⊢
  have hl : lv_has ls 3 [(0, .ref o), (1, .ref a1)] := hl
  have hkz : (oI Z o 2).toInt.toNat = k_ + 1 := hk_
  refine lv_iconst (v := 0) hx hb dX10_joinGroups_0 (by decide) ?_
  refine lv_istore_n (lv' := [(2, .int 0), (0, .ref o), (1, .ref a1)]) hx hb dX10_joinGroups_1 rfl hl (by decide) rfl (fun ls hl => ?_)
  have cut_1 : ∀ (n : Nat) (y_2 : Int32) (S_3 : oS) (H : Heap) (locs : List Loc) (ls : Array Slot), 40 - y_2.toInt ≤ (n : Int) → (0 ≤ y_2.toInt ∧ y_2.toInt ≤ 40) → lab (gEi (alM Z o) k_ y_2.toNatClampNeg) (k_ + 1) (lbO S_3 o) → y_2.toInt ≤ (oI Z o 2).toInt → oInv S_3 → oX [605] Z S_3 → va_P (dC, dI) vwCl (oW cq S_3) H → va_D A (oW cq S_3) → va_S A s.heap H locs → lv_has ls 3 [(2, .int y_2), (0, .ref o), (1, .ref a1)] → W p l e (headSpec wsX10_joinGroups { frames := 2, cells := 0, slots := 0, locals := 46 }).room s m #[Value.ref o, Value.ref a1] below meth c H locs 0 0 (MQ below (va_Qv (fun (u : oS) => oInv u ∧ oX [605] Z u ∧ (lab (gE (alM Z o) (k_ + 1)) (k_ + 1) (lbO u o))) (fun u t => va_P (dC, dI) vwCl (oW cq u) t.heap ∧ va_K (dC, dI) vwCl (oT cq) t ∧ va_D A (oW cq u)) A) #[Value.ref o, Value.ref a1] s 0 0 A) (F0 m 2 ls []) := by
    intro n
    induction n using Nat.strongRecOn with
    | ind n ih =>
      intro y_2 S_3 H locs ls hm hy_2 hq0_cut_1 hq1_cut_1 hIS_3 XS_3 hP hD hS hl
      have YS_3 : oX [605] Z S_3 := oX.st oX.rf XS_3 (fun _ q => q)
      have g_4 : (oI S_3 o 2).toInt = (oI Z o 2).toInt := by rw [oX.i (W := [605]) (oX.st oX.rf XS_3 (by decide)) to (by decide)]
      refine lv_iload_n hx hb dX10_joinGroups_2 rfl (lv_at hl 0 rfl) ?_
      refine lv_aload_n hx hb dX10_joinGroups_3 rfl (lv_at hl 1 rfl) ?_
      have t_5 : oty S_3 o 10 := (oX.ty XS_3 to)
      obtain ⟨q_6, hq_6⟩ := og (cq := cq) t_5.1 (oE_10 t_5.2)
      refine va_get (D := (dC, dI)) (ci := 10) (v := .int (oI S_3 o 2)) (C := RX10) (T := TX10) (N := 16) hx hb hts in_wsX10_joinGroups_X10 hown hK hP q_6 hq_6 rfl 2 (by decide) (hts (.fieldLink RX10 86 "ShipOffice" "manCount" "I") iw_X10_joinGroups_1) (fun _ h9 => h9) rfl dX10_joinGroups_4 ?_
      refine lv_topi (fun x_7 ex_7 => ?_)
      have hx_7 : 0 ≤ x_7.toInt ∧ x_7.toInt ≤ 40 := iv_of ex_7 (oInv.iv hIS_3 t_5.2 rfl rfl)
      have gx_7 : x_7.toInt = (oI S_3 o 2).toInt := iv_to ex_7
      clear ex_7
      refine lv_icmp_ge (tgt := 46) hx hb dX10_joinGroups_7 (by decide) (fun c_8 => ?_) (fun c_8 => ?_)
      · have dc_8 := c_le (a := x_7.toInt) (b := y_2.toInt) rfl rfl c_8
        exact W.vret hx hb hr (fun t ht hW => ⟨⟨S_3, rfl, ⟨hIS_3, YS_3, (jg_e hq0_cut_1 (show y_2.toInt.toNat = k_ + 1 by have q : (oI Z o 2).toInt.toNat = k_ + 1 := hk_; omega))⟩, ⟨by rw [ht]; exact hP, va_K.moved hW.alike hK, hD⟩⟩, hS.F ht⟩) hS.2.2 dX10_joinGroups_46
      · have dc_8 := c_nle (a := x_7.toInt) (b := y_2.toInt) rfl rfl c_8
        refine lv_aload_n hx hb dX10_joinGroups_10 rfl (lv_at hl 2 rfl) ?_
        refine lv_aload_n hx hb dX10_joinGroups_11 rfl (lv_at hl 1 rfl) ?_
        obtain ⟨b_9, hb_9⟩ := oInv.nn (i := 1) hIS_3 t_5 rfl
        refine va_get (D := (dC, dI)) (ci := 10) (v := .ref b_9) (C := RX10) (T := TX10) (N := 16) hx hb hts in_wsX10_joinGroups_X10 hown hK hP q_6 hq_6 rfl 1 (by decide) (hts (.fieldLink RX10 11 "ShipOffice" "men" "[LShipOffice$Man;") iw_X10_joinGroups_2) (fun _ h9 => h9) (o_rd hb_9) dX10_joinGroups_12 ?_
        have tb_9 : oty S_3 b_9 14 := oInv.rd hIS_3 t_5.2 hb_9 rfl rfl
        refine lv_iload_n hx hb dX10_joinGroups_15 rfl (lv_at hl 0 rfl) ?_
        obtain ⟨q_10, hq_10⟩ := og (cq := cq) tb_9.1 (oE_14 tb_9.2)
        refine va_aldq hx hb hK hP q_10 3 hq_10 rfl (vp_in_iff.mpr (by omega)) dX10_joinGroups_16 ?_
        obtain ⟨b_11, hb_11⟩ := oInv.el (i := 2) (x := y_2) hIS_3 t_5 rfl hb_9 (by omega) (by omega)
        refine W.eq (g2 := F0 m 17 ls [.ref b_11, .ref a1]) (congrArg (fun z => F0 m 17 ls [va_rf z, .ref a1]) hb_11) ?_
        have tb_11 : oty S_3 b_11 6 := oInv.rd hIS_3 tb_9.2 hb_11 rfl rfl
        have ejb_11 : b_11 = mnA S_3 o y_2.toNatClampNeg := by unfold mnA; rw [oQ_e hb_9, oQ_e hb_11]
        have kbb_11 : b_11 = mnA Z o y_2.toNatClampNeg := ejb_11.trans (mnA_o (W := [605]) (oX.st oX.rf XS_3 (by decide)) gI to (by decide) (by decide) _)
        have ktb_11 : oty Z b_11 6 := by rw [kbb_11]; exact (mnA_e gI to (show y_2.toInt.toNat < (oI Z o 2).toInt.toNat by omega)).2
        have t_12 : oty S_3 a1 6 := (oX.ty XS_3 ta1)
        have hFc : ∀ q, va_A [] H.size q → A q := pu_free hS hA
        obtain ⟨q_13, hq_13⟩ := og (cq := cq) t_12.1 (oE_6 t_12.2)
        refine va_calli (va_runV (As := [.ref b_11]) (rest := []) ⟨hx, hb, hml, hown, hts⟩ (c_X6_isAlike_c l dC dI H.size cq S_3 hIS_3 a1 t_12 b_11 tb_11 (by rw [oX.i (W := [605]) (i := 2) (oX.st oX.rf XS_3 (by decide)) ta1 (by decide), ea]; exact hDm k_ (by show k_ < (oI Z o 2).toNatClampNeg; omega)) (by rw [oX.i (W := [605]) (i := 2) (oX.st oX.rf XS_3 (by decide)) ktb_11 (by decide), kbb_11]; exact hDm _ (show y_2.toInt.toNat < (oI Z o 2).toInt.toNat by omega))) (cwV 1 hts gX10_joinGroups_X6_isAlike rfl rfl rfl (by decide +kernel) ⟨(Nat.le_of_ble_eq_true rfl), (Nat.le_of_ble_eq_true rfl)⟩) (pr_V (r := (RX6, TX6, 6)) hP hK hD q_13 6 rfl hq_13) rfl rfl hl.1 rfl (lv_room (Nat.le_of_ble_eq_true rfl)) dX10_joinGroups_17 ⟨(Nat.le_of_ble_eq_true rfl), (Nat.le_of_ble_eq_true rfl)⟩) hS (fun q _ h => hFc q h) hFc (fun r_15 u t H locs ht hvm w_14 hB hz1 hk1 hS => ?_)
        have hP := pu_keep hP hk1
        clear hk1 hz1 hvm hB ht hFc
        obtain ⟨hb_16, hx_17⟩ := w_14
        rw [alO_fr (W := [605]) (oX.st oX.rf XS_3 (by decide)) ta1 ktb_11 (by decide)] at hx_17
        have hab_11 : alO Z a1 b_11 = alM Z o k_ y_2.toNatClampNeg := by unfold alM; rw [← ea, ← kbb_11]
        rw [hab_11] at hx_17
        refine lv_if_eq (tgt := 40) hx hb dX10_joinGroups_20 (by decide) (fun c_18 => ?_) (fun c_18 => ?_)
        · have dc_18 := c_eq (a := r_15.toInt) (b := 0) rfl (by decide) c_18
          obtain ⟨x_19, ex_19⟩ : ∃ zq : Int32, y_2 + 1 = zq := ⟨_, rfl⟩
          have hx_19 : x_19.toInt = y_2.toInt + 1 := (iv_to ex_19).symm.trans (ad_i rfl (by decide) (by omega) (by omega))
          refine lv_iinc (v := x_19) (lv' := [(2, .int x_19), (0, .ref o), (1, .ref a1)]) hx hb dX10_joinGroups_40 hl (k := 0) rfl ex_19 (by decide) rfl (fun ls hl => ?_)
          clear ex_19
          refine lv_goto (tgt := 2) hx hb dX10_joinGroups_43 (by decide) ?_
          exact ih (n - 1) (by omega) x_19 S_3 _ _ ls (by omega) (by omega) (jg_n hq0_cut_1 alM_sy (fun q => by have q2 := b01_t q; omega) (show x_19.toInt.toNat = y_2.toInt.toNat + 1 by omega)) (by omega) hIS_3 (oX.st oX.rf XS_3 (by decide)) hP hD hS (lv_sub hl [0, 1, 2] rfl)
        · have dc_18 := c_ne (a := r_15.toInt) (b := 0) rfl (by decide) c_18
          refine lv_aload_n hx hb dX10_joinGroups_23 rfl (lv_at hl 1 rfl) ?_
          refine lv_aload_n hx hb dX10_joinGroups_24 rfl (lv_at hl 2 rfl) ?_
          refine va_get (D := (dC, dI)) (ci := 6) (v := .int (oI S_3 a1 5)) (C := RX6) (T := TX6) (N := 6) hx hb hts in_wsX10_joinGroups_X6 hown hK hP q_13 hq_13 rfl 5 (by decide) (hts (.fieldLink RX10 311 "ShipOffice$Man" "leastAlike" "I") iw_X10_joinGroups_3) (fun _ h9 => h9) rfl dX10_joinGroups_25 ?_
          refine lv_topi (fun x_20 ex_20 => ?_)
          have gx_20 : x_20.toInt = (oI S_3 a1 5).toInt := iv_to ex_20
          clear ex_20
          refine lv_aload_n hx hb dX10_joinGroups_28 rfl (lv_at hl 1 rfl) ?_
          refine va_get (D := (dC, dI)) (ci := 10) (v := .ref b_9) (C := RX10) (T := TX10) (N := 16) hx hb hts in_wsX10_joinGroups_X10 hown hK hP q_6 hq_6 rfl 1 (by decide) (hts (.fieldLink RX10 11 "ShipOffice" "men" "[LShipOffice$Man;") iw_X10_joinGroups_2) (fun _ h9 => h9) (o_rd hb_9) dX10_joinGroups_29 ?_
          refine lv_iload_n hx hb dX10_joinGroups_32 rfl (lv_at hl 0 rfl) ?_
          refine va_aldq hx hb hK hP q_10 3 hq_10 rfl (vp_in_iff.mpr (by omega)) dX10_joinGroups_33 ?_
          obtain ⟨b_21, hb_21⟩ := oInv.el (i := 2) (x := y_2) hIS_3 t_5 rfl hb_9 (by omega) (by omega)
          refine W.eq (g2 := F0 m 34 ls [.ref b_21, .int x_20, .ref o]) (congrArg (fun z => F0 m 34 ls [va_rf z, .int x_20, .ref o]) hb_21) ?_
          have tb_21 : oty S_3 b_21 6 := oInv.rd hIS_3 tb_9.2 hb_21 rfl rfl
          have ejb_21 : b_21 = mnA S_3 o y_2.toNatClampNeg := by unfold mnA; rw [oQ_e hb_9, oQ_e hb_21]
          obtain ⟨q_22, hq_22⟩ := og (cq := cq) tb_21.1 (oE_6 tb_21.2)
          refine va_get (D := (dC, dI)) (ci := 6) (v := .int (oI S_3 b_21 5)) (C := RX6) (T := TX6) (N := 6) hx hb hts in_wsX10_joinGroups_X6 hown hK hP q_22 hq_22 rfl 5 (by decide) (hts (.fieldLink RX10 311 "ShipOffice$Man" "leastAlike" "I") iw_X10_joinGroups_3) (fun _ h9 => h9) rfl dX10_joinGroups_34 ?_
          refine lv_topi (fun x_23 ex_23 => ?_)
          have gx_23 : x_23.toInt = (oI S_3 b_21 5).toInt := iv_to ex_23
          clear ex_23
          have hFc := o_free hD hS hA
          refine va_callv (va_runV (As := [.int x_20, .int x_23]) (rest := []) ⟨hx, hb, hml, hown, hts⟩ (c_X10_mergeGroups_c l dC dI H.size cq S_3 hIS_3 o t_5 x_20 x_23 (moB_o (W := [605]) (oX.st oX.rf XS_3 (by decide)) gI to (by decide) hBm)) (cwV 2 hts gX10_joinGroups_X10_mergeGroups rfl rfl rfl (by decide +kernel) ⟨(Nat.le_of_ble_eq_true rfl), (Nat.le_of_ble_eq_true rfl)⟩) (pr_V (r := (RX10, TX10, 16)) hP hK hD q_6 10 rfl hq_6) rfl rfl hl.1 rfl (lv_room (Nat.le_of_ble_eq_true rfl)) dX10_joinGroups_37 ⟨(Nat.le_of_ble_eq_true rfl), (Nat.le_of_ble_eq_true rfl)⟩) hS (fun q _ h => hFc q h) hFc (fun u t H locs ht hvm w_24 hB hz1 hk1 hS => ?_)
          obtain ⟨S_26, rfl⟩ : ∃ z, z = u := ⟨_, rfl⟩
          obtain ⟨hP1, hK1, hD1⟩ := hB
          rw [ht] at hP1
          have hP : va_P (dC, dI) vwCl (oW cq S_26) H := hP1
          have hD : va_D A (oW cq S_26) := hD1.weaken (fun _ _ _ h => hFc _ h)
          clear hP1 hK1 hD1 hk1 hz1 hvm ht hFc
          obtain ⟨hIS_26, XS_26, hx_27⟩ := w_24
          have X_28 : oX [605] Z S_26 := oX.st YS_3 XS_26 (by decide)
          have g_29 : (oI S_26 o 2).toInt = (oI S_3 o 2).toInt := by rw [oX.i XS_26 t_5 (by decide)]
          obtain ⟨x_30, ex_30⟩ : ∃ zq : Int32, y_2 + 1 = zq := ⟨_, rfl⟩
          have hx_30 : x_30.toInt = y_2.toInt + 1 := (iv_to ex_30).symm.trans (ad_i rfl (by decide) (by omega) (by omega))
          refine lv_iinc (v := x_30) (lv' := [(2, .int x_30), (0, .ref o), (1, .ref a1)]) hx hb dX10_joinGroups_40 hl (k := 0) rfl ex_30 (by decide) rfl (fun ls hl => ?_)
          clear ex_30
          refine lv_goto (tgt := 2) hx hb dX10_joinGroups_43 (by decide) ?_
          exact ih (n - 1) (by omega) x_30 S_26 _ _ ls (by omega) (by omega) (jg_y hq0_cut_1 alM_sy (show y_2.toInt.toNat < k_ + 1 by omega) (b01_1 (show b01 (alM Z o k_ y_2.toNatClampNeg) = 1 by omega)) (show (x_20 : Int32).toInt = lbO S_3 o k_ by unfold lbO; rw [mnA_o (W := [605]) (oX.st oX.rf XS_3 (by decide)) gI to (by decide) (by decide), ← ea]; omega) (show (x_23 : Int32).toInt = lbO S_3 o y_2.toNatClampNeg by unfold lbO; rw [← ejb_21]; omega) (fun m hm => hx_27 m (by rw [nM_o (W := [605]) (oX.st oX.rf XS_3 (by decide)) to (by decide)]; show m < (oI Z o 2).toNatClampNeg; omega)) (show x_30.toInt.toNat = y_2.toInt.toNat + 1 by omega)) (by omega) hIS_26 (oX.st (oX.st oX.rf XS_3 (by decide)) XS_26 (by decide)) hP hD hS (lv_sub hl [0, 1, 2] rfl)
  have kc_31 : (0 : Int32).toInt = 0 := by decide
  exact cut_1 41 0 Z _ _ ls (by omega) (by decide) (jg_0 hLk hlk (by decide)) (by have rc : (0 : Int32).toInt = 0 := (by decide); omega) gI oX.rf hP hD hS (lv_sub hl [0, 1, 2] rfl)
