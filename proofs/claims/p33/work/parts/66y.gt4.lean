


set_option maxHeartbeats 4000000 in
set_option maxRecDepth 100000 in
theorem c_X4_leastSum_c (l : Launch) (dC : Nat → ClassId) (dI : Nat → Nat → Nat) (sz : Nat) (cq : Nat → ClassId) (Z : oS) (gI : oInv Z) (o : Nat) (to : oty Z o 4) (br of9 fr : Nat) (hbr : oP Z o 0 = some br) (hof : oP Z o 1 = some of9) (hfr : oP Z o 3 = some fr) (nG : Nat) (BG : Int) (hgo : (oI Z o 4).toInt = nG) (hn : nG < 81) (hB : (oJ Z br nG).toInt = BG) (hBb : BG = 1152921504606846976 ∨ (0 ≤ BG ∧ BG ≤ 844424930131968)) : Met l yX4_leastSum wsX4_leastSum ({ frames := 0, cells := 0, slots := 0, locals := 0 }) (va_Pc [.ref o] (pcW (dC, dI) (oT cq) (oW cq Z) sz)) (va_Qi (fun (r : Int32) (u : Unit) => ((BG = 1152921504606846976 ∧ r.toInt = -9) ∨ (BG ≠ 1152921504606846976 ∧ r.toInt = BG / 4294967296))) (fun _ _ => True) (va_A [] sz)) 0 0 (va_A [] sz) := by
  refine Met.ofW (cc := cX4_leastSum) (maxL := 1) (ret := (some .int)) (by decide) rfl ?_
  intro p e s m args below meth c s₁ B hml hv
  obtain ⟨rfl, hsz, hP, hK, hD0⟩ := hv
  have hx := B.exec
  have hb := B.bytes
  have hr := B.returns
  have hts := atoms_spec (ws := wsX4_leastSum) B.pre
  have hown : s.vm.findClass RX4 = some m.cls := findClass_of_methodNamed B.named
  have hlocks := B.notSynchronized
  subst hsz
  have hD := hD0
  generalize hAe : va_A [] s.heap.size = A at ⊢
  have hA : ∀ q : Nat, s.heap.size ≤ q → A q := fun q h => by rw [← hAe]; exact Or.inr h
  have hS : va_S A s.heap s.heap [] := va_S.rf
  have hP : va_P (dC, dI) vwCl (oW cq Z) s.heap := hP
  have hl := lv_entry ([.ref o]) (n := 1) (Nat.le_of_ble_eq_true rfl)
  rw [lg_entry_eq]
  generalize (lg_sl ([.ref o]) ++ List.replicate (1 - (lg_sl ([.ref o])).length) Slot.unset).toArray = ls at hl ⊢
  have hl : lv_has ls 1 [(0, .ref o)] := hl
  have tbr : oty Z br 18 := oInv.rd gI to.2 hbr rfl rfl
  have tof : oty Z of9 62 := oInv.rd gI to.2 hof rfl rfl
  have tfr : oty Z fr 61 := oInv.rd gI to.2 hfr rfl rfl
  refine lv_aload_n hx hb dX4_leastSum_0 rfl (lv_at hl 0 rfl) ?_
  obtain ⟨q_1, hq_1⟩ := og (cq := cq) to.1 (oE_4 to.2)
  refine va_get (D := (dC, dI)) (ci := 4) (v := .ref br) (C := RX4) (T := TX4) (N := 6) hx hb hts in_wsX4_leastSum_X4 hown hK hP q_1 hq_1 rfl 0 (by decide) (hts (.fieldLink RX4 11 "ShipOffice$Hiring" "best" "[J") iw_X4_leastSum_1) (fun _ h9 => h9) (o_rd hbr) dX4_leastSum_1 ?_
  refine lv_aload_n hx hb dX4_leastSum_4 rfl (lv_at hl 0 rfl) ?_
  refine va_get (D := (dC, dI)) (ci := 4) (v := .int (oI Z o 4)) (C := RX4) (T := TX4) (N := 6) hx hb hts in_wsX4_leastSum_X4 hown hK hP q_1 hq_1 rfl 4 (by decide) (hts (.fieldLink RX4 34 "ShipOffice$Hiring" "goal" "I") iw_X4_leastSum_2) (fun _ h9 => h9) rfl dX4_leastSum_5 ?_
  refine lv_topi (fun x_2 ex_2 => ?_)
  have hx_2 : 0 ≤ x_2.toInt ∧ x_2.toInt ≤ 80 := iv_of ex_2 (oInv.iv gI to.2 rfl rfl)
  have gx_2 : x_2.toInt = (oI Z o 4).toInt := iv_to ex_2
  clear ex_2
  obtain ⟨q_3, hq_3⟩ := og (cq := cq) tbr.1 (oE_18 tbr.2)
  refine va_lald hx hb hK hP q_3 1 hq_3 rfl (vp_in_iff.mpr (by omega)) dX4_leastSum_8 ?_
  refine lv_topl (fun l_4 el_4 => ?_)
  have hll_4 : l_4.toInt = BG := by rw [el_4, show (x_2 : Int32).toNatClampNeg = nG from (show x_2.toInt.toNat = nG by omega)]; exact hB
  refine lv_ldc2 (v := 1152921504606846976) hx hb hown (hts (.constantLong RX4 22 (1152921504606846976)) (by decide +kernel)) dX4_leastSum_9 ?_
  refine W.lcmp hx hb dX4_leastSum_12 ?_
  refine lv_topi (fun x_5 ex_5 => ?_)
  refine lv_if_ne (tgt := 21) hx hb dX4_leastSum_13 (by decide) (fun c_6 => ?_) (fun c_6 => ?_)
  · have dc_6 := c_ne (a := x_5.toInt) (b := 0) rfl (by decide) c_6
    refine lv_aload_n hx hb dX4_leastSum_21 rfl (lv_at hl 0 rfl) ?_
    refine va_get (D := (dC, dI)) (ci := 4) (v := .ref br) (C := RX4) (T := TX4) (N := 6) hx hb hts in_wsX4_leastSum_X4 hown hK hP q_1 hq_1 rfl 0 (by decide) (hts (.fieldLink RX4 11 "ShipOffice$Hiring" "best" "[J") iw_X4_leastSum_1) (fun _ h9 => h9) (o_rd hbr) dX4_leastSum_22 ?_
    refine lv_aload_n hx hb dX4_leastSum_25 rfl (lv_at hl 0 rfl) ?_
    refine va_get (D := (dC, dI)) (ci := 4) (v := .int (oI Z o 4)) (C := RX4) (T := TX4) (N := 6) hx hb hts in_wsX4_leastSum_X4 hown hK hP q_1 hq_1 rfl 4 (by decide) (hts (.fieldLink RX4 34 "ShipOffice$Hiring" "goal" "I") iw_X4_leastSum_2) (fun _ h9 => h9) rfl dX4_leastSum_26 ?_
    refine lv_topi (fun x_7 ex_7 => ?_)
    have hx_7 : 0 ≤ x_7.toInt ∧ x_7.toInt ≤ 80 := iv_of ex_7 (oInv.iv gI to.2 rfl rfl)
    have gx_7 : x_7.toInt = (oI Z o 4).toInt := iv_to ex_7
    clear ex_7
    refine va_lald hx hb hK hP q_3 1 hq_3 rfl (vp_in_iff.mpr (by omega)) dX4_leastSum_29 ?_
    refine lv_topl (fun l_8 el_8 => ?_)
    have hll_8 : l_8.toInt = BG := by rw [el_8, show (x_7 : Int32).toNatClampNeg = nG from (show x_7.toInt.toNat = nG by omega)]; exact hB
    refine lv_bipush (v := 32) hx hb dX4_leastSum_30 (by decide) ?_
    refine lv_lshr (v := l_8 >>> ((32 : Int32).toInt64 &&& 63)) hx hb dX4_leastSum_32 rfl ?_
    refine lv_l2i (v := (l_8 >>> ((32 : Int32).toInt64 &&& 63) : Int64).toInt32) hx hb dX4_leastSum_33 rfl ?_
    refine lv_topi (fun x_9 ex_9 => ?_)
    exact W.iret (v := x_9) hx hb hr (fun t ht hW => ⟨⟨x_9, (), rfl, (Or.inr ⟨fun q => c_6 (ex_5.trans ((lg_cmp_eq _ _).mpr (Int64.toInt_inj.mp (by rw [hll_4, no_i]; exact q)))), by have hne : BG ≠ 1152921504606846976 := fun q => c_6 (ex_5.trans ((lg_cmp_eq _ _).mpr (Int64.toInt_inj.mp (by rw [hll_4, no_i]; exact q)))); have hs := sr_w (x := l_8); rw [ex_9, li_i (by omega) (by omega), hs, hll_8]⟩), trivial⟩, hS.F ht⟩) hS.2.2 dX4_leastSum_34
  · have dc_6 := c_eq (a := x_5.toInt) (b := 0) rfl (by decide) c_6
    refine lv_bipush (v := (-9)) hx hb dX4_leastSum_16 (by decide) ?_
    refine lv_goto (tgt := 34) hx hb dX4_leastSum_18 (by decide) ?_
    exact W.iret (v := (-9)) hx hb hr (fun t ht hW => ⟨⟨(-9), (), rfl, (Or.inl ⟨by rw [← hll_4, (lg_cmp_eq _ _).mp (ex_5.symm.trans c_6)]; exact no_i, by decide⟩), trivial⟩, hS.F ht⟩) hS.2.2 dX4_leastSum_34
set_option maxHeartbeats 4000000 in
set_option maxRecDepth 100000 in
theorem c_X4_hand_c (l : Launch) (dC : Nat → ClassId) (dI : Nat → Nat → Nat) (sz : Nat) (cq : Nat → ClassId) (Z : oS) (gI : oInv Z) (o : Nat) (to : oty Z o 4) (x1 : Int32) (hx1 : 0 ≤ x1.toInt ∧ x1.toInt ≤ 7) (br of9 fr : Nat) (hbr : oP Z o 0 = some br) (hof : oP Z o 1 = some of9) (hfr : oP Z o 3 = some fr) (nG : Nat) (BG : Int) (hgo : (oI Z o 4).toInt = nG) (hn : nG < 81) (hB : (oJ Z br nG).toInt = BG) (hBb : BG = 1152921504606846976 ∨ (0 ≤ BG ∧ BG ≤ 844424930131968)) (HG : Nat) (hH : (oI Z o 5).toInt = HG) (hH8 : HG ≤ 8) : Met l yX4_hand wsX4_hand ({ frames := 1, cells := 0, slots := 0, locals := 20 }) (va_Pc [.ref o, .int x1] (pcW (dC, dI) (oT cq) (oW cq Z) sz)) (va_Qi (fun (r : Int32) (u : Unit) => (((BG = 1152921504606846976 ∨ (HG : Int) ≤ x1.toInt) ∧ r.toInt = -9) ∨ (BG ≠ 1152921504606846976 ∧ x1.toInt < (HG : Int) ∧ ((BG / 16 ^ (7 - x1.toNatClampNeg) % 16 < 12 ∧ r.toInt = (oI Z of9 (BG / 16 ^ (7 - x1.toNatClampNeg) % 16).toNat).toInt) ∨ (12 ≤ BG / 16 ^ (7 - x1.toNatClampNeg) % 16 ∧ r.toInt = -9))))) (fun _ _ => True) (va_A [] sz)) 0 0 (va_A [] sz) := by
  refine Met.ofW (cc := cX4_hand) (maxL := 3) (ret := (some .int)) (by decide) rfl ?_
  intro p e s m args below meth c s₁ B hml hv
  obtain ⟨rfl, hsz, hP, hK, hD0⟩ := hv
  have hx := B.exec
  have hb := B.bytes
  have hr := B.returns
  have hts := atoms_spec (ws := wsX4_hand) B.pre
  have hown : s.vm.findClass RX4 = some m.cls := findClass_of_methodNamed B.named
  have hlocks := B.notSynchronized
  subst hsz
  have hD := hD0
  generalize hAe : va_A [] s.heap.size = A at ⊢
  have hA : ∀ q : Nat, s.heap.size ≤ q → A q := fun q h => by rw [← hAe]; exact Or.inr h
  have hS : va_S A s.heap s.heap [] := va_S.rf
  have hP : va_P (dC, dI) vwCl (oW cq Z) s.heap := hP
  have hl := lv_entry ([.ref o, .int x1]) (n := 3) (Nat.le_of_ble_eq_true rfl)
  rw [lg_entry_eq]
  generalize (lg_sl ([.ref o, .int x1]) ++ List.replicate (3 - (lg_sl ([.ref o, .int x1])).length) Slot.unset).toArray = ls at hl ⊢
  have hl : lv_has ls 3 [(0, .ref o), (1, .int x1)] := hl
  have tbr : oty Z br 18 := oInv.rd gI to.2 hbr rfl rfl
  have tof : oty Z of9 62 := oInv.rd gI to.2 hof rfl rfl
  have tfr : oty Z fr 61 := oInv.rd gI to.2 hfr rfl rfl
  refine lv_aload_n hx hb dX4_hand_0 rfl (lv_at hl 0 rfl) ?_
  obtain ⟨q_1, hq_1⟩ := og (cq := cq) to.1 (oE_4 to.2)
  refine va_get (D := (dC, dI)) (ci := 4) (v := .ref br) (C := RX4) (T := TX4) (N := 6) hx hb hts in_wsX4_hand_X4 hown hK hP q_1 hq_1 rfl 0 (by decide) (hts (.fieldLink RX4 11 "ShipOffice$Hiring" "best" "[J") iw_X4_hand_1) (fun _ h9 => h9) (o_rd hbr) dX4_hand_1 ?_
  refine lv_aload_n hx hb dX4_hand_4 rfl (lv_at hl 0 rfl) ?_
  refine va_get (D := (dC, dI)) (ci := 4) (v := .int (oI Z o 4)) (C := RX4) (T := TX4) (N := 6) hx hb hts in_wsX4_hand_X4 hown hK hP q_1 hq_1 rfl 4 (by decide) (hts (.fieldLink RX4 34 "ShipOffice$Hiring" "goal" "I") iw_X4_hand_2) (fun _ h9 => h9) rfl dX4_hand_5 ?_
  refine lv_topi (fun x_2 ex_2 => ?_)
  have hx_2 : 0 ≤ x_2.toInt ∧ x_2.toInt ≤ 80 := iv_of ex_2 (oInv.iv gI to.2 rfl rfl)
  have gx_2 : x_2.toInt = (oI Z o 4).toInt := iv_to ex_2
  clear ex_2
  obtain ⟨q_3, hq_3⟩ := og (cq := cq) tbr.1 (oE_18 tbr.2)
  refine va_lald hx hb hK hP q_3 1 hq_3 rfl (vp_in_iff.mpr (by omega)) dX4_hand_8 ?_
  refine lv_topl (fun l_4 el_4 => ?_)
  have hll_4 : l_4.toInt = BG := by rw [el_4, show (x_2 : Int32).toNatClampNeg = nG from (show x_2.toInt.toNat = nG by omega)]; exact hB
  refine lv_ldc2 (v := 1152921504606846976) hx hb hown (hts (.constantLong RX4 22 (1152921504606846976)) (by decide +kernel)) dX4_hand_9 ?_
  refine W.lcmp hx hb dX4_hand_12 ?_
  refine lv_topi (fun x_5 ex_5 => ?_)
  refine lv_if_eq (tgt := 24) hx hb dX4_hand_13 (by decide) (fun c_6 => ?_) (fun c_6 => ?_)
  · have dc_6 := c_eq (a := x_5.toInt) (b := 0) rfl (by decide) c_6
    refine lv_bipush (v := (-9)) hx hb dX4_hand_24 (by decide) ?_
    exact W.iret (v := (-9)) hx hb hr (fun t ht hW => ⟨⟨(-9), (), rfl, (Or.inl ⟨Or.inl (by rw [← hll_4, (lg_cmp_eq _ _).mp (ex_5.symm.trans c_6)]; exact no_i), by decide⟩), trivial⟩, hS.F ht⟩) hS.2.2 dX4_hand_26
  · have dc_6 := c_ne (a := x_5.toInt) (b := 0) rfl (by decide) c_6
    refine lv_iload_n hx hb dX4_hand_16 rfl (lv_at hl 1 rfl) ?_
    refine lv_aload_n hx hb dX4_hand_17 rfl (lv_at hl 0 rfl) ?_
    refine va_get (D := (dC, dI)) (ci := 4) (v := .int (oI Z o 5)) (C := RX4) (T := TX4) (N := 6) hx hb hts in_wsX4_hand_X4 hown hK hP q_1 hq_1 rfl 5 (by decide) (hts (.fieldLink RX4 37 "ShipOffice$Hiring" "places" "I") iw_X4_hand_3) (fun _ h9 => h9) rfl dX4_hand_18 ?_
    refine lv_topi (fun x_7 ex_7 => ?_)
    have gx_7 : x_7.toInt = (oI Z o 5).toInt := iv_to ex_7
    clear ex_7
    refine lv_icmp_lt (tgt := 27) hx hb dX4_hand_21 (by decide) (fun c_8 => ?_) (fun c_8 => ?_)
    · have dc_8 := c_lt (a := x1.toInt) (b := x_7.toInt) rfl rfl c_8
      refine lv_aload_n hx hb dX4_hand_27 rfl (lv_at hl 0 rfl) ?_
      refine va_get (D := (dC, dI)) (ci := 4) (v := .ref br) (C := RX4) (T := TX4) (N := 6) hx hb hts in_wsX4_hand_X4 hown hK hP q_1 hq_1 rfl 0 (by decide) (hts (.fieldLink RX4 11 "ShipOffice$Hiring" "best" "[J") iw_X4_hand_1) (fun _ h9 => h9) (o_rd hbr) dX4_hand_28 ?_
      refine lv_aload_n hx hb dX4_hand_31 rfl (lv_at hl 0 rfl) ?_
      refine va_get (D := (dC, dI)) (ci := 4) (v := .int (oI Z o 4)) (C := RX4) (T := TX4) (N := 6) hx hb hts in_wsX4_hand_X4 hown hK hP q_1 hq_1 rfl 4 (by decide) (hts (.fieldLink RX4 34 "ShipOffice$Hiring" "goal" "I") iw_X4_hand_2) (fun _ h9 => h9) rfl dX4_hand_32 ?_
      refine lv_topi (fun x_9 ex_9 => ?_)
      have hx_9 : 0 ≤ x_9.toInt ∧ x_9.toInt ≤ 80 := iv_of ex_9 (oInv.iv gI to.2 rfl rfl)
      have gx_9 : x_9.toInt = (oI Z o 4).toInt := iv_to ex_9
      clear ex_9
      refine va_lald hx hb hK hP q_3 1 hq_3 rfl (vp_in_iff.mpr (by omega)) dX4_hand_35 ?_
      refine lv_topl (fun l_10 el_10 => ?_)
      have hll_10 : l_10.toInt = BG := by rw [el_10, show (x_9 : Int32).toNatClampNeg = nG from (show x_9.toInt.toNat = nG by omega)]; exact hB
      refine lv_iload_n hx hb dX4_hand_36 rfl (lv_at hl 1 rfl) ?_
      have hFc : ∀ q, va_A [] s.heap.size q → A q := pu_free hS hA
      have hPc := hP.sub (ws' := []) [] rfl
      have hDc := hD.sub (ws' := []) [] (by decide) rfl
      have hKc := hK.sub (tys' := []) [] rfl
      refine va_calli (va_runS (As := [.int x1]) (rest := [.long l_10]) ⟨hx, hb, hml, hown, hts⟩ (c_X4_handShift_c l dC dI s.heap.size  x1 (by omega)) (va_cwS 1 hts gX4_hand_X4_handShift rfl rfl rfl (by decide +kernel) ⟨(Nat.le_of_ble_eq_true rfl), (Nat.le_of_ble_eq_true rfl)⟩) (pr_S hPc hKc hDc) rfl rfl hl.1 rfl (lv_room (Nat.le_of_ble_eq_true rfl)) dX4_hand_37 ⟨(Nat.le_of_ble_eq_true rfl), (Nat.le_of_ble_eq_true rfl)⟩) hS (fun q _ h => hFc q h) hFc (fun r_12 u t H locs ht hvm w_11 hB hz1 hk1 hS => ?_)
      have hP := pu_keep hP hk1
      clear hk1 hz1 hvm hB ht hFc hPc hDc hKc
      have hx_13 := w_11
      refine lv_lshr (v := l_10 >>> ((r_12 : Int32).toInt64 &&& 63)) hx hb dX4_hand_40 rfl ?_
      refine lv_ldc2 (v := 15) hx hb hown (hts (.constantLong RX4 69 (15)) (by decide +kernel)) dX4_hand_41 ?_
      refine lv_land hx hb dX4_hand_44 ?_
      refine lv_l2i (v := ((l_10 >>> ((r_12 : Int32).toInt64 &&& 63)) &&& 15 : Int64).toInt32) hx hb dX4_hand_45 rfl ?_
      refine lv_topi (fun x_14 ex_14 => ?_)
      have hx_14 : 0 ≤ x_14.toInt ∧ x_14.toInt ≤ 15 := iv_of ex_14 (l15 _)
      refine lv_istore_n (lv' := [(2, .int x_14), (0, .ref o), (1, .int x1)]) hx hb dX4_hand_46 rfl hl (by decide) rfl (fun ls hl => ?_)
      refine lv_iload_n hx hb dX4_hand_47 rfl (lv_at hl 0 rfl) ?_
      refine lv_bipush (v := 12) hx hb dX4_hand_48 (by decide) ?_
      refine lv_icmp_ge (tgt := 62) hx hb dX4_hand_50 (by decide) (fun c_15 => ?_) (fun c_15 => ?_)
      · have dc_15 := c_le (a := 12) (b := x_14.toInt) (by decide) rfl c_15
        refine lv_bipush (v := (-9)) hx hb dX4_hand_62 (by decide) ?_
        exact W.iret (v := (-9)) hx hb hr (fun t ht hW => ⟨⟨(-9), (), rfl, (by have hne : BG ≠ 1152921504606846976 := fun q => c_6 (ex_5.trans ((lg_cmp_eq _ _).mpr (Int64.toInt_inj.mp (by rw [hll_4, no_i]; exact q)))); have hs9 := sr_p (x := l_10) (s := r_12) (p := x1.toNatClampNeg) (show x1.toInt.toNat < 8 by omega) (by have q := tn_i (x := x1) (by omega); omega); have h09 : 0 ≤ BG / 16 ^ (7 - x1.toNatClampNeg) := Int.ediv_nonneg (by omega) (Int.le_of_lt (p16 _)); rw [hll_10] at hs9; have ha9 := an_i (x := l_10 >>> ((r_12 : Int32).toInt64 &&& 63)) (by rw [hs9]; exact h09); rw [hs9] at ha9; have hm0 := Int.emod_nonneg (BG / 16 ^ (7 - x1.toNatClampNeg)) (show (16 : Int) ≠ 0 by decide); have hm1 := Int.emod_lt_of_pos (BG / 16 ^ (7 - x1.toNatClampNeg)) (show (0 : Int) < 16 by decide); have hq9 : x_14.toInt = BG / 16 ^ (7 - x1.toNatClampNeg) % 16 := (by rw [ex_14, li_i (by rw [ha9]; omega) (by rw [ha9]; omega), ha9]); exact Or.inr ⟨hne, by omega, Or.inr ⟨by omega, by decide⟩⟩), trivial⟩, hS.F ht⟩) hS.2.2 dX4_hand_64
      · have dc_15 := c_nle (a := 12) (b := x_14.toInt) (by decide) rfl c_15
        refine lv_aload_n hx hb dX4_hand_53 rfl (lv_at hl 1 rfl) ?_
        refine va_get (D := (dC, dI)) (ci := 4) (v := .ref of9) (C := RX4) (T := TX4) (N := 6) hx hb hts in_wsX4_hand_X4 hown hK hP q_1 hq_1 rfl 1 (by decide) (hts (.fieldLink RX4 15 "ShipOffice$Hiring" "offers" "[I") iw_X4_hand_4) (fun _ h9 => h9) (o_rd hof) dX4_hand_54 ?_
        refine lv_iload_n hx hb dX4_hand_57 rfl (lv_at hl 0 rfl) ?_
        obtain ⟨q_16, hq_16⟩ := og (cq := cq) tof.1 (oE_62 tof.2)
        refine va_iald hx hb hK hP q_16 0 hq_16 rfl (vp_in_iff.mpr (by omega)) dX4_hand_58 ?_
        refine lv_topi (fun x_17 ex_17 => ?_)
        have gwx_17 : x_17.toInt = (oI Z of9 (x_14 : Int32).toNatClampNeg).toInt := iv_to ex_17
        refine lv_goto (tgt := 64) hx hb dX4_hand_59 (by decide) ?_
        exact W.iret (v := x_17) hx hb hr (fun t ht hW => ⟨⟨x_17, (), rfl, (by have hne : BG ≠ 1152921504606846976 := fun q => c_6 (ex_5.trans ((lg_cmp_eq _ _).mpr (Int64.toInt_inj.mp (by rw [hll_4, no_i]; exact q)))); have hs9 := sr_p (x := l_10) (s := r_12) (p := x1.toNatClampNeg) (show x1.toInt.toNat < 8 by omega) (by have q := tn_i (x := x1) (by omega); omega); have h09 : 0 ≤ BG / 16 ^ (7 - x1.toNatClampNeg) := Int.ediv_nonneg (by omega) (Int.le_of_lt (p16 _)); rw [hll_10] at hs9; have ha9 := an_i (x := l_10 >>> ((r_12 : Int32).toInt64 &&& 63)) (by rw [hs9]; exact h09); rw [hs9] at ha9; have hm0 := Int.emod_nonneg (BG / 16 ^ (7 - x1.toNatClampNeg)) (show (16 : Int) ≠ 0 by decide); have hm1 := Int.emod_lt_of_pos (BG / 16 ^ (7 - x1.toNatClampNeg)) (show (0 : Int) < 16 by decide); have hq9 : x_14.toInt = BG / 16 ^ (7 - x1.toNatClampNeg) % 16 := (by rw [ex_14, li_i (by rw [ha9]; omega) (by rw [ha9]; omega), ha9]); exact Or.inr ⟨hne, by omega, Or.inl ⟨by omega, by rw [gwx_17, show (x_14 : Int32).toNatClampNeg = (BG / 16 ^ (7 - x1.toNatClampNeg) % 16).toNat from (show x_14.toInt.toNat = _ by rw [hq9])]⟩⟩), trivial⟩, hS.F ht⟩) hS.2.2 dX4_hand_64
    · have dc_8 := c_nlt (a := x1.toInt) (b := x_7.toInt) rfl rfl c_8
      refine lv_bipush (v := (-9)) hx hb dX4_hand_24 (by decide) ?_
      exact W.iret (v := (-9)) hx hb hr (fun t ht hW => ⟨⟨(-9), (), rfl, (Or.inl ⟨Or.inr (by omega), by decide⟩), trivial⟩, hS.F ht⟩) hS.2.2 dX4_hand_26
