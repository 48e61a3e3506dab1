


theorem Mn_z {n k c : Nat} {W : Nat → Nat → Int} {x : Int} (hW : ∀ k r, 0 ≤ W k r ∧ W k r ≤ 9999) (hk : k ≤ 12) (h : Mn (Way n W k c) x) (e : x = 1152921504606846976) : ∀ y, ¬ Way n W k c y := by
  rcases Mn_no (fun k r => (hW k r).2) hk h with g | g
  · exact g.2
  · omega
theorem Mn_y {n k c : Nat} {W : Nat → Nat → Int} {x : Int} (hW : ∀ k r, 0 ≤ W k r ∧ W k r ≤ 9999) (hk : k ≤ 12) (h : Mn (Way n W k c) x) (e : x ≠ 1152921504606846976) : (0 ≤ x ∧ x ≤ 844424930131968) ∧ Way n W k c x ∧ ∀ y, Way n W k c y → x ≤ y := by
  rcases Mn_no (fun k r => (hW k r).2) hk h with g | g
  · exact absurd g.1 e
  · exact ⟨⟨g.1, g.2.1⟩, g.2.2⟩
set_option maxHeartbeats 4000000 in
set_option maxRecDepth 100000 in
theorem c_X4_offer_c (l : Launch) (dC : Nat → ClassId) (dI : Nat → Nat → Nat) (sz : Nat) (tL tS tG : Nat) (cq : Nat → ClassId) (Z : oS) (gI : oInv Z) (o : Nat) (to : oty Z o 4) (a1 : Nat) (ta1 : oty Z a1 6) (br of9 fr : Nat) (hbr : oP Z o 0 = some br) (hof : oP Z o 1 = some of9) (hfr : oP Z o 3 = some fr) (wr : Nat) (hwr : oP Z a1 4 = some wr) (nG kG : Nat) (WG : Nat → Nat → Int) (hW : ∀ k r, 0 ≤ WG k r ∧ WG k r ≤ 9999) (hgo : (oI Z o 4).toInt = nG) (hn : nG < 81) (hk : (oI Z o 2).toInt = kG) (hk12 : kG ≤ 12) (hfp : ∀ r, r < 4 → (oI Z fr r).toInt = (fpl nG r : Int)) (hwg : ∀ r, r < 4 → (oI Z wr r).toInt = WG kG r) (hB : ∀ c, c < 81 → Mn (Way nG WG kG c) (oJ Z br c).toInt) : Met l yX4_offer wsX4_offer ({ frames := 2, cells := 0, slots := 0, locals := 50 }) (va_Pc [.ref o, .ref a1] (pcO (dC, dI) (oT cq) (oW cq Z) sz tL tS tG (oW cq Z))) (va_Qv (fun (u : oS) => oInv u ∧ oX [402, 2018, 2062] Z u ∧ ((kG = 12 ∧ u = Z) ∨ (kG < 12 ∧ (oI u o 2).toInt = (kG : Int) + 1 ∧ (∀ c, c < 81 → Mn (Way nG WG (kG + 1) c) (oJ u br c).toInt) ∧ oI u of9 = upd (oI Z of9) kG (oI Z a1 0)))) (fun u t => va_P (dC, dI) vwCl (oW cq u) t.heap ∧ va_K (dC, dI) vwCl (oT cq) t ∧ va_D (va_A (oW cq Z) sz) (oW cq u)) (va_A (oW cq Z) sz)) 0 0 (va_A (oW cq Z) sz) := by
  refine Met.ofW (cc := cX4_offer) (maxL := 3) (ret := none) (by decide) rfl ?_
  intro p e s m args below meth c s₁ B hml hv
  obtain ⟨rfl, ⟨hsz, hP, hK, hD0⟩, hZ⟩ := hv
  have hx := B.exec
  have hb := B.bytes
  have hr := B.returns
  have hts := atoms_spec (ws := wsX4_offer) B.pre
  have hown : s.vm.findClass RX4 = some m.cls := findClass_of_methodNamed B.named
  have hlocks := B.notSynchronized
  subst hsz
  have hD := hD0.self (sz := s.heap.size)
  generalize hAe : va_A (oW cq Z) s.heap.size = A at hD hZ ⊢
  have hA : ∀ q : Nat, s.heap.size ≤ q → A q := fun q h => by rw [← hAe]; exact Or.inr h
  have hS : va_S A s.heap s.heap [] := va_S.rf
  have hP : va_P (dC, dI) vwCl (oW cq Z) s.heap := hP
  have hl := lv_entry ([.ref o, .ref a1]) (n := 3) (Nat.le_of_ble_eq_true rfl)
  rw [lg_entry_eq]
  generalize (lg_sl ([.ref o, .ref a1]) ++ List.replicate (3 - (lg_sl ([.ref o, .ref a1])).length) Slot.unset).toArray = ls at hl ⊢
  have hl : lv_has ls 3 [(0, .ref o), (1, .ref a1)] := hl
  have tbr : oty Z br 18 := oInv.rd gI to.2 hbr rfl rfl
  have tof : oty Z of9 62 := oInv.rd gI to.2 hof rfl rfl
  have tfr : oty Z fr 61 := oInv.rd gI to.2 hfr rfl rfl
  have twr : oty Z wr 104 := oInv.rd gI ta1.2 hwr rfl rfl
  refine lv_aload_n hx hb dX4_offer_0 rfl (lv_at hl 0 rfl) ?_
  obtain ⟨q_1, hq_1⟩ := og (cq := cq) to.1 (oE_4 to.2)
  refine va_get (D := (dC, dI)) (ci := 4) (v := .int (oI Z o 2)) (C := RX4) (T := TX4) (N := 6) hx hb hts in_wsX4_offer_X4 hown hK hP q_1 hq_1 rfl 2 (by decide) (hts (.fieldLink RX4 30 "ShipOffice$Hiring" "offerCount" "I") iw_X4_offer_1) (fun _ h9 => h9) rfl dX4_offer_1 ?_
  refine lv_topi (fun x_2 ex_2 => ?_)
  have hx_2 : 0 ≤ x_2.toInt ∧ x_2.toInt ≤ 12 := iv_of ex_2 (oInv.iv gI to.2 rfl rfl)
  have gx_2 : x_2.toInt = (oI Z o 2).toInt := iv_to ex_2
  clear ex_2
  refine lv_bipush (v := 12) hx hb dX4_offer_4 (by decide) ?_
  refine lv_icmp_lt (tgt := 10) hx hb dX4_offer_6 (by decide) (fun c_3 => ?_) (fun c_3 => ?_)
  · have dc_3 := c_lt (a := x_2.toInt) (b := 12) rfl (by decide) c_3
    refine lv_bipush (v := 80) hx hb dX4_offer_10 (by decide) ?_
    refine lv_istore_n (lv' := [(2, .int 80), (0, .ref o), (1, .ref a1)]) hx hb dX4_offer_12 rfl hl (by decide) rfl (fun ls hl => ?_)
    have cut_4 : ∀ (n : Nat) (y_5 : Int32) (S_6 : oS) (H : Heap) (locs : List Loc) (ls : Array Slot), y_5.toInt + 1 ≤ (n : Int) → (-1 ≤ y_5.toInt ∧ y_5.toInt ≤ 80) → oX [2018] Z S_6 → (∀ c, c < 81 → Mn (WayF nG WG kG y_5.toInt c) (oJ S_6 br c).toInt) → oInv S_6 → oX [402, 2018, 2062] Z S_6 → va_P (dC, dI) vwCl (oW cq S_6) H → va_D A (oW cq S_6) → va_S A s.heap H locs → oP S_6 a1 4 = some wr → oP S_6 o 0 = some br → oP S_6 o 1 = some of9 → oP S_6 o 3 = some fr → lv_has ls 3 [(2, .int y_5), (0, .ref o), (1, .ref a1)] → W p l e (headSpec wsX4_offer { frames := 2, cells := 0, slots := 0, locals := 50 }).room s m #[Value.ref o, Value.ref a1] below meth c H locs 0 0 (MQ below (va_Qv (fun (u : oS) => oInv u ∧ oX [402, 2018, 2062] Z u ∧ ((kG = 12 ∧ u = Z) ∨ (kG < 12 ∧ (oI u o 2).toInt = (kG : Int) + 1 ∧ (∀ c, c < 81 → Mn (Way nG WG (kG + 1) c) (oJ u br c).toInt) ∧ oI u of9 = upd (oI Z of9) kG (oI Z a1 0)))) (fun u t => va_P (dC, dI) vwCl (oW cq u) t.heap ∧ va_K (dC, dI) vwCl (oT cq) t ∧ va_D A (oW cq u)) A) #[Value.ref o, Value.ref a1] s 0 0 A) (F0 m 13 ls []) := by
      intro n
      induction n using Nat.strongRecOn with
      | ind n ih =>
        intro y_5 S_6 H locs ls hm hy_5 hq0_cut_4 hq1_cut_4 hIS_6 XS_6 hP hD hS pk_7 pk_8 pk_9 pk_10 hl
        have YS_6 : oX [402, 2018, 2062] Z S_6 := oX.st oX.rf XS_6 (fun _ q => q)
        have g_11 : (oI S_6 o 2).toInt = (oI Z o 2).toInt := by rw [oX.i hq0_cut_4 to (by decide)]
        have g_12 : (oI S_6 o 4).toInt = (oI Z o 4).toInt := by rw [oX.i hq0_cut_4 to (by decide)]
        refine lv_iload_n hx hb dX4_offer_13 rfl (lv_at hl 0 rfl) ?_
        refine lv_if_lt (tgt := 42) hx hb dX4_offer_14 (by decide) (fun c_13 => ?_) (fun c_13 => ?_)
        · have dc_13 := c_lt (a := y_5.toInt) (b := 0) rfl (by decide) c_13
          refine lv_aload_n hx hb dX4_offer_42 rfl (lv_at hl 1 rfl) ?_
          have t_14 : oty S_6 o 4 := (oX.ty XS_6 to)
          obtain ⟨q_15, hq_15⟩ := og (cq := cq) t_14.1 (oE_4 t_14.2)
          refine va_get (D := (dC, dI)) (ci := 4) (v := .ref of9) (C := RX4) (T := TX4) (N := 6) hx hb hts in_wsX4_offer_X4 hown hK hP q_15 hq_15 rfl 1 (by decide) (hts (.fieldLink RX4 15 "ShipOffice$Hiring" "offers" "[I") iw_X4_offer_2) (fun _ h9 => h9) (o_rd pk_9) dX4_offer_43 ?_
          refine lv_aload_n hx hb dX4_offer_46 rfl (lv_at hl 1 rfl) ?_
          refine va_get (D := (dC, dI)) (ci := 4) (v := .int (oI S_6 o 2)) (C := RX4) (T := TX4) (N := 6) hx hb hts in_wsX4_offer_X4 hown hK hP q_15 hq_15 rfl 2 (by decide) (hts (.fieldLink RX4 30 "ShipOffice$Hiring" "offerCount" "I") iw_X4_offer_1) (fun _ h9 => h9) rfl dX4_offer_47 ?_
          refine lv_topi (fun x_16 ex_16 => ?_)
          have hx_16 : 0 ≤ x_16.toInt ∧ x_16.toInt ≤ 12 := iv_of ex_16 (oInv.iv hIS_6 t_14.2 rfl rfl)
          have gx_16 : x_16.toInt = (oI S_6 o 2).toInt := iv_to ex_16
          clear ex_16
          refine lv_aload_n hx hb dX4_offer_50 rfl (lv_at hl 2 rfl) ?_
          have t_17 : oty S_6 a1 6 := (oX.ty XS_6 ta1)
          obtain ⟨q_18, hq_18⟩ := og (cq := cq) t_17.1 (oE_6 t_17.2)
          refine va_get (D := (dC, dI)) (ci := 6) (v := .int (oI S_6 a1 0)) (C := RX6) (T := TX6) (N := 6) hx hb hts in_wsX4_offer_X6 hown hK hP q_18 hq_18 rfl 0 (by decide) (hts (.fieldLink RX4 51 "ShipOffice$Man" "number" "I") iw_X4_offer_3) (fun _ h9 => h9) rfl dX4_offer_51 ?_
          refine lv_topi (fun x_19 ex_19 => ?_)
          have gx_19 : x_19.toInt = (oI S_6 a1 0).toInt := iv_to ex_19
          clear ex_19
          have t_20 : oty S_6 of9 62 := (oX.ty XS_6 tof)
          obtain ⟨q_21, hq_21⟩ := og (cq := cq) t_20.1 (oE_62 t_20.2)
          refine va_iast hx hb hK hP hD hS q_21 0 hq_21 rfl (vp_in_iff.mpr (by omega)) dX4_offer_54 (fun H locs hP1 hD1 hS => ?_)
          obtain ⟨S_22, eS_22⟩ : ∃ zq, zq = setI S_6 of9 (x_16 : Int32).toNatClampNeg x_19 := ⟨_, rfl⟩
          have hP : va_P (dC, dI) vwCl (oW cq S_22) H := by rw [eS_22]; exact cP (oset t_20.1 hq_21 hD rfl (he_62 t_20.2) neI) hP1
          have hD : va_D A (oW cq S_22) := by rw [eS_22]; exact cD (oset t_20.1 hq_21 hD rfl (he_62 t_20.2) neI) hD1
          clear hP1 hD1
          have hIS_22 : oInv S_22 := by rw [eS_22]; exact oInv.A (k := 62) hIS_6 t_20.2 (by decide)
          have XS_22 : oX [2062] S_6 S_22 := by rw [eS_22]; exact oX.I (k := 62) (key := 2062) t_20.2 rfl (List.mem_singleton.mpr rfl)
          have pk_23 : oP S_22 a1 4 = some wr := by rw [eS_22]; exact pk_7
          have pk_24 : oP S_22 o 0 = some br := by rw [eS_22]; exact pk_8
          have pk_25 : oP S_22 o 1 = some of9 := by rw [eS_22]; exact pk_9
          have pk_26 : oP S_22 o 3 = some fr := by rw [eS_22]; exact pk_10
          have X_27 : oX [402, 2018, 2062] Z S_22 := oX.st YS_6 XS_22 (by decide)
          have g_28 : (oI S_22 a1 0).toInt = (oI S_6 a1 0).toInt := by rw [eS_22, setI_oth (ty_ne t_17 t_20 (by decide))]
          have g_29 : (oI S_22 o 2).toInt = (oI S_6 o 2).toInt := by rw [eS_22, setI_oth (ty_ne t_14 t_20 (by decide))]
          have g_30 : (oI S_22 o 4).toInt = (oI S_6 o 4).toInt := by rw [eS_22, setI_oth (ty_ne t_14 t_20 (by decide))]
          refine lv_aload_n hx hb dX4_offer_55 rfl (lv_at hl 1 rfl) ?_
          refine lv_dup hx hb dX4_offer_56 rfl ?_
          have t_31 : oty S_22 o 4 := (oX.ty XS_22 t_14)
          obtain ⟨q_32, hq_32⟩ := og (cq := cq) t_31.1 (oE_4 t_31.2)
          refine va_get (D := (dC, dI)) (ci := 4) (v := .int (oI S_22 o 2)) (C := RX4) (T := TX4) (N := 6) hx hb hts in_wsX4_offer_X4 hown hK hP q_32 hq_32 rfl 2 (by decide) (hts (.fieldLink RX4 30 "ShipOffice$Hiring" "offerCount" "I") iw_X4_offer_1) (fun _ h9 => h9) rfl dX4_offer_57 ?_
          refine lv_topi (fun x_33 ex_33 => ?_)
          have hx_33 : 0 ≤ x_33.toInt ∧ x_33.toInt ≤ 12 := iv_of ex_33 (oInv.iv hIS_22 t_31.2 rfl rfl)
          have gx_33 : x_33.toInt = (oI S_22 o 2).toInt := iv_to ex_33
          clear ex_33
          refine lv_iconst (v := 1) hx hb dX4_offer_60 (by decide) ?_
          refine lv_iadd hx hb dX4_offer_61 ?_
          refine lv_topi (fun x_34 ex_34 => ?_)
          have hx_34 : x_34.toInt = x_33.toInt + 1 := (iv_to ex_34).trans (ad_i rfl (by decide) (by omega) (by omega))
          clear ex_34
          refine va_put (D := (dC, dI)) (ci := 4) (v := .int x_34) (ty := .int) (C := RX4) (T := TX4) (N := 6) hx hb hts in_wsX4_offer_X4 tyX4 tyX4_ok nmX4 hown hK hP hD hS q_32 hq_32 rfl 2 (by decide) (hts (.fieldLink RX4 30 "ShipOffice$Hiring" "offerCount" "I") iw_X4_offer_1) (fun _ h9 => h9) rfl (by decide +kernel) rfl rfl (Nat.le_of_ble_eq_true rfl) dX4_offer_62 (fun H locs hP1 hD1 hS => ?_)
          obtain ⟨S_35, eS_35⟩ : ∃ zq, zq = setI S_22 o 2 x_34 := ⟨_, rfl⟩
          have hP : va_P (dC, dI) vwCl (oW cq S_35) H := by rw [eS_35]; exact cP (oset t_31.1 hq_32 hD rfl (he_4_2 t_31.2) neI) hP1
          have hD : va_D A (oW cq S_35) := by rw [eS_35]; exact cD (oset t_31.1 hq_32 hD rfl (he_4_2 t_31.2) neI) hD1
          clear hP1 hD1
          have hIS_35 : oInv S_35 := by rw [eS_35]; exact oInv.I0 (k := 4) (lo := 0) (hi := 12) hIS_22 t_31.2 (by decide) rfl rfl rfl (by omega)
          have XS_35 : oX [402] S_22 S_35 := by rw [eS_35]; exact oX.I (k := 4) (key := 402) t_31.2 rfl (List.mem_singleton.mpr rfl)
          have pk_36 : oP S_35 a1 4 = some wr := by rw [eS_35]; exact pk_23
          have pk_37 : oP S_35 o 0 = some br := by rw [eS_35]; exact pk_24
          have pk_38 : oP S_35 o 1 = some of9 := by rw [eS_35]; exact pk_25
          have pk_39 : oP S_35 o 3 = some fr := by rw [eS_35]; exact pk_26
          have X_40 : oX [402, 2018, 2062] Z S_35 := oX.st X_27 XS_35 (by decide)
          have g_41 : (oI S_35 a1 0).toInt = (oI S_22 a1 0).toInt := by rw [eS_35, setI_oth (ty_ne (oX.ty XS_22 t_17) t_31 (by decide))]
          have g_42 : (oI S_35 o 2).toInt = x_34.toInt := by rw [eS_35, setI_same]
          have g_43 : (oI S_35 o 4).toInt = (oI S_22 o 4).toInt := by rw [eS_35, setI_ne (by decide)]
          exact W.vret hx hb hr (fun t ht hW => ⟨⟨S_35, rfl, ⟨hIS_35, X_40, (Or.inr ⟨by omega, by omega, (fun c hc => by rw [show (oJ S_35 br c) = oJ S_6 br c from oX_j (W := [402, 2062]) (oX.st (oX.st oX.rf XS_22 (by decide)) XS_35 (by decide)) (oX.ty XS_6 tbr) (nkw (by decide) (by decide) (by decide))]; exact WF_e (by have hq9 := hq1_cut_4 c hc; rw [show y_5.toInt = -1 by omega] at hq9; exact hq9)), (by rw [show oI S_35 of9 = oI S_22 of9 from oX.f (W := [402]) (oX.st oX.rf XS_35 (by decide)) (oX.ty XS_22 t_20) (fun _ => nkw (by decide) (by decide) (by decide)), eS_22, setI_fun, show oI S_6 of9 = oI Z of9 from oX.f (W := [2018]) hq0_cut_4 tof (fun _ => nkw (by decide) (by decide) (by decide)), show (x_16 : Int32).toNatClampNeg = kG from (show x_16.toInt.toNat = kG by omega), show x_19 = oI Z a1 0 from Int32.toInt_inj.mp (by rw [← oX.i (W := [2018]) (i := 0) hq0_cut_4 ta1 (by decide)]; omega)])⟩)⟩, ⟨by rw [ht]; exact hP, va_K.moved hW.alike hK, hD⟩⟩, hS.F ht⟩) hS.2.2 dX4_offer_65
        · have dc_13 := c_nlt (a := y_5.toInt) (b := 0) rfl (by decide) c_13
          refine lv_aload_n hx hb dX4_offer_17 rfl (lv_at hl 1 rfl) ?_
          have t_44 : oty S_6 o 4 := (oX.ty XS_6 to)
          obtain ⟨q_45, hq_45⟩ := og (cq := cq) t_44.1 (oE_4 t_44.2)
          refine va_get (D := (dC, dI)) (ci := 4) (v := .ref br) (C := RX4) (T := TX4) (N := 6) hx hb hts in_wsX4_offer_X4 hown hK hP q_45 hq_45 rfl 0 (by decide) (hts (.fieldLink RX4 11 "ShipOffice$Hiring" "best" "[J") iw_X4_offer_4) (fun _ h9 => h9) (o_rd pk_8) dX4_offer_18 ?_
          refine lv_iload_n hx hb dX4_offer_21 rfl (lv_at hl 0 rfl) ?_
          have t_46 : oty S_6 br 18 := (oX.ty XS_6 tbr)
          obtain ⟨q_47, hq_47⟩ := og (cq := cq) t_46.1 (oE_18 t_46.2)
          refine va_lald hx hb hK hP q_47 1 hq_47 rfl (vp_in_iff.mpr (by omega)) dX4_offer_22 ?_
          refine lv_topl (fun l_48 el_48 => ?_)
          refine lv_ldc2 (v := 1152921504606846976) hx hb hown (hts (.constantLong RX4 22 (1152921504606846976)) (by decide +kernel)) dX4_offer_23 ?_
          refine W.lcmp hx hb dX4_offer_26 ?_
          refine lv_topi (fun x_49 ex_49 => ?_)
          refine lv_if_eq (tgt := 36) hx hb dX4_offer_27 (by decide) (fun c_50 => ?_) (fun c_50 => ?_)
          · have dc_50 := c_eq (a := x_49.toInt) (b := 0) rfl (by decide) c_50
            obtain ⟨x_51, ex_51⟩ : ∃ zq : Int32, y_5 + (-1) = zq := ⟨_, rfl⟩
            have hx_51 : x_51.toInt = y_5.toInt + (-1) := (iv_to ex_51).symm.trans (ad_i rfl (by decide) (by omega) (by omega))
            refine lv_iinc (v := x_51) (lv' := [(2, .int x_51), (0, .ref o), (1, .ref a1)]) hx hb dX4_offer_36 hl (k := 0) rfl ex_51 (by decide) rfl (fun ls hl => ?_)
            clear ex_51
            refine lv_goto (tgt := 13) hx hb dX4_offer_39 (by decide) ?_
            exact ih (n - 1) (by omega) x_51 S_6 _ _ ls (by omega) (by omega) hq0_cut_4 (fun c hc => by have tn9 : ((y_5.toNatClampNeg : Nat) : Int) = y_5.toInt := tn_i (by omega); have hq9 := hq1_cut_4; rw [← tn9] at hq9; exact WF_n (f := y_5.toNatClampNeg) (by omega) (Mn_z hW (by omega) (WF_f (Int.le_refl _) (hq9 _ (show y_5.toInt.toNat < 81 by omega))) (by rw [← el_48, (lg_cmp_eq _ _).mp (ex_49.symm.trans c_50)]; exact no_i)) (hq9 c hc)) hIS_6 (oX.st oX.rf XS_6 (by decide)) hP hD hS pk_7 pk_8 pk_9 pk_10 (lv_sub hl [0, 1, 2] rfl)
          · have dc_50 := c_ne (a := x_49.toInt) (b := 0) rfl (by decide) c_50
            refine lv_aload_n hx hb dX4_offer_30 rfl (lv_at hl 1 rfl) ?_
            refine lv_iload_n hx hb dX4_offer_31 rfl (lv_at hl 0 rfl) ?_
            refine lv_aload_n hx hb dX4_offer_32 rfl (lv_at hl 2 rfl) ?_
            have hne9 : (oJ S_6 br y_5.toNatClampNeg).toInt ≠ 1152921504606846976 := fun q => (fun z => c_50 (ex_49.trans z)) ((lg_cmp_eq _ _).mpr (Int64.toInt_inj.mp (by rw [el_48, no_i]; exact q)))
            have hmf9 := Mn_y hW (by omega) (WF_f (n := nG) (W := WG) (k := kG) (f := y_5.toNatClampNeg) (g := y_5.toInt) (by show ((y_5.toInt.toNat : Nat) : Int) ≤ _; omega) (hq1_cut_4 _ (show y_5.toInt.toNat < 81 by omega))) hne9
            have t_52 : oty S_6 a1 6 := (oX.ty XS_6 ta1)
            have hFc := o_free hD hS hA
            refine va_callv (va_runV (As := [.int y_5, .ref a1]) (rest := []) ⟨hx, hb, hml, hown, hts⟩ (c_X4_placeIn_c l dC dI H.size tL tS tG cq S_6 hIS_6 o t_44 y_5 (by omega) a1 t_52 br of9 fr pk_8 pk_9 pk_10 wr pk_7 nG kG (WG kG) (by omega) hn (by omega) (by omega) (fun r hr => by rw [oX.f hq0_cut_4 tfr (fun _ => nkw (by decide) (by decide) (by decide))]; exact hfp r hr) (fun r hr => by rw [oX.f hq0_cut_4 twr (fun _ => nkw (by decide) (by decide) (by decide))]; exact ⟨hwg r hr, hW kG r⟩) hmf9.1) (cwV 2 hts gX4_offer_X4_placeIn rfl rfl rfl (by decide +kernel) ⟨(Nat.le_of_ble_eq_true rfl), (Nat.le_of_ble_eq_true rfl)⟩) (pr_VO (r := (RX4, TX4, 6)) hP hK hD q_45 4 rfl hq_45 (hZ.go hS hFc)) rfl rfl hl.1 rfl (lv_room (Nat.le_of_ble_eq_true rfl)) dX4_offer_33 ⟨(Nat.le_of_ble_eq_true rfl), (Nat.le_of_ble_eq_true rfl)⟩) hS (fun q _ h => hFc q h) hFc (fun u t H locs ht hvm w_53 hB hz1 hk1 hS => ?_)
            obtain ⟨S_55, rfl⟩ : ∃ z, z = u := ⟨_, rfl⟩
            obtain ⟨hP1, hK1, hD1⟩ := hB
            rw [ht] at hP1
            have hP : va_P (dC, dI) vwCl (oW cq S_55) H := hP1
            have hD : va_D A (oW cq S_55) := hD1.weaken (fun _ _ _ h => hFc _ h)
            clear hP1 hK1 hD1 hk1 hz1 hvm ht hFc
            obtain ⟨hIS_55, XS_55, hx_56⟩ := w_53
            have X_57 : oX [402, 2018, 2062] Z S_55 := oX.st YS_6 XS_55 (by decide)
            have g_58 : (oI S_55 a1 0).toInt = (oI S_6 a1 0).toInt := by rw [oX.i XS_55 t_52 (by decide)]
            have g_59 : (oI S_55 o 2).toInt = (oI S_6 o 2).toInt := by rw [oX.i XS_55 t_44 (by decide)]
            have g_60 : (oI S_55 o 4).toInt = (oI S_6 o 4).toInt := by rw [oX.i XS_55 t_44 (by decide)]
            have pk_61 : oP S_55 a1 4 = some wr := by rw [oX.p XS_55 t_52 (by decide)]; exact pk_7
            have pk_62 : oP S_55 o 0 = some br := by rw [oX.p XS_55 t_44 (by decide)]; exact pk_8
            have pk_63 : oP S_55 o 1 = some of9 := by rw [oX.p XS_55 t_44 (by decide)]; exact pk_9
            have pk_64 : oP S_55 o 3 = some fr := by rw [oX.p XS_55 t_44 (by decide)]; exact pk_10
            obtain ⟨x_65, ex_65⟩ : ∃ zq : Int32, y_5 + (-1) = zq := ⟨_, rfl⟩
            have hx_65 : x_65.toInt = y_5.toInt + (-1) := (iv_to ex_65).symm.trans (ad_i rfl (by decide) (by omega) (by omega))
            refine lv_iinc (v := x_65) (lv' := [(2, .int x_65), (0, .ref o), (1, .ref a1)]) hx hb dX4_offer_36 hl (k := 0) rfl ex_65 (by decide) rfl (fun ls hl => ?_)
            clear ex_65
            refine lv_goto (tgt := 13) hx hb dX4_offer_39 (by decide) ?_
            exact ih (n - 1) (by omega) x_65 S_55 _ _ ls (by omega) (by omega) (oX.st hq0_cut_4 (show oX [2018] S_6 S_55 from (oX.st oX.rf XS_55 (by decide))) (by decide)) (fun c hc => by have tn9 : ((y_5.toNatClampNeg : Nat) : Int) = y_5.toInt := tn_i (by omega); have hq9 := hq1_cut_4; rw [← tn9] at hq9; exact WF_p (B := fun c => (oJ S_6 br c).toInt) (by omega) hW (by omega) hmf9.2.1 hmf9.2.2 (hq9 c hc) (hx_56 c hc)) hIS_55 (oX.st (oX.st oX.rf XS_6 (by decide)) XS_55 (by decide)) hP hD hS pk_61 pk_62 pk_63 pk_64 (lv_sub hl [0, 1, 2] rfl)
    have kc_66 : (80 : Int32).toInt = 80 := by decide
    exact cut_4 82 80 Z _ _ ls (by omega) (by decide) oX.rf (fun c hc => by rw [show (80 : Int32).toInt = 80 from by decide]; exact WF_80 hc (hB c hc)) gI oX.rf hP hD hS hwr hbr hof hfr (lv_sub hl [0, 1, 2] rfl)
  · have dc_3 := c_nlt (a := x_2.toInt) (b := 12) rfl (by decide) c_3
    exact W.vret hx hb hr (fun t ht hW => ⟨⟨Z, rfl, ⟨gI, oX.rf, (Or.inl ⟨by omega, rfl⟩)⟩, ⟨by rw [ht]; exact hP, va_K.moved hW.alike hK, hD⟩⟩, hS.F ht⟩) hS.2.2 dX4_offer_9
