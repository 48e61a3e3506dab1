


theorem oX_j {W : List Nat} {S S1 : oS} {a k i : Nat} (h : oX W S S1) (t : oty S a k) (hw : wk k i ∉ W) : oJ S1 a i = oJ S a i := ((h a t.1).2.2 i (by rw [t.2]; exact hw)).2.2
theorem mn_l {a b z : Int64} (e : z = if a < b then a else b) : (z.toInt = b.toInt ∧ b.toInt ≤ a.toInt) ∨ (z.toInt = a.toInt ∧ a.toInt ≤ b.toInt) := by
  by_cases c : a < b
  · rw [if_pos c] at e
    have := Int64.lt_iff_toInt_lt.mp c
    exact Or.inr ⟨by rw [e], by omega⟩
  · rw [if_neg c] at e
    have : ¬ a.toInt < b.toInt := fun q => c (Int64.lt_iff_toInt_lt.mpr q)
    exact Or.inl ⟨by rw [e], by omega⟩
theorem fpl_6 {n r : Nat} : fpl n r ≤ 6 := by
  have h0 := dg_le (c := n) (r := 0)
  have h1 := dg_le (c := n) (r := 1)
  have h2 := dg_le (c := n) (r := 2)
  unfold fpl
  split <;> omega
theorem upL_e {f : Nat → Int64} {i : Nat} {x : Int64} : vp_updL f i x i = x := if_pos rfl
theorem upL_n {f : Nat → Int64} {i j : Nat} {x : Int64} (h : j ≠ i) : vp_updL f i x j = f j := if_neg h
theorem no_i : (1152921504606846976 : Int64).toInt = 1152921504606846976 := by decide
set_option maxHeartbeats 4000000 in
set_option maxRecDepth 100000 in
theorem c_X4_handShift_c (l : Launch) (dC : Nat → ClassId) (dI : Nat → Nat → Nat) (sz : Nat) (x1 : Int32) (hx1 : 0 ≤ x1.toInt ∧ x1.toInt ≤ 7) : Met l yX4_handShift wsX4_handShift ({ frames := 0, cells := 0, slots := 0, locals := 0 }) (va_Pc [.int x1] (pcW (dC, dI) [] [] sz)) (va_Qi (fun (r : Int32) (u : Unit) => (r.toInt = (7 - x1.toInt) * 4)) (fun _ _ => True) (va_A [] sz)) 0 0 (va_A [] sz) := by
  refine Met.ofW (cc := cX4_handShift) (maxL := 1) (ret := (some .int)) (by decide) rfl ?_
  intro p e s m args below meth c s₁ B hml hv
  obtain ⟨rfl, hsz, hP, hK, hD0⟩ := hv
  have hx := B.exec
  have hb := B.bytes
  have hr := B.returns
  have hts := atoms_spec (ws := wsX4_handShift) B.pre
  have hown : s.vm.findClass RX4 = some m.cls := findClass_of_methodNamed B.named
  have hlocks := B.notSynchronized
  subst hsz
  have hD := hD0
  generalize hAe : va_A [] s.heap.size = A at ⊢
  have hA : ∀ q : Nat, s.heap.size ≤ q → A q := fun q h => by rw [← hAe]; exact Or.inr h
  have hS : va_S A s.heap s.heap [] := va_S.rf
  have hP : va_P (dC, dI) vwCl [] s.heap := hP
  have hl := lv_entry ([.int x1]) (n := 1) (Nat.le_of_ble_eq_true rfl)
  rw [lg_entry_eq]
  generalize (lg_sl ([.int x1]) ++ List.replicate (1 - (lg_sl ([.int x1])).length) Slot.unset).toArray = ls at hl ⊢
  have hl : lv_has ls 1 [(0, .int x1)] := hl
  refine lv_bipush (v := 7) hx hb dX4_handShift_0 (by decide) ?_
  refine lv_iload_n hx hb dX4_handShift_2 rfl (lv_at hl 0 rfl) ?_
  refine lv_isub hx hb dX4_handShift_3 ?_
  refine lv_topi (fun x_1 ex_1 => ?_)
  have hx_1 : x_1.toInt = 7 - x1.toInt := (iv_to ex_1).trans (sb_i (by decide) rfl (by omega) (by omega))
  clear ex_1
  refine lv_iconst (v := 4) hx hb dX4_handShift_4 (by decide) ?_
  refine lv_imul hx hb dX4_handShift_5 ?_
  refine lv_topi (fun x_2 ex_2 => ?_)
  have hx_2 : x_2.toInt = x_1.toInt * 4 := (iv_to ex_2).trans (mu_i rfl (by decide) (by omega) (by omega))
  clear ex_2
  exact W.iret (v := x_2) hx hb hr (fun t ht hW => ⟨⟨x_2, (), rfl, (by omega), trivial⟩, hS.F ht⟩) hS.2.2 dX4_handShift_6
set_option maxHeartbeats 4000000 in
set_option maxRecDepth 100000 in
theorem c_X4_placeIn_c (l : Launch) (dC : Nat → ClassId) (dI : Nat → Nat → Nat) (sz : Nat) (tL tS tG : Nat) (cq : Nat → ClassId) (Z : oS) (gI : oInv Z) (o : Nat) (to : oty Z o 4) (x1 : Int32) (hx1 : 0 ≤ x1.toInt ∧ x1.toInt ≤ 80) (a2 : Nat) (ta2 : oty Z a2 6) (br of9 fr : Nat) (hbr : oP Z o 0 = some br) (hof : oP Z o 1 = some of9) (hfr : oP Z o 3 = some fr) (wr : Nat) (hwr : oP Z a2 4 = some wr) (nG kG : Nat) (wG : Nat → Int) (hgo : (oI Z o 4).toInt = nG) (hn : nG < 81) (hk : (oI Z o 2).toInt = kG) (hk12 : kG < 12) (hfp : ∀ r, r < 4 → (oI Z fr r).toInt = (fpl nG r : Int)) (hwg : ∀ r, r < 4 → (oI Z wr r).toInt = wG r ∧ 0 ≤ wG r ∧ wG r ≤ 9999) (hbf : 0 ≤ (oJ Z br x1.toNatClampNeg).toInt ∧ (oJ Z br x1.toNatClampNeg).toInt ≤ 844424930131968) : Met l yX4_placeIn wsX4_placeIn ({ frames := 1, cells := 0, slots := 0, locals := 21 }) (va_Pc [.ref o, .int x1, .ref a2] (pcO (dC, dI) (oT cq) (oW cq Z) sz tL tS tG (oW cq Z))) (va_Qv (fun (u : oS) => oInv u ∧ oX [2018] Z u ∧ (∀ c, c < 81 → pIn nG kG x1.toNatClampNeg wG (fun c => (oJ Z br c).toInt) 4 c (oJ u br c).toInt)) (fun u t => va_P (dC, dI) vwCl (oW cq u) t.heap ∧ va_K (dC, dI) vwCl (oT cq) t ∧ va_D (va_A (oW cq Z) sz) (oW cq u)) (va_A (oW cq Z) sz)) 0 0 (va_A (oW cq Z) sz) := by
  refine Met.ofW (cc := cX4_placeIn) (maxL := 10) (ret := none) (by decide) rfl ?_
  intro p e s m args below meth c s₁ B hml hv
  obtain ⟨rfl, ⟨hsz, hP, hK, hD0⟩, hZ⟩ := hv
  have hx := B.exec
  have hb := B.bytes
  have hr := B.returns
  have hts := atoms_spec (ws := wsX4_placeIn) B.pre
  have hown : s.vm.findClass RX4 = some m.cls := findClass_of_methodNamed B.named
  have hlocks := B.notSynchronized
  subst hsz
  have hD := hD0.self (sz := s.heap.size)
  generalize hAe : va_A (oW cq Z) s.heap.size = A at hD hZ ⊢
  have hA : ∀ q : Nat, s.heap.size ≤ q → A q := fun q h => by rw [← hAe]; exact Or.inr h
  have hS : va_S A s.heap s.heap [] := va_S.rf
  have hP : va_P (dC, dI) vwCl (oW cq Z) s.heap := hP
  have hl := lv_entry ([.ref o, .int x1, .ref a2]) (n := 10) (Nat.le_of_ble_eq_true rfl)
  rw [lg_entry_eq]
  generalize (lg_sl ([.ref o, .int x1, .ref a2]) ++ List.replicate (10 - (lg_sl ([.ref o, .int x1, .ref a2])).length) Slot.unset).toArray = ls at hl ⊢
  have hl : lv_has ls 10 [(0, .ref o), (1, .int x1), (2, .ref a2)] := hl
  have tbr : oty Z br 18 := oInv.rd gI to.2 hbr rfl rfl
  have tof : oty Z of9 62 := oInv.rd gI to.2 hof rfl rfl
  have tfr : oty Z fr 61 := oInv.rd gI to.2 hfr rfl rfl
  have twr : oty Z wr 104 := oInv.rd gI ta2.2 hwr rfl rfl
  refine lv_iconst (v := 0) hx hb dX4_placeIn_0 (by decide) ?_
  refine lv_istore_n (lv' := [(3, .int 0), (0, .ref o), (1, .int x1), (2, .ref a2)]) hx hb dX4_placeIn_1 rfl hl (by decide) rfl (fun ls hl => ?_)
  have cut_1 : ∀ (n : Nat) (y_2 : Int32) (S_3 : oS) (H : Heap) (locs : List Loc) (ls : Array Slot), 4 - y_2.toInt ≤ (n : Int) → (0 ≤ y_2.toInt ∧ y_2.toInt ≤ 4) → (∀ c, c < 81 → pIn nG kG x1.toNatClampNeg wG (fun c => (oJ Z br c).toInt) y_2.toNatClampNeg c (oJ S_3 br c).toInt) → oInv S_3 → oX [2018] Z S_3 → va_P (dC, dI) vwCl (oW cq S_3) H → va_D A (oW cq S_3) → va_S A s.heap H locs → oP S_3 a2 4 = some wr → oP S_3 o 0 = some br → oP S_3 o 1 = some of9 → oP S_3 o 3 = some fr → lv_has ls 10 [(3, .int y_2), (0, .ref o), (1, .int x1), (2, .ref a2)] → W p l e (headSpec wsX4_placeIn { frames := 1, cells := 0, slots := 0, locals := 21 }).room s m #[Value.ref o, Value.int x1, Value.ref a2] below meth c H locs 0 0 (MQ below (va_Qv (fun (u : oS) => oInv u ∧ oX [2018] Z u ∧ (∀ c, c < 81 → pIn nG kG x1.toNatClampNeg wG (fun c => (oJ Z br c).toInt) 4 c (oJ u br c).toInt)) (fun u t => va_P (dC, dI) vwCl (oW cq u) t.heap ∧ va_K (dC, dI) vwCl (oT cq) t ∧ va_D A (oW cq u)) A) #[Value.ref o, Value.int x1, Value.ref a2] s 0 0 A) (F0 m 2 ls []) := by
    intro n
    induction n using Nat.strongRecOn with
    | ind n ih =>
      intro y_2 S_3 H locs ls hm hy_2 hq0_cut_1 hIS_3 XS_3 hP hD hS pk_4 pk_5 pk_6 pk_7 hl
      have YS_3 : oX [2018] Z S_3 := oX.st oX.rf XS_3 (fun _ q => q)
      have g_8 : (oI S_3 o 2).toInt = (oI Z o 2).toInt := by rw [oX.i (W := [2018]) (oX.st oX.rf XS_3 (by decide)) to (by decide)]
      have g_9 : (oI S_3 o 4).toInt = (oI Z o 4).toInt := by rw [oX.i (W := [2018]) (oX.st oX.rf XS_3 (by decide)) to (by decide)]
      refine lv_iload_n hx hb dX4_placeIn_2 rfl (lv_at hl 0 rfl) ?_
      refine lv_iconst (v := 4) hx hb dX4_placeIn_3 (by decide) ?_
      refine lv_icmp_ge (tgt := 112) hx hb dX4_placeIn_4 (by decide) (fun c_10 => ?_) (fun c_10 => ?_)
      · have dc_10 := c_le (a := 4) (b := y_2.toInt) (by decide) rfl c_10
        exact W.vret hx hb hr (fun t ht hW => ⟨⟨S_3, rfl, ⟨hIS_3, YS_3, (by have hq9 := hq0_cut_1; rw [show y_2.toNatClampNeg = 4 from (show y_2.toInt.toNat = 4 by omega)] at hq9; exact hq9)⟩, ⟨by rw [ht]; exact hP, va_K.moved hW.alike hK, hD⟩⟩, hS.F ht⟩) hS.2.2 dX4_placeIn_112
      · have dc_10 := c_nle (a := 4) (b := y_2.toInt) (by decide) rfl c_10
        rcases st_i (x := y_2) (by omega) with (st_11 | st_11) | (st_11 | st_11)
        · subst st_11
          have kc_12 : (0 : Int32).toInt = 0 := by decide
          refine lv_iload_n hx hb dX4_placeIn_7 rfl (lv_at hl 2 rfl) ?_
          refine lv_iload_n hx hb dX4_placeIn_8 rfl (lv_at hl 0 rfl) ?_
          have hFc : ∀ q, va_A [] H.size q → A q := pu_free hS hA
          refine va_calli (va_runS (As := [.int x1, .int 0]) (rest := []) ⟨hx, hb, hml, hown, hts⟩ (c_X4_handsOf l dC dI H.size tL tS tG cq S_3 hIS_3 x1 (by omega) 0 (by decide)) (va_cwS 2 hts gX4_placeIn_X4_handsOf rfl rfl rfl (by decide +kernel) ⟨(Nat.le_of_ble_eq_true rfl), (Nat.le_of_ble_eq_true rfl)⟩) (pr_SO hP hK hD (hZ.go hS hFc)) rfl rfl hl.1 rfl (lv_room (Nat.le_of_ble_eq_true rfl)) dX4_placeIn_9 ⟨(Nat.le_of_ble_eq_true rfl), (Nat.le_of_ble_eq_true rfl)⟩) hS (fun q _ h => hFc q h) hFc (fun r_14 u t H locs ht hvm w_13 hB hz1 hk1 hS => ?_)
          have hP := pu_keep hP hk1
          clear hk1 hz1 hvm hB ht hFc
          obtain ⟨hb_15, hx_16⟩ := w_13
          have ho_17 : r_14.toInt = x1.toInt / 1 % 3 := by have h0 : (0 : Int32).toInt = 0 := (by decide); rw [hx_16, h0]; simp
          have hd9 : r_14.toInt = (dg x1.toNatClampNeg 0 : Int) := by have q := dg_v x1.toNatClampNeg; have q2 : x1.toNatClampNeg = x1.toInt.toNat := rfl; omega
          refine lv_istore (lv' := [(4, .int r_14), (3, .int 0), (0, .ref o), (1, .int x1), (2, .ref a2)]) hx hb dX4_placeIn_12 hl (by decide) rfl (fun ls hl => ?_)
          refine lv_aload_n hx hb dX4_placeIn_14 rfl (lv_at hl 4 rfl) ?_
          have t_18 : oty S_3 a2 6 := (oX.ty XS_3 ta2)
          obtain ⟨q_19, hq_19⟩ := og (cq := cq) t_18.1 (oE_6 t_18.2)
          refine va_get (D := (dC, dI)) (ci := 6) (v := .ref wr) (C := RX6) (T := TX6) (N := 6) hx hb hts in_wsX4_placeIn_X6 hown hK hP q_19 hq_19 rfl 4 (by decide) (hts (.fieldLink RX4 56 "ShipOffice$Man" "wages" "[I") iw_X4_placeIn_1) (fun _ h9 => h9) (o_rd pk_4) dX4_placeIn_15 ?_
          refine lv_iload_n hx hb dX4_placeIn_18 rfl (lv_at hl 1 rfl) ?_
          have t_20 : oty S_3 wr 104 := (oX.ty XS_3 twr)
          obtain ⟨q_21, hq_21⟩ := og (cq := cq) t_20.1 (oE_a1 (n := 4) t_20.2 (by decide))
          refine va_iald hx hb hK hP q_21 0 hq_21 rfl (by unfold vp_in; decide) dX4_placeIn_19 ?_
          refine lv_topi (fun x_22 ex_22 => ?_)
          have gwx_22 : x_22.toInt = wG 0 ∧ 0 ≤ wG 0 ∧ wG 0 ≤ 9999 := by rw [iv_to ex_22, oX.f (W := [2018]) (oX.st oX.rf XS_3 (by decide)) twr (fun _ => nkw (by decide) (by decide) (by decide))]; exact hwg 0 (by decide)
          refine lv_if_le (tgt := 106) hx hb dX4_placeIn_20 (by decide) (fun c_23 => ?_) (fun c_23 => ?_)
          · have dc_23 := c_le (a := x_22.toInt) (b := 0) rfl (by decide) c_23
            refine lv_iinc (v := 1) (lv' := [(3, .int 1), (4, .int r_14), (0, .ref o), (1, .int x1), (2, .ref a2)]) hx hb dX4_placeIn_106 hl (k := 1) rfl (by decide) (by decide) rfl (fun ls hl => ?_)
            refine lv_goto (tgt := 2) hx hb dX4_placeIn_109 (by decide) ?_
            have kc_24 : (1 : Int32).toInt = 1 := by decide
            exact ih (n - 1) (by omega) 1 S_3 _ _ ls (by omega) (by decide) (by have hq9 := hq0_cut_1; rw [show (0 : Int32).toNatClampNeg = 0 from by decide] at hq9; rw [show (1 : Int32).toNatClampNeg = 0 + 1 from by decide]; exact pIn_n hq9 (fun q => by omega)) hIS_3 (oX.st oX.rf XS_3 (by decide)) hP hD hS pk_4 pk_5 pk_6 pk_7 (lv_sub hl [0, 2, 3, 4] rfl)
          · have dc_23 := c_nle (a := x_22.toInt) (b := 0) rfl (by decide) c_23
            refine lv_iload hx hb dX4_placeIn_23 (lv_at hl 0 rfl) ?_
            refine lv_aload_n hx hb dX4_placeIn_25 rfl (lv_at hl 2 rfl) ?_
            have t_25 : oty S_3 o 4 := (oX.ty XS_3 to)
            obtain ⟨q_26, hq_26⟩ := og (cq := cq) t_25.1 (oE_4 t_25.2)
            refine va_get (D := (dC, dI)) (ci := 4) (v := .int (oI S_3 o 4)) (C := RX4) (T := TX4) (N := 6) hx hb hts in_wsX4_placeIn_X4 hown hK hP q_26 hq_26 rfl 4 (by decide) (hts (.fieldLink RX4 34 "ShipOffice$Hiring" "goal" "I") iw_X4_placeIn_2) (fun _ h9 => h9) rfl dX4_placeIn_26 ?_
            refine lv_topi (fun x_27 ex_27 => ?_)
            have hx_27 : 0 ≤ x_27.toInt ∧ x_27.toInt ≤ 80 := iv_of ex_27 (oInv.iv hIS_3 t_25.2 rfl rfl)
            have gx_27 : x_27.toInt = (oI S_3 o 4).toInt := iv_to ex_27
            clear ex_27
            refine lv_iload_n hx hb dX4_placeIn_29 rfl (lv_at hl 1 rfl) ?_
            have hFc : ∀ q, va_A [] H.size q → A q := pu_free hS hA
            refine va_calli (va_runS (As := [.int x_27, .int 0]) (rest := [.int r_14]) ⟨hx, hb, hml, hown, hts⟩ (c_X4_handsOf l dC dI H.size tL tS tG cq S_3 hIS_3 x_27 (by omega) 0 (by decide)) (va_cwS 2 hts gX4_placeIn_X4_handsOf rfl rfl rfl (by decide +kernel) ⟨(Nat.le_of_ble_eq_true rfl), (Nat.le_of_ble_eq_true rfl)⟩) (pr_SO hP hK hD (hZ.go hS hFc)) rfl rfl hl.1 rfl (lv_room (Nat.le_of_ble_eq_true rfl)) dX4_placeIn_30 ⟨(Nat.le_of_ble_eq_true rfl), (Nat.le_of_ble_eq_true rfl)⟩) hS (fun q _ h => hFc q h) hFc (fun r_29 u t H locs ht hvm w_28 hB hz1 hk1 hS => ?_)
            have hP := pu_keep hP hk1
            clear hk1 hz1 hvm hB ht hFc
            obtain ⟨hb_30, hx_31⟩ := w_28
            have ho_32 : r_29.toInt = x_27.toInt / 1 % 3 := by have h0 : (0 : Int32).toInt = 0 := (by decide); rw [hx_31, h0]; simp
            have hg9 : r_29.toInt = (dg nG 0 : Int) := by have q := dg_v nG; omega
            refine lv_icmp_ge (tgt := 106) hx hb dX4_placeIn_33 (by decide) (fun c_33 => ?_) (fun c_33 => ?_)
            · have dc_33 := c_le (a := r_29.toInt) (b := r_14.toInt) rfl rfl c_33
              refine lv_iinc (v := 1) (lv' := [(3, .int 1), (4, .int r_14), (0, .ref o), (1, .int x1), (2, .ref a2)]) hx hb dX4_placeIn_106 hl (k := 1) rfl (by decide) (by decide) rfl (fun ls hl => ?_)
              refine lv_goto (tgt := 2) hx hb dX4_placeIn_109 (by decide) ?_
              have kc_34 : (1 : Int32).toInt = 1 := by decide
              exact ih (n - 1) (by omega) 1 S_3 _ _ ls (by omega) (by decide) (by have hq9 := hq0_cut_1; rw [show (0 : Int32).toNatClampNeg = 0 from by decide] at hq9; rw [show (1 : Int32).toNatClampNeg = 0 + 1 from by decide]; exact pIn_n hq9 (fun q => by omega)) hIS_3 (oX.st oX.rf XS_3 (by decide)) hP hD hS pk_4 pk_5 pk_6 pk_7 (lv_sub hl [0, 2, 3, 4] rfl)
            · have dc_33 := c_nle (a := r_29.toInt) (b := r_14.toInt) rfl rfl c_33
              refine lv_aload_n hx hb dX4_placeIn_36 rfl (lv_at hl 2 rfl) ?_
              refine va_get (D := (dC, dI)) (ci := 4) (v := .int (oI S_3 o 2)) (C := RX4) (T := TX4) (N := 6) hx hb hts in_wsX4_placeIn_X4 hown hK hP q_26 hq_26 rfl 2 (by decide) (hts (.fieldLink RX4 30 "ShipOffice$Hiring" "offerCount" "I") iw_X4_placeIn_3) (fun _ h9 => h9) rfl dX4_placeIn_37 ?_
              refine lv_topi (fun x_35 ex_35 => ?_)
              have hx_35 : 0 ≤ x_35.toInt ∧ x_35.toInt ≤ 12 := iv_of ex_35 (oInv.iv hIS_3 t_25.2 rfl rfl)
              have gx_35 : x_35.toInt = (oI S_3 o 2).toInt := iv_to ex_35
              clear ex_35
              refine lv_i2l (v := (x_35 : Int32).toInt64) hx hb dX4_placeIn_40 rfl ?_
              refine lv_aload_n hx hb dX4_placeIn_41 rfl (lv_at hl 2 rfl) ?_
              refine va_get (D := (dC, dI)) (ci := 4) (v := .ref fr) (C := RX4) (T := TX4) (N := 6) hx hb hts in_wsX4_placeIn_X4 hown hK hP q_26 hq_26 rfl 3 (by decide) (hts (.fieldLink RX4 19 "ShipOffice$Hiring" "firstPlace" "[I") iw_X4_placeIn_4) (fun _ h9 => h9) (o_rd pk_7) dX4_placeIn_42 ?_
              refine lv_iload_n hx hb dX4_placeIn_45 rfl (lv_at hl 1 rfl) ?_
              have t_36 : oty S_3 fr 61 := (oX.ty XS_3 tfr)
              obtain ⟨q_37, hq_37⟩ := og (cq := cq) t_36.1 (oE_61 t_36.2)
              refine va_iald hx hb hK hP q_37 0 hq_37 rfl (by unfold vp_in; decide) dX4_placeIn_46 ?_
              refine lv_topi (fun x_38 ex_38 => ?_)
              have gwx_38 : x_38.toInt = (fpl nG 0 : Int) := by rw [iv_to ex_38, oX.f (W := [2018]) (oX.st oX.rf XS_3 (by decide)) tfr (fun _ => nkw (by decide) (by decide) (by decide))]; exact hfp 0 (by decide)
              have gfx_38 := fpl_6 (n := nG) (r := 0)
              have gbx_38 : 0 ≤ x_38.toInt ∧ x_38.toInt ≤ 6 := by omega
              refine lv_iload hx hb dX4_placeIn_47 (lv_at hl 0 rfl) ?_
              refine lv_iadd hx hb dX4_placeIn_49 ?_
              refine lv_topi (fun x_39 ex_39 => ?_)
              have hx_39 : x_39.toInt = x_38.toInt + r_14.toInt := (iv_to ex_39).trans (ad_i rfl rfl (by omega) (by omega))
              clear ex_39
              have hp9 := (pl_1 (n := nG) (r := 0) (j := dg x1.toNatClampNeg 0) (by decide) (by omega)).1
              have hp8 := hnd_8 (n := nG)
              have hFc : ∀ q, va_A [] H.size q → A q := pu_free hS hA
              have hPc := hP.sub (ws' := []) [] rfl
              have hDc := hD.sub (ws' := []) [] (by decide) rfl
              have hKc := hK.sub (tys' := []) [] rfl
              refine va_calli (va_runS (As := [.int x_39]) (rest := [.long ((x_35 : Int32).toInt64)]) ⟨hx, hb, hml, hown, hts⟩ (c_X4_handShift_c l dC dI H.size  x_39 (by omega)) (va_cwS 1 hts gX4_placeIn_X4_handShift rfl rfl rfl (by decide +kernel) ⟨(Nat.le_of_ble_eq_true rfl), (Nat.le_of_ble_eq_true rfl)⟩) (pr_S hPc hKc hDc) rfl rfl hl.1 rfl (lv_room (Nat.le_of_ble_eq_true rfl)) dX4_placeIn_50 ⟨(Nat.le_of_ble_eq_true rfl), (Nat.le_of_ble_eq_true rfl)⟩) hS (fun q _ h => hFc q h) hFc (fun r_41 u t H locs ht hvm w_40 hB hz1 hk1 hS => ?_)
              have hP := pu_keep hP hk1
              clear hk1 hz1 hvm hB ht hFc hPc hDc hKc
              have hx_42 := w_40
              refine lv_lshl (v := ((x_35 : Int32).toInt64) <<< ((r_41 : Int32).toInt64 &&& 63)) hx hb dX4_placeIn_53 rfl ?_
              refine lv_lstore (lv' := [(5, .long (((x_35 : Int32).toInt64) <<< ((r_41 : Int32).toInt64 &&& 63))), (4, .int r_14), (3, .int 0), (0, .ref o), (1, .int x1), (2, .ref a2)]) hx hb dX4_placeIn_54 hl (by decide) rfl (fun ls hl => ?_)
              refine lv_aload_n hx hb dX4_placeIn_56 rfl (lv_at hl 3 rfl) ?_
              refine va_get (D := (dC, dI)) (ci := 4) (v := .ref br) (C := RX4) (T := TX4) (N := 6) hx hb hts in_wsX4_placeIn_X4 hown hK hP q_26 hq_26 rfl 0 (by decide) (hts (.fieldLink RX4 11 "ShipOffice$Hiring" "best" "[J") iw_X4_placeIn_5) (fun _ h9 => h9) (o_rd pk_5) dX4_placeIn_57 ?_
              refine lv_iload_n hx hb dX4_placeIn_60 rfl (lv_at hl 4 rfl) ?_
              have t_43 : oty S_3 br 18 := (oX.ty XS_3 tbr)
              obtain ⟨q_44, hq_44⟩ := og (cq := cq) t_43.1 (oE_18 t_43.2)
              refine va_lald hx hb hK hP q_44 1 hq_44 rfl (vp_in_iff.mpr (by omega)) dX4_placeIn_61 ?_
              refine lv_topl (fun l_45 el_45 => ?_)
              refine lv_aload_n hx hb dX4_placeIn_62 rfl (lv_at hl 5 rfl) ?_
              refine va_get (D := (dC, dI)) (ci := 6) (v := .ref wr) (C := RX6) (T := TX6) (N := 6) hx hb hts in_wsX4_placeIn_X6 hown hK hP q_19 hq_19 rfl 4 (by decide) (hts (.fieldLink RX4 56 "ShipOffice$Man" "wages" "[I") iw_X4_placeIn_1) (fun _ h9 => h9) (o_rd pk_4) dX4_placeIn_63 ?_
              refine lv_iload_n hx hb dX4_placeIn_66 rfl (lv_at hl 2 rfl) ?_
              refine va_iald hx hb hK hP q_21 0 hq_21 rfl (by unfold vp_in; decide) dX4_placeIn_67 ?_
              refine lv_topi (fun x_46 ex_46 => ?_)
              have gwx_46 : x_46.toInt = wG 0 ∧ 0 ≤ wG 0 ∧ wG 0 ≤ 9999 := by rw [iv_to ex_46, oX.f (W := [2018]) (oX.st oX.rf XS_3 (by decide)) twr (fun _ => nkw (by decide) (by decide) (by decide))]; exact hwg 0 (by decide)
              refine lv_i2l (v := (x_46 : Int32).toInt64) hx hb dX4_placeIn_68 rfl ?_
              refine lv_bipush (v := 32) hx hb dX4_placeIn_69 (by decide) ?_
              refine lv_lshl (v := ((x_46 : Int32).toInt64) <<< ((32 : Int32).toInt64 &&& 63)) hx hb dX4_placeIn_71 rfl ?_
              refine lv_ladd hx hb dX4_placeIn_72 ?_
              refine lv_lload hx hb dX4_placeIn_73 (lv_at hl 0 rfl) ?_
              refine lv_ladd hx hb dX4_placeIn_75 ?_
              refine lv_lstore (lv' := [(7, .long ((l_45 + (((x_46 : Int32).toInt64) <<< ((32 : Int32).toInt64 &&& 63))) + (((x_35 : Int32).toInt64) <<< ((r_41 : Int32).toInt64 &&& 63)))), (5, .long (((x_35 : Int32).toInt64) <<< ((r_41 : Int32).toInt64 &&& 63))), (4, .int r_14), (3, .int 0), (0, .ref o), (1, .int x1), (2, .ref a2)]) hx hb dX4_placeIn_76 hl (by decide) rfl (fun ls hl => ?_)
              have hb9 : l_45.toInt = (oJ Z br x1.toNatClampNeg).toInt := by rw [el_45]; exact pIn_f (B1 := fun c => (oJ S_3 br c).toInt) (hq0_cut_1 _ (show x1.toInt.toNat < 81 by omega))
              have hw9 := sh_w (x := x_46) ⟨by omega, by omega⟩
              have hk9 := sh_k (x := x_35) (s := r_41) (p := fpl nG 0 + dg x1.toNatClampNeg 0) (by omega) (by omega) ⟨by omega, by omega⟩
              have ha9 : (l_45 + (x_46 : Int32).toInt64 <<< (((32 : Int32).toInt64) &&& 63)).toInt = l_45.toInt + x_46.toInt * 4294967296 := by rw [la_i (by omega) (by omega), hw9]
              have hv9 : ((l_45 + (((x_46 : Int32).toInt64) <<< ((32 : Int32).toInt64 &&& 63))) + (((x_35 : Int32).toInt64) <<< ((r_41 : Int32).toInt64 &&& 63))).toInt = (oJ Z br x1.toNatClampNeg).toInt + cdI nG 0 kG (dg x1.toNatClampNeg 0) (wG 0) := by rw [la_i (by omega) (by omega), ha9, hk9.1, show x_35.toInt = (kG : Int) by omega]; unfold cdI; omega
              refine lv_iload_n hx hb dX4_placeIn_78 rfl (lv_at hl 5 rfl) ?_
              refine va_gets hx hb hZ.1.2.2.1 hS hown (hts (.fieldLink RX4 44 "ShipOffice$Hiring" "STEP" "[I") iw_X4_placeIn_6) (fun _ h9 => h9) dX4_placeIn_79 ?_
              refine lv_iload_n hx hb dX4_placeIn_82 rfl (lv_at hl 3 rfl) ?_
              refine va_ti hx hb hZ.1.2.2.2.1 hS (by unfold vp_in; decide) (v := .int 1) rfl dX4_placeIn_83 ?_
              refine lv_iadd hx hb dX4_placeIn_84 ?_
              refine lv_topi (fun x_47 ex_47 => ?_)
              have hx_47 : x_47.toInt = x1.toInt + 1 := (iv_to ex_47).trans (ad_i rfl (by decide) (by omega) (by omega))
              clear ex_47
              refine lv_istore (lv' := [(9, .int x_47), (7, .long ((l_45 + (((x_46 : Int32).toInt64) <<< ((32 : Int32).toInt64 &&& 63))) + (((x_35 : Int32).toInt64) <<< ((r_41 : Int32).toInt64 &&& 63)))), (5, .long (((x_35 : Int32).toInt64) <<< ((r_41 : Int32).toInt64 &&& 63))), (4, .int r_14), (3, .int 0), (0, .ref o), (1, .int x1), (2, .ref a2)]) hx hb dX4_placeIn_85 hl (by decide) rfl (fun ls hl => ?_)
              refine lv_aload_n hx hb dX4_placeIn_87 rfl (lv_at hl 5 rfl) ?_
              refine va_get (D := (dC, dI)) (ci := 4) (v := .ref br) (C := RX4) (T := TX4) (N := 6) hx hb hts in_wsX4_placeIn_X4 hown hK hP q_26 hq_26 rfl 0 (by decide) (hts (.fieldLink RX4 11 "ShipOffice$Hiring" "best" "[J") iw_X4_placeIn_5) (fun _ h9 => h9) (o_rd pk_5) dX4_placeIn_88 ?_
              refine lv_iload hx hb dX4_placeIn_91 (lv_at hl 0 rfl) ?_
              refine lv_aload_n hx hb dX4_placeIn_93 rfl (lv_at hl 5 rfl) ?_
              refine va_get (D := (dC, dI)) (ci := 4) (v := .ref br) (C := RX4) (T := TX4) (N := 6) hx hb hts in_wsX4_placeIn_X4 hown hK hP q_26 hq_26 rfl 0 (by decide) (hts (.fieldLink RX4 11 "ShipOffice$Hiring" "best" "[J") iw_X4_placeIn_5) (fun _ h9 => h9) (o_rd pk_5) dX4_placeIn_94 ?_
              refine lv_iload hx hb dX4_placeIn_97 (lv_at hl 0 rfl) ?_
              refine va_lald hx hb hK hP q_44 1 hq_44 rfl (vp_in_iff.mpr (by omega)) dX4_placeIn_99 ?_
              refine lv_topl (fun l_48 el_48 => ?_)
              refine lv_lload hx hb dX4_placeIn_100 (lv_at hl 1 rfl) ?_
              refine va_mmin_long hx hb (by rw [hml]; exact hl.1.symm) hown (hts (.methodLink RX4 63 Lib.MathLoose.min_long.x) iw_X4_placeIn_7) (hts (.static Lib.MathLoose.min_long.x) iw_X4_placeIn_8) (hts (.initialized "java/lang/Math") iw_X4_placeIn_9) (hts (.code Lib.MathLoose.min_long.x Lib.MathLoose.min_long.code 4 (some .long)) (by decide +kernel)) (Nat.le_of_ble_eq_true rfl) (Nat.le_of_ble_eq_true rfl) (Nat.le_of_ble_eq_true rfl) (Nat.le_of_ble_eq_true rfl) dX4_placeIn_102 ?_
              refine lv_topl (fun l_49 el_49 => ?_)
              refine va_last hx hb hK hP hD hS q_44 1 hq_44 rfl (vp_in_iff.mpr (by omega)) dX4_placeIn_105 (fun H locs hP1 hD1 hS => ?_)
              obtain ⟨S_50, eS_50⟩ : ∃ zq, zq = setJ S_3 br (x_47 : Int32).toNatClampNeg l_49 := ⟨_, rfl⟩
              have hP : va_P (dC, dI) vwCl (oW cq S_50) H := by rw [eS_50]; exact cP (oset t_43.1 hq_44 hD rfl (he_18 t_43.2) neJ) hP1
              have hD : va_D A (oW cq S_50) := by rw [eS_50]; exact cD (oset t_43.1 hq_44 hD rfl (he_18 t_43.2) neJ) hD1
              clear hP1 hD1
              have hIS_50 : oInv S_50 := by rw [eS_50]; exact oInv.J hIS_3
              have XS_50 : oX [2018] S_3 S_50 := by rw [eS_50]; exact oX.J (k := 18) (key := 2018) t_43.2 (fun _ => rfl) (List.mem_singleton.mpr rfl)
              have pk_51 : oP S_50 a2 4 = some wr := by rw [eS_50]; exact pk_4
              have pk_52 : oP S_50 o 0 = some br := by rw [eS_50]; exact pk_5
              have pk_53 : oP S_50 o 1 = some of9 := by rw [eS_50]; exact pk_6
              have pk_54 : oP S_50 o 3 = some fr := by rw [eS_50]; exact pk_7
              have X_55 : oX [2018] Z S_50 := oX.st YS_3 XS_50 (by decide)
              have g_56 : (oI S_50 o 2).toInt = (oI S_3 o 2).toInt := by rw [eS_50]; rfl
              have g_57 : (oI S_50 o 4).toInt = (oI S_3 o 4).toInt := by rw [eS_50]; rfl
              have nx9 : (x_47 : Int32).toNatClampNeg = x1.toNatClampNeg + 3 ^ 0 := (show x_47.toInt.toNat = x1.toInt.toNat + 3 ^ 0 by have q : (3 : Nat) ^ 0 = 1 := (by decide); omega)
              have hz9 := mn_l el_49
              rw [el_48, nx9] at hz9
              have hj9 : oJ S_50 br = vp_updL (oJ S_3 br) (x1.toNatClampNeg + 3 ^ 0) l_49 := by rw [eS_50, setJ_fun, nx9]
              refine lv_iinc (v := 1) (lv' := [(3, .int 1), (9, .int x_47), (7, .long ((l_45 + (((x_46 : Int32).toInt64) <<< ((32 : Int32).toInt64 &&& 63))) + (((x_35 : Int32).toInt64) <<< ((r_41 : Int32).toInt64 &&& 63)))), (5, .long (((x_35 : Int32).toInt64) <<< ((r_41 : Int32).toInt64 &&& 63))), (4, .int r_14), (0, .ref o), (1, .int x1), (2, .ref a2)]) hx hb dX4_placeIn_106 hl (k := 4) rfl (by decide) (by decide) rfl (fun ls hl => ?_)
              refine lv_goto (tgt := 2) hx hb dX4_placeIn_109 (by decide) ?_
              have kc_58 : (1 : Int32).toInt = 1 := by decide
              exact ih (n - 1) (by omega) 1 S_50 _ _ ls (by omega) (by decide) (by have hq9 := hq0_cut_1; rw [show (0 : Int32).toNatClampNeg = 0 from by decide] at hq9; rw [show (1 : Int32).toNatClampNeg = 0 + 1 from by decide]; exact pIn_y (B1 := fun c => (oJ S_3 br c).toInt) (B2 := fun c => (oJ S_50 br c).toInt) hq9 (by decide) (by omega) (by omega) hv9 (by show ((oJ S_50 br _).toInt = _ ∧ _) ∨ _; rw [hj9, upL_e]; exact hz9) (fun c hc => by show (oJ S_50 br c).toInt = (oJ S_3 br c).toInt; rw [hj9, upL_n hc])) hIS_50 (oX.st (oX.st oX.rf XS_3 (by decide)) XS_50 (by decide)) hP hD hS pk_51 pk_52 pk_53 pk_54 (lv_sub hl [0, 5, 6, 7] rfl)
        · subst st_11
          have kc_59 : (1 : Int32).toInt = 1 := by decide
          refine lv_iload_n hx hb dX4_placeIn_7 rfl (lv_at hl 2 rfl) ?_
          refine lv_iload_n hx hb dX4_placeIn_8 rfl (lv_at hl 0 rfl) ?_
          have hFc : ∀ q, va_A [] H.size q → A q := pu_free hS hA
          refine va_calli (va_runS (As := [.int x1, .int 1]) (rest := []) ⟨hx, hb, hml, hown, hts⟩ (c_X4_handsOf l dC dI H.size tL tS tG cq S_3 hIS_3 x1 (by omega) 1 (by decide)) (va_cwS 2 hts gX4_placeIn_X4_handsOf rfl rfl rfl (by decide +kernel) ⟨(Nat.le_of_ble_eq_true rfl), (Nat.le_of_ble_eq_true rfl)⟩) (pr_SO hP hK hD (hZ.go hS hFc)) rfl rfl hl.1 rfl (lv_room (Nat.le_of_ble_eq_true rfl)) dX4_placeIn_9 ⟨(Nat.le_of_ble_eq_true rfl), (Nat.le_of_ble_eq_true rfl)⟩) hS (fun q _ h => hFc q h) hFc (fun r_61 u t H locs ht hvm w_60 hB hz1 hk1 hS => ?_)
          have hP := pu_keep hP hk1
          clear hk1 hz1 hvm hB ht hFc
          obtain ⟨hb_62, hx_63⟩ := w_60
          have ho_64 : r_61.toInt = x1.toInt / 3 % 3 := by have h0 : (1 : Int32).toInt = 1 := (by decide); rw [hx_63, h0]; simp
          have hd9 : r_61.toInt = (dg x1.toNatClampNeg 1 : Int) := by have q := dg_v x1.toNatClampNeg; have q2 : x1.toNatClampNeg = x1.toInt.toNat := rfl; omega
          refine lv_istore (lv' := [(4, .int r_61), (3, .int 1), (0, .ref o), (1, .int x1), (2, .ref a2)]) hx hb dX4_placeIn_12 hl (by decide) rfl (fun ls hl => ?_)
          refine lv_aload_n hx hb dX4_placeIn_14 rfl (lv_at hl 4 rfl) ?_
          have t_65 : oty S_3 a2 6 := (oX.ty XS_3 ta2)
          obtain ⟨q_66, hq_66⟩ := og (cq := cq) t_65.1 (oE_6 t_65.2)
          refine va_get (D := (dC, dI)) (ci := 6) (v := .ref wr) (C := RX6) (T := TX6) (N := 6) hx hb hts in_wsX4_placeIn_X6 hown hK hP q_66 hq_66 rfl 4 (by decide) (hts (.fieldLink RX4 56 "ShipOffice$Man" "wages" "[I") iw_X4_placeIn_1) (fun _ h9 => h9) (o_rd pk_4) dX4_placeIn_15 ?_
          refine lv_iload_n hx hb dX4_placeIn_18 rfl (lv_at hl 1 rfl) ?_
          have t_67 : oty S_3 wr 104 := (oX.ty XS_3 twr)
          obtain ⟨q_68, hq_68⟩ := og (cq := cq) t_67.1 (oE_a1 (n := 4) t_67.2 (by decide))
          refine va_iald hx hb hK hP q_68 0 hq_68 rfl (by unfold vp_in; decide) dX4_placeIn_19 ?_
          refine lv_topi (fun x_69 ex_69 => ?_)
          have gwx_69 : x_69.toInt = wG 1 ∧ 0 ≤ wG 1 ∧ wG 1 ≤ 9999 := by rw [iv_to ex_69, oX.f (W := [2018]) (oX.st oX.rf XS_3 (by decide)) twr (fun _ => nkw (by decide) (by decide) (by decide))]; exact hwg 1 (by decide)
          refine lv_if_le (tgt := 106) hx hb dX4_placeIn_20 (by decide) (fun c_70 => ?_) (fun c_70 => ?_)
          · have dc_70 := c_le (a := x_69.toInt) (b := 0) rfl (by decide) c_70
            refine lv_iinc (v := 2) (lv' := [(3, .int 2), (4, .int r_61), (0, .ref o), (1, .int x1), (2, .ref a2)]) hx hb dX4_placeIn_106 hl (k := 1) rfl (by decide) (by decide) rfl (fun ls hl => ?_)
            refine lv_goto (tgt := 2) hx hb dX4_placeIn_109 (by decide) ?_
            have kc_71 : (2 : Int32).toInt = 2 := by decide
            exact ih (n - 1) (by omega) 2 S_3 _ _ ls (by omega) (by decide) (by have hq9 := hq0_cut_1; rw [show (1 : Int32).toNatClampNeg = 1 from by decide] at hq9; rw [show (2 : Int32).toNatClampNeg = 1 + 1 from by decide]; exact pIn_n hq9 (fun q => by omega)) hIS_3 (oX.st oX.rf XS_3 (by decide)) hP hD hS pk_4 pk_5 pk_6 pk_7 (lv_sub hl [0, 2, 3, 4] rfl)
          · have dc_70 := c_nle (a := x_69.toInt) (b := 0) rfl (by decide) c_70
            refine lv_iload hx hb dX4_placeIn_23 (lv_at hl 0 rfl) ?_
            refine lv_aload_n hx hb dX4_placeIn_25 rfl (lv_at hl 2 rfl) ?_
            have t_72 : oty S_3 o 4 := (oX.ty XS_3 to)
            obtain ⟨q_73, hq_73⟩ := og (cq := cq) t_72.1 (oE_4 t_72.2)
            refine va_get (D := (dC, dI)) (ci := 4) (v := .int (oI S_3 o 4)) (C := RX4) (T := TX4) (N := 6) hx hb hts in_wsX4_placeIn_X4 hown hK hP q_73 hq_73 rfl 4 (by decide) (hts (.fieldLink RX4 34 "ShipOffice$Hiring" "goal" "I") iw_X4_placeIn_2) (fun _ h9 => h9) rfl dX4_placeIn_26 ?_
            refine lv_topi (fun x_74 ex_74 => ?_)
            have hx_74 : 0 ≤ x_74.toInt ∧ x_74.toInt ≤ 80 := iv_of ex_74 (oInv.iv hIS_3 t_72.2 rfl rfl)
            have gx_74 : x_74.toInt = (oI S_3 o 4).toInt := iv_to ex_74
            clear ex_74
            refine lv_iload_n hx hb dX4_placeIn_29 rfl (lv_at hl 1 rfl) ?_
            have hFc : ∀ q, va_A [] H.size q → A q := pu_free hS hA
            refine va_calli (va_runS (As := [.int x_74, .int 1]) (rest := [.int r_61]) ⟨hx, hb, hml, hown, hts⟩ (c_X4_handsOf l dC dI H.size tL tS tG cq S_3 hIS_3 x_74 (by omega) 1 (by decide)) (va_cwS 2 hts gX4_placeIn_X4_handsOf rfl rfl rfl (by decide +kernel) ⟨(Nat.le_of_ble_eq_true rfl), (Nat.le_of_ble_eq_true rfl)⟩) (pr_SO hP hK hD (hZ.go hS hFc)) rfl rfl hl.1 rfl (lv_room (Nat.le_of_ble_eq_true rfl)) dX4_placeIn_30 ⟨(Nat.le_of_ble_eq_true rfl), (Nat.le_of_ble_eq_true rfl)⟩) hS (fun q _ h => hFc q h) hFc (fun r_76 u t H locs ht hvm w_75 hB hz1 hk1 hS => ?_)
            have hP := pu_keep hP hk1
            clear hk1 hz1 hvm hB ht hFc
            obtain ⟨hb_77, hx_78⟩ := w_75
            have ho_79 : r_76.toInt = x_74.toInt / 3 % 3 := by have h0 : (1 : Int32).toInt = 1 := (by decide); rw [hx_78, h0]; simp
            have hg9 : r_76.toInt = (dg nG 1 : Int) := by have q := dg_v nG; omega
            refine lv_icmp_ge (tgt := 106) hx hb dX4_placeIn_33 (by decide) (fun c_80 => ?_) (fun c_80 => ?_)
            · have dc_80 := c_le (a := r_76.toInt) (b := r_61.toInt) rfl rfl c_80
              refine lv_iinc (v := 2) (lv' := [(3, .int 2), (4, .int r_61), (0, .ref o), (1, .int x1), (2, .ref a2)]) hx hb dX4_placeIn_106 hl (k := 1) rfl (by decide) (by decide) rfl (fun ls hl => ?_)
              refine lv_goto (tgt := 2) hx hb dX4_placeIn_109 (by decide) ?_
              have kc_81 : (2 : Int32).toInt = 2 := by decide
              exact ih (n - 1) (by omega) 2 S_3 _ _ ls (by omega) (by decide) (by have hq9 := hq0_cut_1; rw [show (1 : Int32).toNatClampNeg = 1 from by decide] at hq9; rw [show (2 : Int32).toNatClampNeg = 1 + 1 from by decide]; exact pIn_n hq9 (fun q => by omega)) hIS_3 (oX.st oX.rf XS_3 (by decide)) hP hD hS pk_4 pk_5 pk_6 pk_7 (lv_sub hl [0, 2, 3, 4] rfl)
            · have dc_80 := c_nle (a := r_76.toInt) (b := r_61.toInt) rfl rfl c_80
              refine lv_aload_n hx hb dX4_placeIn_36 rfl (lv_at hl 2 rfl) ?_
              refine va_get (D := (dC, dI)) (ci := 4) (v := .int (oI S_3 o 2)) (C := RX4) (T := TX4) (N := 6) hx hb hts in_wsX4_placeIn_X4 hown hK hP q_73 hq_73 rfl 2 (by decide) (hts (.fieldLink RX4 30 "ShipOffice$Hiring" "offerCount" "I") iw_X4_placeIn_3) (fun _ h9 => h9) rfl dX4_placeIn_37 ?_
              refine lv_topi (fun x_82 ex_82 => ?_)
              have hx_82 : 0 ≤ x_82.toInt ∧ x_82.toInt ≤ 12 := iv_of ex_82 (oInv.iv hIS_3 t_72.2 rfl rfl)
              have gx_82 : x_82.toInt = (oI S_3 o 2).toInt := iv_to ex_82
              clear ex_82
              refine lv_i2l (v := (x_82 : Int32).toInt64) hx hb dX4_placeIn_40 rfl ?_
              refine lv_aload_n hx hb dX4_placeIn_41 rfl (lv_at hl 2 rfl) ?_
              refine va_get (D := (dC, dI)) (ci := 4) (v := .ref fr) (C := RX4) (T := TX4) (N := 6) hx hb hts in_wsX4_placeIn_X4 hown hK hP q_73 hq_73 rfl 3 (by decide) (hts (.fieldLink RX4 19 "ShipOffice$Hiring" "firstPlace" "[I") iw_X4_placeIn_4) (fun _ h9 => h9) (o_rd pk_7) dX4_placeIn_42 ?_
              refine lv_iload_n hx hb dX4_placeIn_45 rfl (lv_at hl 1 rfl) ?_
              have t_83 : oty S_3 fr 61 := (oX.ty XS_3 tfr)
              obtain ⟨q_84, hq_84⟩ := og (cq := cq) t_83.1 (oE_61 t_83.2)
              refine va_iald hx hb hK hP q_84 0 hq_84 rfl (by unfold vp_in; decide) dX4_placeIn_46 ?_
              refine lv_topi (fun x_85 ex_85 => ?_)
              have gwx_85 : x_85.toInt = (fpl nG 1 : Int) := by rw [iv_to ex_85, oX.f (W := [2018]) (oX.st oX.rf XS_3 (by decide)) tfr (fun _ => nkw (by decide) (by decide) (by decide))]; exact hfp 1 (by decide)
              have gfx_85 := fpl_6 (n := nG) (r := 1)
              have gbx_85 : 0 ≤ x_85.toInt ∧ x_85.toInt ≤ 6 := by omega
              refine lv_iload hx hb dX4_placeIn_47 (lv_at hl 0 rfl) ?_
              refine lv_iadd hx hb dX4_placeIn_49 ?_
              refine lv_topi (fun x_86 ex_86 => ?_)
              have hx_86 : x_86.toInt = x_85.toInt + r_61.toInt := (iv_to ex_86).trans (ad_i rfl rfl (by omega) (by omega))
              clear ex_86
              have hp9 := (pl_1 (n := nG) (r := 1) (j := dg x1.toNatClampNeg 1) (by decide) (by omega)).1
              have hp8 := hnd_8 (n := nG)
              have hFc : ∀ q, va_A [] H.size q → A q := pu_free hS hA
              have hPc := hP.sub (ws' := []) [] rfl
              have hDc := hD.sub (ws' := []) [] (by decide) rfl
              have hKc := hK.sub (tys' := []) [] rfl
              refine va_calli (va_runS (As := [.int x_86]) (rest := [.long ((x_82 : Int32).toInt64)]) ⟨hx, hb, hml, hown, hts⟩ (c_X4_handShift_c l dC dI H.size  x_86 (by omega)) (va_cwS 1 hts gX4_placeIn_X4_handShift rfl rfl rfl (by decide +kernel) ⟨(Nat.le_of_ble_eq_true rfl), (Nat.le_of_ble_eq_true rfl)⟩) (pr_S hPc hKc hDc) rfl rfl hl.1 rfl (lv_room (Nat.le_of_ble_eq_true rfl)) dX4_placeIn_50 ⟨(Nat.le_of_ble_eq_true rfl), (Nat.le_of_ble_eq_true rfl)⟩) hS (fun q _ h => hFc q h) hFc (fun r_88 u t H locs ht hvm w_87 hB hz1 hk1 hS => ?_)
              have hP := pu_keep hP hk1
              clear hk1 hz1 hvm hB ht hFc hPc hDc hKc
              have hx_89 := w_87
              refine lv_lshl (v := ((x_82 : Int32).toInt64) <<< ((r_88 : Int32).toInt64 &&& 63)) hx hb dX4_placeIn_53 rfl ?_
              refine lv_lstore (lv' := [(5, .long (((x_82 : Int32).toInt64) <<< ((r_88 : Int32).toInt64 &&& 63))), (4, .int r_61), (3, .int 1), (0, .ref o), (1, .int x1), (2, .ref a2)]) hx hb dX4_placeIn_54 hl (by decide) rfl (fun ls hl => ?_)
              refine lv_aload_n hx hb dX4_placeIn_56 rfl (lv_at hl 3 rfl) ?_
              refine va_get (D := (dC, dI)) (ci := 4) (v := .ref br) (C := RX4) (T := TX4) (N := 6) hx hb hts in_wsX4_placeIn_X4 hown hK hP q_73 hq_73 rfl 0 (by decide) (hts (.fieldLink RX4 11 "ShipOffice$Hiring" "best" "[J") iw_X4_placeIn_5) (fun _ h9 => h9) (o_rd pk_5) dX4_placeIn_57 ?_
              refine lv_iload_n hx hb dX4_placeIn_60 rfl (lv_at hl 4 rfl) ?_
              have t_90 : oty S_3 br 18 := (oX.ty XS_3 tbr)
              obtain ⟨q_91, hq_91⟩ := og (cq := cq) t_90.1 (oE_18 t_90.2)
              refine va_lald hx hb hK hP q_91 1 hq_91 rfl (vp_in_iff.mpr (by omega)) dX4_placeIn_61 ?_
              refine lv_topl (fun l_92 el_92 => ?_)
              refine lv_aload_n hx hb dX4_placeIn_62 rfl (lv_at hl 5 rfl) ?_
              refine va_get (D := (dC, dI)) (ci := 6) (v := .ref wr) (C := RX6) (T := TX6) (N := 6) hx hb hts in_wsX4_placeIn_X6 hown hK hP q_66 hq_66 rfl 4 (by decide) (hts (.fieldLink RX4 56 "ShipOffice$Man" "wages" "[I") iw_X4_placeIn_1) (fun _ h9 => h9) (o_rd pk_4) dX4_placeIn_63 ?_
              refine lv_iload_n hx hb dX4_placeIn_66 rfl (lv_at hl 2 rfl) ?_
              refine va_iald hx hb hK hP q_68 0 hq_68 rfl (by unfold vp_in; decide) dX4_placeIn_67 ?_
              refine lv_topi (fun x_93 ex_93 => ?_)
              have gwx_93 : x_93.toInt = wG 1 ∧ 0 ≤ wG 1 ∧ wG 1 ≤ 9999 := by rw [iv_to ex_93, oX.f (W := [2018]) (oX.st oX.rf XS_3 (by decide)) twr (fun _ => nkw (by decide) (by decide) (by decide))]; exact hwg 1 (by decide)
              refine lv_i2l (v := (x_93 : Int32).toInt64) hx hb dX4_placeIn_68 rfl ?_
              refine lv_bipush (v := 32) hx hb dX4_placeIn_69 (by decide) ?_
              refine lv_lshl (v := ((x_93 : Int32).toInt64) <<< ((32 : Int32).toInt64 &&& 63)) hx hb dX4_placeIn_71 rfl ?_
              refine lv_ladd hx hb dX4_placeIn_72 ?_
              refine lv_lload hx hb dX4_placeIn_73 (lv_at hl 0 rfl) ?_
              refine lv_ladd hx hb dX4_placeIn_75 ?_
              refine lv_lstore (lv' := [(7, .long ((l_92 + (((x_93 : Int32).toInt64) <<< ((32 : Int32).toInt64 &&& 63))) + (((x_82 : Int32).toInt64) <<< ((r_88 : Int32).toInt64 &&& 63)))), (5, .long (((x_82 : Int32).toInt64) <<< ((r_88 : Int32).toInt64 &&& 63))), (4, .int r_61), (3, .int 1), (0, .ref o), (1, .int x1), (2, .ref a2)]) hx hb dX4_placeIn_76 hl (by decide) rfl (fun ls hl => ?_)
              have hb9 : l_92.toInt = (oJ Z br x1.toNatClampNeg).toInt := by rw [el_92]; exact pIn_f (B1 := fun c => (oJ S_3 br c).toInt) (hq0_cut_1 _ (show x1.toInt.toNat < 81 by omega))
              have hw9 := sh_w (x := x_93) ⟨by omega, by omega⟩
              have hk9 := sh_k (x := x_82) (s := r_88) (p := fpl nG 1 + dg x1.toNatClampNeg 1) (by omega) (by omega) ⟨by omega, by omega⟩
              have ha9 : (l_92 + (x_93 : Int32).toInt64 <<< (((32 : Int32).toInt64) &&& 63)).toInt = l_92.toInt + x_93.toInt * 4294967296 := by rw [la_i (by omega) (by omega), hw9]
              have hv9 : ((l_92 + (((x_93 : Int32).toInt64) <<< ((32 : Int32).toInt64 &&& 63))) + (((x_82 : Int32).toInt64) <<< ((r_88 : Int32).toInt64 &&& 63))).toInt = (oJ Z br x1.toNatClampNeg).toInt + cdI nG 1 kG (dg x1.toNatClampNeg 1) (wG 1) := by rw [la_i (by omega) (by omega), ha9, hk9.1, show x_82.toInt = (kG : Int) by omega]; unfold cdI; omega
              refine lv_iload_n hx hb dX4_placeIn_78 rfl (lv_at hl 5 rfl) ?_
              refine va_gets hx hb hZ.1.2.2.1 hS hown (hts (.fieldLink RX4 44 "ShipOffice$Hiring" "STEP" "[I") iw_X4_placeIn_6) (fun _ h9 => h9) dX4_placeIn_79 ?_
              refine lv_iload_n hx hb dX4_placeIn_82 rfl (lv_at hl 3 rfl) ?_
              refine va_ti hx hb hZ.1.2.2.2.1 hS (by unfold vp_in; decide) (v := .int 3) rfl dX4_placeIn_83 ?_
              refine lv_iadd hx hb dX4_placeIn_84 ?_
              refine lv_topi (fun x_94 ex_94 => ?_)
              have hx_94 : x_94.toInt = x1.toInt + 3 := (iv_to ex_94).trans (ad_i rfl (by decide) (by omega) (by omega))
              clear ex_94
              refine lv_istore (lv' := [(9, .int x_94), (7, .long ((l_92 + (((x_93 : Int32).toInt64) <<< ((32 : Int32).toInt64 &&& 63))) + (((x_82 : Int32).toInt64) <<< ((r_88 : Int32).toInt64 &&& 63)))), (5, .long (((x_82 : Int32).toInt64) <<< ((r_88 : Int32).toInt64 &&& 63))), (4, .int r_61), (3, .int 1), (0, .ref o), (1, .int x1), (2, .ref a2)]) hx hb dX4_placeIn_85 hl (by decide) rfl (fun ls hl => ?_)
              refine lv_aload_n hx hb dX4_placeIn_87 rfl (lv_at hl 5 rfl) ?_
              refine va_get (D := (dC, dI)) (ci := 4) (v := .ref br) (C := RX4) (T := TX4) (N := 6) hx hb hts in_wsX4_placeIn_X4 hown hK hP q_73 hq_73 rfl 0 (by decide) (hts (.fieldLink RX4 11 "ShipOffice$Hiring" "best" "[J") iw_X4_placeIn_5) (fun _ h9 => h9) (o_rd pk_5) dX4_placeIn_88 ?_
              refine lv_iload hx hb dX4_placeIn_91 (lv_at hl 0 rfl) ?_
              refine lv_aload_n hx hb dX4_placeIn_93 rfl (lv_at hl 5 rfl) ?_
              refine va_get (D := (dC, dI)) (ci := 4) (v := .ref br) (C := RX4) (T := TX4) (N := 6) hx hb hts in_wsX4_placeIn_X4 hown hK hP q_73 hq_73 rfl 0 (by decide) (hts (.fieldLink RX4 11 "ShipOffice$Hiring" "best" "[J") iw_X4_placeIn_5) (fun _ h9 => h9) (o_rd pk_5) dX4_placeIn_94 ?_
              refine lv_iload hx hb dX4_placeIn_97 (lv_at hl 0 rfl) ?_
              refine va_lald hx hb hK hP q_91 1 hq_91 rfl (vp_in_iff.mpr (by omega)) dX4_placeIn_99 ?_
              refine lv_topl (fun l_95 el_95 => ?_)
              refine lv_lload hx hb dX4_placeIn_100 (lv_at hl 1 rfl) ?_
              refine va_mmin_long hx hb (by rw [hml]; exact hl.1.symm) hown (hts (.methodLink RX4 63 Lib.MathLoose.min_long.x) iw_X4_placeIn_7) (hts (.static Lib.MathLoose.min_long.x) iw_X4_placeIn_8) (hts (.initialized "java/lang/Math") iw_X4_placeIn_9) (hts (.code Lib.MathLoose.min_long.x Lib.MathLoose.min_long.code 4 (some .long)) (by decide +kernel)) (Nat.le_of_ble_eq_true rfl) (Nat.le_of_ble_eq_true rfl) (Nat.le_of_ble_eq_true rfl) (Nat.le_of_ble_eq_true rfl) dX4_placeIn_102 ?_
              refine lv_topl (fun l_96 el_96 => ?_)
              refine va_last hx hb hK hP hD hS q_91 1 hq_91 rfl (vp_in_iff.mpr (by omega)) dX4_placeIn_105 (fun H locs hP1 hD1 hS => ?_)
              obtain ⟨S_97, eS_97⟩ : ∃ zq, zq = setJ S_3 br (x_94 : Int32).toNatClampNeg l_96 := ⟨_, rfl⟩
              have hP : va_P (dC, dI) vwCl (oW cq S_97) H := by rw [eS_97]; exact cP (oset t_90.1 hq_91 hD rfl (he_18 t_90.2) neJ) hP1
              have hD : va_D A (oW cq S_97) := by rw [eS_97]; exact cD (oset t_90.1 hq_91 hD rfl (he_18 t_90.2) neJ) hD1
              clear hP1 hD1
              have hIS_97 : oInv S_97 := by rw [eS_97]; exact oInv.J hIS_3
              have XS_97 : oX [2018] S_3 S_97 := by rw [eS_97]; exact oX.J (k := 18) (key := 2018) t_90.2 (fun _ => rfl) (List.mem_singleton.mpr rfl)
              have pk_98 : oP S_97 a2 4 = some wr := by rw [eS_97]; exact pk_4
              have pk_99 : oP S_97 o 0 = some br := by rw [eS_97]; exact pk_5
              have pk_100 : oP S_97 o 1 = some of9 := by rw [eS_97]; exact pk_6
              have pk_101 : oP S_97 o 3 = some fr := by rw [eS_97]; exact pk_7
              have X_102 : oX [2018] Z S_97 := oX.st YS_3 XS_97 (by decide)
              have g_103 : (oI S_97 o 2).toInt = (oI S_3 o 2).toInt := by rw [eS_97]; rfl
              have g_104 : (oI S_97 o 4).toInt = (oI S_3 o 4).toInt := by rw [eS_97]; rfl
              have nx9 : (x_94 : Int32).toNatClampNeg = x1.toNatClampNeg + 3 ^ 1 := (show x_94.toInt.toNat = x1.toInt.toNat + 3 ^ 1 by have q : (3 : Nat) ^ 1 = 3 := (by decide); omega)
              have hz9 := mn_l el_96
              rw [el_95, nx9] at hz9
              have hj9 : oJ S_97 br = vp_updL (oJ S_3 br) (x1.toNatClampNeg + 3 ^ 1) l_96 := by rw [eS_97, setJ_fun, nx9]
              refine lv_iinc (v := 2) (lv' := [(3, .int 2), (9, .int x_94), (7, .long ((l_92 + (((x_93 : Int32).toInt64) <<< ((32 : Int32).toInt64 &&& 63))) + (((x_82 : Int32).toInt64) <<< ((r_88 : Int32).toInt64 &&& 63)))), (5, .long (((x_82 : Int32).toInt64) <<< ((r_88 : Int32).toInt64 &&& 63))), (4, .int r_61), (0, .ref o), (1, .int x1), (2, .ref a2)]) hx hb dX4_placeIn_106 hl (k := 4) rfl (by decide) (by decide) rfl (fun ls hl => ?_)
              refine lv_goto (tgt := 2) hx hb dX4_placeIn_109 (by decide) ?_
              have kc_105 : (2 : Int32).toInt = 2 := by decide
              exact ih (n - 1) (by omega) 2 S_97 _ _ ls (by omega) (by decide) (by have hq9 := hq0_cut_1; rw [show (1 : Int32).toNatClampNeg = 1 from by decide] at hq9; rw [show (2 : Int32).toNatClampNeg = 1 + 1 from by decide]; exact pIn_y (B1 := fun c => (oJ S_3 br c).toInt) (B2 := fun c => (oJ S_97 br c).toInt) hq9 (by decide) (by omega) (by omega) hv9 (by show ((oJ S_97 br _).toInt = _ ∧ _) ∨ _; rw [hj9, upL_e]; exact hz9) (fun c hc => by show (oJ S_97 br c).toInt = (oJ S_3 br c).toInt; rw [hj9, upL_n hc])) hIS_97 (oX.st (oX.st oX.rf XS_3 (by decide)) XS_97 (by decide)) hP hD hS pk_98 pk_99 pk_100 pk_101 (lv_sub hl [0, 5, 6, 7] rfl)
        · subst st_11
          have kc_106 : (2 : Int32).toInt = 2 := by decide
          refine lv_iload_n hx hb dX4_placeIn_7 rfl (lv_at hl 2 rfl) ?_
          refine lv_iload_n hx hb dX4_placeIn_8 rfl (lv_at hl 0 rfl) ?_
          have hFc : ∀ q, va_A [] H.size q → A q := pu_free hS hA
          refine va_calli (va_runS (As := [.int x1, .int 2]) (rest := []) ⟨hx, hb, hml, hown, hts⟩ (c_X4_handsOf l dC dI H.size tL tS tG cq S_3 hIS_3 x1 (by omega) 2 (by decide)) (va_cwS 2 hts gX4_placeIn_X4_handsOf rfl rfl rfl (by decide +kernel) ⟨(Nat.le_of_ble_eq_true rfl), (Nat.le_of_ble_eq_true rfl)⟩) (pr_SO hP hK hD (hZ.go hS hFc)) rfl rfl hl.1 rfl (lv_room (Nat.le_of_ble_eq_true rfl)) dX4_placeIn_9 ⟨(Nat.le_of_ble_eq_true rfl), (Nat.le_of_ble_eq_true rfl)⟩) hS (fun q _ h => hFc q h) hFc (fun r_108 u t H locs ht hvm w_107 hB hz1 hk1 hS => ?_)
          have hP := pu_keep hP hk1
          clear hk1 hz1 hvm hB ht hFc
          obtain ⟨hb_109, hx_110⟩ := w_107
          have ho_111 : r_108.toInt = x1.toInt / 9 % 3 := by have h0 : (2 : Int32).toInt = 2 := (by decide); rw [hx_110, h0]; simp
          have hd9 : r_108.toInt = (dg x1.toNatClampNeg 2 : Int) := by have q := dg_v x1.toNatClampNeg; have q2 : x1.toNatClampNeg = x1.toInt.toNat := rfl; omega
          refine lv_istore (lv' := [(4, .int r_108), (3, .int 2), (0, .ref o), (1, .int x1), (2, .ref a2)]) hx hb dX4_placeIn_12 hl (by decide) rfl (fun ls hl => ?_)
          refine lv_aload_n hx hb dX4_placeIn_14 rfl (lv_at hl 4 rfl) ?_
          have t_112 : oty S_3 a2 6 := (oX.ty XS_3 ta2)
          obtain ⟨q_113, hq_113⟩ := og (cq := cq) t_112.1 (oE_6 t_112.2)
          refine va_get (D := (dC, dI)) (ci := 6) (v := .ref wr) (C := RX6) (T := TX6) (N := 6) hx hb hts in_wsX4_placeIn_X6 hown hK hP q_113 hq_113 rfl 4 (by decide) (hts (.fieldLink RX4 56 "ShipOffice$Man" "wages" "[I") iw_X4_placeIn_1) (fun _ h9 => h9) (o_rd pk_4) dX4_placeIn_15 ?_
          refine lv_iload_n hx hb dX4_placeIn_18 rfl (lv_at hl 1 rfl) ?_
          have t_114 : oty S_3 wr 104 := (oX.ty XS_3 twr)
          obtain ⟨q_115, hq_115⟩ := og (cq := cq) t_114.1 (oE_a1 (n := 4) t_114.2 (by decide))
          refine va_iald hx hb hK hP q_115 0 hq_115 rfl (by unfold vp_in; decide) dX4_placeIn_19 ?_
          refine lv_topi (fun x_116 ex_116 => ?_)
          have gwx_116 : x_116.toInt = wG 2 ∧ 0 ≤ wG 2 ∧ wG 2 ≤ 9999 := by rw [iv_to ex_116, oX.f (W := [2018]) (oX.st oX.rf XS_3 (by decide)) twr (fun _ => nkw (by decide) (by decide) (by decide))]; exact hwg 2 (by decide)
          refine lv_if_le (tgt := 106) hx hb dX4_placeIn_20 (by decide) (fun c_117 => ?_) (fun c_117 => ?_)
          · have dc_117 := c_le (a := x_116.toInt) (b := 0) rfl (by decide) c_117
            refine lv_iinc (v := 3) (lv' := [(3, .int 3), (4, .int r_108), (0, .ref o), (1, .int x1), (2, .ref a2)]) hx hb dX4_placeIn_106 hl (k := 1) rfl (by decide) (by decide) rfl (fun ls hl => ?_)
            refine lv_goto (tgt := 2) hx hb dX4_placeIn_109 (by decide) ?_
            have kc_118 : (3 : Int32).toInt = 3 := by decide
            exact ih (n - 1) (by omega) 3 S_3 _ _ ls (by omega) (by decide) (by have hq9 := hq0_cut_1; rw [show (2 : Int32).toNatClampNeg = 2 from by decide] at hq9; rw [show (3 : Int32).toNatClampNeg = 2 + 1 from by decide]; exact pIn_n hq9 (fun q => by omega)) hIS_3 (oX.st oX.rf XS_3 (by decide)) hP hD hS pk_4 pk_5 pk_6 pk_7 (lv_sub hl [0, 2, 3, 4] rfl)
          · have dc_117 := c_nle (a := x_116.toInt) (b := 0) rfl (by decide) c_117
            refine lv_iload hx hb dX4_placeIn_23 (lv_at hl 0 rfl) ?_
            refine lv_aload_n hx hb dX4_placeIn_25 rfl (lv_at hl 2 rfl) ?_
            have t_119 : oty S_3 o 4 := (oX.ty XS_3 to)
            obtain ⟨q_120, hq_120⟩ := og (cq := cq) t_119.1 (oE_4 t_119.2)
            refine va_get (D := (dC, dI)) (ci := 4) (v := .int (oI S_3 o 4)) (C := RX4) (T := TX4) (N := 6) hx hb hts in_wsX4_placeIn_X4 hown hK hP q_120 hq_120 rfl 4 (by decide) (hts (.fieldLink RX4 34 "ShipOffice$Hiring" "goal" "I") iw_X4_placeIn_2) (fun _ h9 => h9) rfl dX4_placeIn_26 ?_
            refine lv_topi (fun x_121 ex_121 => ?_)
            have hx_121 : 0 ≤ x_121.toInt ∧ x_121.toInt ≤ 80 := iv_of ex_121 (oInv.iv hIS_3 t_119.2 rfl rfl)
            have gx_121 : x_121.toInt = (oI S_3 o 4).toInt := iv_to ex_121
            clear ex_121
            refine lv_iload_n hx hb dX4_placeIn_29 rfl (lv_at hl 1 rfl) ?_
            have hFc : ∀ q, va_A [] H.size q → A q := pu_free hS hA
            refine va_calli (va_runS (As := [.int x_121, .int 2]) (rest := [.int r_108]) ⟨hx, hb, hml, hown, hts⟩ (c_X4_handsOf l dC dI H.size tL tS tG cq S_3 hIS_3 x_121 (by omega) 2 (by decide)) (va_cwS 2 hts gX4_placeIn_X4_handsOf rfl rfl rfl (by decide +kernel) ⟨(Nat.le_of_ble_eq_true rfl), (Nat.le_of_ble_eq_true rfl)⟩) (pr_SO hP hK hD (hZ.go hS hFc)) rfl rfl hl.1 rfl (lv_room (Nat.le_of_ble_eq_true rfl)) dX4_placeIn_30 ⟨(Nat.le_of_ble_eq_true rfl), (Nat.le_of_ble_eq_true rfl)⟩) hS (fun q _ h => hFc q h) hFc (fun r_123 u t H locs ht hvm w_122 hB hz1 hk1 hS => ?_)
            have hP := pu_keep hP hk1
            clear hk1 hz1 hvm hB ht hFc
            obtain ⟨hb_124, hx_125⟩ := w_122
            have ho_126 : r_123.toInt = x_121.toInt / 9 % 3 := by have h0 : (2 : Int32).toInt = 2 := (by decide); rw [hx_125, h0]; simp
            have hg9 : r_123.toInt = (dg nG 2 : Int) := by have q := dg_v nG; omega
            refine lv_icmp_ge (tgt := 106) hx hb dX4_placeIn_33 (by decide) (fun c_127 => ?_) (fun c_127 => ?_)
            · have dc_127 := c_le (a := r_123.toInt) (b := r_108.toInt) rfl rfl c_127
              refine lv_iinc (v := 3) (lv' := [(3, .int 3), (4, .int r_108), (0, .ref o), (1, .int x1), (2, .ref a2)]) hx hb dX4_placeIn_106 hl (k := 1) rfl (by decide) (by decide) rfl (fun ls hl => ?_)
              refine lv_goto (tgt := 2) hx hb dX4_placeIn_109 (by decide) ?_
              have kc_128 : (3 : Int32).toInt = 3 := by decide
              exact ih (n - 1) (by omega) 3 S_3 _ _ ls (by omega) (by decide) (by have hq9 := hq0_cut_1; rw [show (2 : Int32).toNatClampNeg = 2 from by decide] at hq9; rw [show (3 : Int32).toNatClampNeg = 2 + 1 from by decide]; exact pIn_n hq9 (fun q => by omega)) hIS_3 (oX.st oX.rf XS_3 (by decide)) hP hD hS pk_4 pk_5 pk_6 pk_7 (lv_sub hl [0, 2, 3, 4] rfl)
            · have dc_127 := c_nle (a := r_123.toInt) (b := r_108.toInt) rfl rfl c_127
              refine lv_aload_n hx hb dX4_placeIn_36 rfl (lv_at hl 2 rfl) ?_
              refine va_get (D := (dC, dI)) (ci := 4) (v := .int (oI S_3 o 2)) (C := RX4) (T := TX4) (N := 6) hx hb hts in_wsX4_placeIn_X4 hown hK hP q_120 hq_120 rfl 2 (by decide) (hts (.fieldLink RX4 30 "ShipOffice$Hiring" "offerCount" "I") iw_X4_placeIn_3) (fun _ h9 => h9) rfl dX4_placeIn_37 ?_
              refine lv_topi (fun x_129 ex_129 => ?_)
              have hx_129 : 0 ≤ x_129.toInt ∧ x_129.toInt ≤ 12 := iv_of ex_129 (oInv.iv hIS_3 t_119.2 rfl rfl)
              have gx_129 : x_129.toInt = (oI S_3 o 2).toInt := iv_to ex_129
              clear ex_129
              refine lv_i2l (v := (x_129 : Int32).toInt64) hx hb dX4_placeIn_40 rfl ?_
              refine lv_aload_n hx hb dX4_placeIn_41 rfl (lv_at hl 2 rfl) ?_
              refine va_get (D := (dC, dI)) (ci := 4) (v := .ref fr) (C := RX4) (T := TX4) (N := 6) hx hb hts in_wsX4_placeIn_X4 hown hK hP q_120 hq_120 rfl 3 (by decide) (hts (.fieldLink RX4 19 "ShipOffice$Hiring" "firstPlace" "[I") iw_X4_placeIn_4) (fun _ h9 => h9) (o_rd pk_7) dX4_placeIn_42 ?_
              refine lv_iload_n hx hb dX4_placeIn_45 rfl (lv_at hl 1 rfl) ?_
              have t_130 : oty S_3 fr 61 := (oX.ty XS_3 tfr)
              obtain ⟨q_131, hq_131⟩ := og (cq := cq) t_130.1 (oE_61 t_130.2)
              refine va_iald hx hb hK hP q_131 0 hq_131 rfl (by unfold vp_in; decide) dX4_placeIn_46 ?_
              refine lv_topi (fun x_132 ex_132 => ?_)
              have gwx_132 : x_132.toInt = (fpl nG 2 : Int) := by rw [iv_to ex_132, oX.f (W := [2018]) (oX.st oX.rf XS_3 (by decide)) tfr (fun _ => nkw (by decide) (by decide) (by decide))]; exact hfp 2 (by decide)
              have gfx_132 := fpl_6 (n := nG) (r := 2)
              have gbx_132 : 0 ≤ x_132.toInt ∧ x_132.toInt ≤ 6 := by omega
              refine lv_iload hx hb dX4_placeIn_47 (lv_at hl 0 rfl) ?_
              refine lv_iadd hx hb dX4_placeIn_49 ?_
              refine lv_topi (fun x_133 ex_133 => ?_)
              have hx_133 : x_133.toInt = x_132.toInt + r_108.toInt := (iv_to ex_133).trans (ad_i rfl rfl (by omega) (by omega))
              clear ex_133
              have hp9 := (pl_1 (n := nG) (r := 2) (j := dg x1.toNatClampNeg 2) (by decide) (by omega)).1
              have hp8 := hnd_8 (n := nG)
              have hFc : ∀ q, va_A [] H.size q → A q := pu_free hS hA
              have hPc := hP.sub (ws' := []) [] rfl
              have hDc := hD.sub (ws' := []) [] (by decide) rfl
              have hKc := hK.sub (tys' := []) [] rfl
              refine va_calli (va_runS (As := [.int x_133]) (rest := [.long ((x_129 : Int32).toInt64)]) ⟨hx, hb, hml, hown, hts⟩ (c_X4_handShift_c l dC dI H.size  x_133 (by omega)) (va_cwS 1 hts gX4_placeIn_X4_handShift rfl rfl rfl (by decide +kernel) ⟨(Nat.le_of_ble_eq_true rfl), (Nat.le_of_ble_eq_true rfl)⟩) (pr_S hPc hKc hDc) rfl rfl hl.1 rfl (lv_room (Nat.le_of_ble_eq_true rfl)) dX4_placeIn_50 ⟨(Nat.le_of_ble_eq_true rfl), (Nat.le_of_ble_eq_true rfl)⟩) hS (fun q _ h => hFc q h) hFc (fun r_135 u t H locs ht hvm w_134 hB hz1 hk1 hS => ?_)
              have hP := pu_keep hP hk1
              clear hk1 hz1 hvm hB ht hFc hPc hDc hKc
              have hx_136 := w_134
              refine lv_lshl (v := ((x_129 : Int32).toInt64) <<< ((r_135 : Int32).toInt64 &&& 63)) hx hb dX4_placeIn_53 rfl ?_
              refine lv_lstore (lv' := [(5, .long (((x_129 : Int32).toInt64) <<< ((r_135 : Int32).toInt64 &&& 63))), (4, .int r_108), (3, .int 2), (0, .ref o), (1, .int x1), (2, .ref a2)]) hx hb dX4_placeIn_54 hl (by decide) rfl (fun ls hl => ?_)
              refine lv_aload_n hx hb dX4_placeIn_56 rfl (lv_at hl 3 rfl) ?_
              refine va_get (D := (dC, dI)) (ci := 4) (v := .ref br) (C := RX4) (T := TX4) (N := 6) hx hb hts in_wsX4_placeIn_X4 hown hK hP q_120 hq_120 rfl 0 (by decide) (hts (.fieldLink RX4 11 "ShipOffice$Hiring" "best" "[J") iw_X4_placeIn_5) (fun _ h9 => h9) (o_rd pk_5) dX4_placeIn_57 ?_
              refine lv_iload_n hx hb dX4_placeIn_60 rfl (lv_at hl 4 rfl) ?_
              have t_137 : oty S_3 br 18 := (oX.ty XS_3 tbr)
              obtain ⟨q_138, hq_138⟩ := og (cq := cq) t_137.1 (oE_18 t_137.2)
              refine va_lald hx hb hK hP q_138 1 hq_138 rfl (vp_in_iff.mpr (by omega)) dX4_placeIn_61 ?_
              refine lv_topl (fun l_139 el_139 => ?_)
              refine lv_aload_n hx hb dX4_placeIn_62 rfl (lv_at hl 5 rfl) ?_
              refine va_get (D := (dC, dI)) (ci := 6) (v := .ref wr) (C := RX6) (T := TX6) (N := 6) hx hb hts in_wsX4_placeIn_X6 hown hK hP q_113 hq_113 rfl 4 (by decide) (hts (.fieldLink RX4 56 "ShipOffice$Man" "wages" "[I") iw_X4_placeIn_1) (fun _ h9 => h9) (o_rd pk_4) dX4_placeIn_63 ?_
              refine lv_iload_n hx hb dX4_placeIn_66 rfl (lv_at hl 2 rfl) ?_
              refine va_iald hx hb hK hP q_115 0 hq_115 rfl (by unfold vp_in; decide) dX4_placeIn_67 ?_
              refine lv_topi (fun x_140 ex_140 => ?_)
              have gwx_140 : x_140.toInt = wG 2 ∧ 0 ≤ wG 2 ∧ wG 2 ≤ 9999 := by rw [iv_to ex_140, oX.f (W := [2018]) (oX.st oX.rf XS_3 (by decide)) twr (fun _ => nkw (by decide) (by decide) (by decide))]; exact hwg 2 (by decide)
              refine lv_i2l (v := (x_140 : Int32).toInt64) hx hb dX4_placeIn_68 rfl ?_
              refine lv_bipush (v := 32) hx hb dX4_placeIn_69 (by decide) ?_
              refine lv_lshl (v := ((x_140 : Int32).toInt64) <<< ((32 : Int32).toInt64 &&& 63)) hx hb dX4_placeIn_71 rfl ?_
              refine lv_ladd hx hb dX4_placeIn_72 ?_
              refine lv_lload hx hb dX4_placeIn_73 (lv_at hl 0 rfl) ?_
              refine lv_ladd hx hb dX4_placeIn_75 ?_
              refine lv_lstore (lv' := [(7, .long ((l_139 + (((x_140 : Int32).toInt64) <<< ((32 : Int32).toInt64 &&& 63))) + (((x_129 : Int32).toInt64) <<< ((r_135 : Int32).toInt64 &&& 63)))), (5, .long (((x_129 : Int32).toInt64) <<< ((r_135 : Int32).toInt64 &&& 63))), (4, .int r_108), (3, .int 2), (0, .ref o), (1, .int x1), (2, .ref a2)]) hx hb dX4_placeIn_76 hl (by decide) rfl (fun ls hl => ?_)
              have hb9 : l_139.toInt = (oJ Z br x1.toNatClampNeg).toInt := by rw [el_139]; exact pIn_f (B1 := fun c => (oJ S_3 br c).toInt) (hq0_cut_1 _ (show x1.toInt.toNat < 81 by omega))
              have hw9 := sh_w (x := x_140) ⟨by omega, by omega⟩
              have hk9 := sh_k (x := x_129) (s := r_135) (p := fpl nG 2 + dg x1.toNatClampNeg 2) (by omega) (by omega) ⟨by omega, by omega⟩
              have ha9 : (l_139 + (x_140 : Int32).toInt64 <<< (((32 : Int32).toInt64) &&& 63)).toInt = l_139.toInt + x_140.toInt * 4294967296 := by rw [la_i (by omega) (by omega), hw9]
              have hv9 : ((l_139 + (((x_140 : Int32).toInt64) <<< ((32 : Int32).toInt64 &&& 63))) + (((x_129 : Int32).toInt64) <<< ((r_135 : Int32).toInt64 &&& 63))).toInt = (oJ Z br x1.toNatClampNeg).toInt + cdI nG 2 kG (dg x1.toNatClampNeg 2) (wG 2) := by rw [la_i (by omega) (by omega), ha9, hk9.1, show x_129.toInt = (kG : Int) by omega]; unfold cdI; omega
              refine lv_iload_n hx hb dX4_placeIn_78 rfl (lv_at hl 5 rfl) ?_
              refine va_gets hx hb hZ.1.2.2.1 hS hown (hts (.fieldLink RX4 44 "ShipOffice$Hiring" "STEP" "[I") iw_X4_placeIn_6) (fun _ h9 => h9) dX4_placeIn_79 ?_
              refine lv_iload_n hx hb dX4_placeIn_82 rfl (lv_at hl 3 rfl) ?_
              refine va_ti hx hb hZ.1.2.2.2.1 hS (by unfold vp_in; decide) (v := .int 9) rfl dX4_placeIn_83 ?_
              refine lv_iadd hx hb dX4_placeIn_84 ?_
              refine lv_topi (fun x_141 ex_141 => ?_)
              have hx_141 : x_141.toInt = x1.toInt + 9 := (iv_to ex_141).trans (ad_i rfl (by decide) (by omega) (by omega))
              clear ex_141
              refine lv_istore (lv' := [(9, .int x_141), (7, .long ((l_139 + (((x_140 : Int32).toInt64) <<< ((32 : Int32).toInt64 &&& 63))) + (((x_129 : Int32).toInt64) <<< ((r_135 : Int32).toInt64 &&& 63)))), (5, .long (((x_129 : Int32).toInt64) <<< ((r_135 : Int32).toInt64 &&& 63))), (4, .int r_108), (3, .int 2), (0, .ref o), (1, .int x1), (2, .ref a2)]) hx hb dX4_placeIn_85 hl (by decide) rfl (fun ls hl => ?_)
              refine lv_aload_n hx hb dX4_placeIn_87 rfl (lv_at hl 5 rfl) ?_
              refine va_get (D := (dC, dI)) (ci := 4) (v := .ref br) (C := RX4) (T := TX4) (N := 6) hx hb hts in_wsX4_placeIn_X4 hown hK hP q_120 hq_120 rfl 0 (by decide) (hts (.fieldLink RX4 11 "ShipOffice$Hiring" "best" "[J") iw_X4_placeIn_5) (fun _ h9 => h9) (o_rd pk_5) dX4_placeIn_88 ?_
              refine lv_iload hx hb dX4_placeIn_91 (lv_at hl 0 rfl) ?_
              refine lv_aload_n hx hb dX4_placeIn_93 rfl (lv_at hl 5 rfl) ?_
              refine va_get (D := (dC, dI)) (ci := 4) (v := .ref br) (C := RX4) (T := TX4) (N := 6) hx hb hts in_wsX4_placeIn_X4 hown hK hP q_120 hq_120 rfl 0 (by decide) (hts (.fieldLink RX4 11 "ShipOffice$Hiring" "best" "[J") iw_X4_placeIn_5) (fun _ h9 => h9) (o_rd pk_5) dX4_placeIn_94 ?_
              refine lv_iload hx hb dX4_placeIn_97 (lv_at hl 0 rfl) ?_
              refine va_lald hx hb hK hP q_138 1 hq_138 rfl (vp_in_iff.mpr (by omega)) dX4_placeIn_99 ?_
              refine lv_topl (fun l_142 el_142 => ?_)
              refine lv_lload hx hb dX4_placeIn_100 (lv_at hl 1 rfl) ?_
              refine va_mmin_long hx hb (by rw [hml]; exact hl.1.symm) hown (hts (.methodLink RX4 63 Lib.MathLoose.min_long.x) iw_X4_placeIn_7) (hts (.static Lib.MathLoose.min_long.x) iw_X4_placeIn_8) (hts (.initialized "java/lang/Math") iw_X4_placeIn_9) (hts (.code Lib.MathLoose.min_long.x Lib.MathLoose.min_long.code 4 (some .long)) (by decide +kernel)) (Nat.le_of_ble_eq_true rfl) (Nat.le_of_ble_eq_true rfl) (Nat.le_of_ble_eq_true rfl) (Nat.le_of_ble_eq_true rfl) dX4_placeIn_102 ?_
              refine lv_topl (fun l_143 el_143 => ?_)
              refine va_last hx hb hK hP hD hS q_138 1 hq_138 rfl (vp_in_iff.mpr (by omega)) dX4_placeIn_105 (fun H locs hP1 hD1 hS => ?_)
              obtain ⟨S_144, eS_144⟩ : ∃ zq, zq = setJ S_3 br (x_141 : Int32).toNatClampNeg l_143 := ⟨_, rfl⟩
              have hP : va_P (dC, dI) vwCl (oW cq S_144) H := by rw [eS_144]; exact cP (oset t_137.1 hq_138 hD rfl (he_18 t_137.2) neJ) hP1
              have hD : va_D A (oW cq S_144) := by rw [eS_144]; exact cD (oset t_137.1 hq_138 hD rfl (he_18 t_137.2) neJ) hD1
              clear hP1 hD1
              have hIS_144 : oInv S_144 := by rw [eS_144]; exact oInv.J hIS_3
              have XS_144 : oX [2018] S_3 S_144 := by rw [eS_144]; exact oX.J (k := 18) (key := 2018) t_137.2 (fun _ => rfl) (List.mem_singleton.mpr rfl)
              have pk_145 : oP S_144 a2 4 = some wr := by rw [eS_144]; exact pk_4
              have pk_146 : oP S_144 o 0 = some br := by rw [eS_144]; exact pk_5
              have pk_147 : oP S_144 o 1 = some of9 := by rw [eS_144]; exact pk_6
              have pk_148 : oP S_144 o 3 = some fr := by rw [eS_144]; exact pk_7
              have X_149 : oX [2018] Z S_144 := oX.st YS_3 XS_144 (by decide)
              have g_150 : (oI S_144 o 2).toInt = (oI S_3 o 2).toInt := by rw [eS_144]; rfl
              have g_151 : (oI S_144 o 4).toInt = (oI S_3 o 4).toInt := by rw [eS_144]; rfl
              have nx9 : (x_141 : Int32).toNatClampNeg = x1.toNatClampNeg + 3 ^ 2 := (show x_141.toInt.toNat = x1.toInt.toNat + 3 ^ 2 by have q : (3 : Nat) ^ 2 = 9 := (by decide); omega)
              have hz9 := mn_l el_143
              rw [el_142, nx9] at hz9
              have hj9 : oJ S_144 br = vp_updL (oJ S_3 br) (x1.toNatClampNeg + 3 ^ 2) l_143 := by rw [eS_144, setJ_fun, nx9]
              refine lv_iinc (v := 3) (lv' := [(3, .int 3), (9, .int x_141), (7, .long ((l_139 + (((x_140 : Int32).toInt64) <<< ((32 : Int32).toInt64 &&& 63))) + (((x_129 : Int32).toInt64) <<< ((r_135 : Int32).toInt64 &&& 63)))), (5, .long (((x_129 : Int32).toInt64) <<< ((r_135 : Int32).toInt64 &&& 63))), (4, .int r_108), (0, .ref o), (1, .int x1), (2, .ref a2)]) hx hb dX4_placeIn_106 hl (k := 4) rfl (by decide) (by decide) rfl (fun ls hl => ?_)
              refine lv_goto (tgt := 2) hx hb dX4_placeIn_109 (by decide) ?_
              have kc_152 : (3 : Int32).toInt = 3 := by decide
              exact ih (n - 1) (by omega) 3 S_144 _ _ ls (by omega) (by decide) (by have hq9 := hq0_cut_1; rw [show (2 : Int32).toNatClampNeg = 2 from by decide] at hq9; rw [show (3 : Int32).toNatClampNeg = 2 + 1 from by decide]; exact pIn_y (B1 := fun c => (oJ S_3 br c).toInt) (B2 := fun c => (oJ S_144 br c).toInt) hq9 (by decide) (by omega) (by omega) hv9 (by show ((oJ S_144 br _).toInt = _ ∧ _) ∨ _; rw [hj9, upL_e]; exact hz9) (fun c hc => by show (oJ S_144 br c).toInt = (oJ S_3 br c).toInt; rw [hj9, upL_n hc])) hIS_144 (oX.st (oX.st oX.rf XS_3 (by decide)) XS_144 (by decide)) hP hD hS pk_145 pk_146 pk_147 pk_148 (lv_sub hl [0, 5, 6, 7] rfl)
        · subst st_11
          have kc_153 : (3 : Int32).toInt = 3 := by decide
          refine lv_iload_n hx hb dX4_placeIn_7 rfl (lv_at hl 2 rfl) ?_
          refine lv_iload_n hx hb dX4_placeIn_8 rfl (lv_at hl 0 rfl) ?_
          have hFc : ∀ q, va_A [] H.size q → A q := pu_free hS hA
          refine va_calli (va_runS (As := [.int x1, .int 3]) (rest := []) ⟨hx, hb, hml, hown, hts⟩ (c_X4_handsOf l dC dI H.size tL tS tG cq S_3 hIS_3 x1 (by omega) 3 (by decide)) (va_cwS 2 hts gX4_placeIn_X4_handsOf rfl rfl rfl (by decide +kernel) ⟨(Nat.le_of_ble_eq_true rfl), (Nat.le_of_ble_eq_true rfl)⟩) (pr_SO hP hK hD (hZ.go hS hFc)) rfl rfl hl.1 rfl (lv_room (Nat.le_of_ble_eq_true rfl)) dX4_placeIn_9 ⟨(Nat.le_of_ble_eq_true rfl), (Nat.le_of_ble_eq_true rfl)⟩) hS (fun q _ h => hFc q h) hFc (fun r_155 u t H locs ht hvm w_154 hB hz1 hk1 hS => ?_)
          have hP := pu_keep hP hk1
          clear hk1 hz1 hvm hB ht hFc
          obtain ⟨hb_156, hx_157⟩ := w_154
          have ho_158 : r_155.toInt = x1.toInt / 27 % 3 := by have h0 : (3 : Int32).toInt = 3 := (by decide); rw [hx_157, h0]; simp
          have hd9 : r_155.toInt = (dg x1.toNatClampNeg 3 : Int) := by have q := dg_v x1.toNatClampNeg; have q2 : x1.toNatClampNeg = x1.toInt.toNat := rfl; omega
          refine lv_istore (lv' := [(4, .int r_155), (3, .int 3), (0, .ref o), (1, .int x1), (2, .ref a2)]) hx hb dX4_placeIn_12 hl (by decide) rfl (fun ls hl => ?_)
          refine lv_aload_n hx hb dX4_placeIn_14 rfl (lv_at hl 4 rfl) ?_
          have t_159 : oty S_3 a2 6 := (oX.ty XS_3 ta2)
          obtain ⟨q_160, hq_160⟩ := og (cq := cq) t_159.1 (oE_6 t_159.2)
          refine va_get (D := (dC, dI)) (ci := 6) (v := .ref wr) (C := RX6) (T := TX6) (N := 6) hx hb hts in_wsX4_placeIn_X6 hown hK hP q_160 hq_160 rfl 4 (by decide) (hts (.fieldLink RX4 56 "ShipOffice$Man" "wages" "[I") iw_X4_placeIn_1) (fun _ h9 => h9) (o_rd pk_4) dX4_placeIn_15 ?_
          refine lv_iload_n hx hb dX4_placeIn_18 rfl (lv_at hl 1 rfl) ?_
          have t_161 : oty S_3 wr 104 := (oX.ty XS_3 twr)
          obtain ⟨q_162, hq_162⟩ := og (cq := cq) t_161.1 (oE_a1 (n := 4) t_161.2 (by decide))
          refine va_iald hx hb hK hP q_162 0 hq_162 rfl (by unfold vp_in; decide) dX4_placeIn_19 ?_
          refine lv_topi (fun x_163 ex_163 => ?_)
          have gwx_163 : x_163.toInt = wG 3 ∧ 0 ≤ wG 3 ∧ wG 3 ≤ 9999 := by rw [iv_to ex_163, oX.f (W := [2018]) (oX.st oX.rf XS_3 (by decide)) twr (fun _ => nkw (by decide) (by decide) (by decide))]; exact hwg 3 (by decide)
          refine lv_if_le (tgt := 106) hx hb dX4_placeIn_20 (by decide) (fun c_164 => ?_) (fun c_164 => ?_)
          · have dc_164 := c_le (a := x_163.toInt) (b := 0) rfl (by decide) c_164
            refine lv_iinc (v := 4) (lv' := [(3, .int 4), (4, .int r_155), (0, .ref o), (1, .int x1), (2, .ref a2)]) hx hb dX4_placeIn_106 hl (k := 1) rfl (by decide) (by decide) rfl (fun ls hl => ?_)
            refine lv_goto (tgt := 2) hx hb dX4_placeIn_109 (by decide) ?_
            have kc_165 : (4 : Int32).toInt = 4 := by decide
            exact ih (n - 1) (by omega) 4 S_3 _ _ ls (by omega) (by decide) (by have hq9 := hq0_cut_1; rw [show (3 : Int32).toNatClampNeg = 3 from by decide] at hq9; rw [show (4 : Int32).toNatClampNeg = 3 + 1 from by decide]; exact pIn_n hq9 (fun q => by omega)) hIS_3 (oX.st oX.rf XS_3 (by decide)) hP hD hS pk_4 pk_5 pk_6 pk_7 (lv_sub hl [0, 2, 3, 4] rfl)
          · have dc_164 := c_nle (a := x_163.toInt) (b := 0) rfl (by decide) c_164
            refine lv_iload hx hb dX4_placeIn_23 (lv_at hl 0 rfl) ?_
            refine lv_aload_n hx hb dX4_placeIn_25 rfl (lv_at hl 2 rfl) ?_
            have t_166 : oty S_3 o 4 := (oX.ty XS_3 to)
            obtain ⟨q_167, hq_167⟩ := og (cq := cq) t_166.1 (oE_4 t_166.2)
            refine va_get (D := (dC, dI)) (ci := 4) (v := .int (oI S_3 o 4)) (C := RX4) (T := TX4) (N := 6) hx hb hts in_wsX4_placeIn_X4 hown hK hP q_167 hq_167 rfl 4 (by decide) (hts (.fieldLink RX4 34 "ShipOffice$Hiring" "goal" "I") iw_X4_placeIn_2) (fun _ h9 => h9) rfl dX4_placeIn_26 ?_
            refine lv_topi (fun x_168 ex_168 => ?_)
            have hx_168 : 0 ≤ x_168.toInt ∧ x_168.toInt ≤ 80 := iv_of ex_168 (oInv.iv hIS_3 t_166.2 rfl rfl)
            have gx_168 : x_168.toInt = (oI S_3 o 4).toInt := iv_to ex_168
            clear ex_168
            refine lv_iload_n hx hb dX4_placeIn_29 rfl (lv_at hl 1 rfl) ?_
            have hFc : ∀ q, va_A [] H.size q → A q := pu_free hS hA
            refine va_calli (va_runS (As := [.int x_168, .int 3]) (rest := [.int r_155]) ⟨hx, hb, hml, hown, hts⟩ (c_X4_handsOf l dC dI H.size tL tS tG cq S_3 hIS_3 x_168 (by omega) 3 (by decide)) (va_cwS 2 hts gX4_placeIn_X4_handsOf rfl rfl rfl (by decide +kernel) ⟨(Nat.le_of_ble_eq_true rfl), (Nat.le_of_ble_eq_true rfl)⟩) (pr_SO hP hK hD (hZ.go hS hFc)) rfl rfl hl.1 rfl (lv_room (Nat.le_of_ble_eq_true rfl)) dX4_placeIn_30 ⟨(Nat.le_of_ble_eq_true rfl), (Nat.le_of_ble_eq_true rfl)⟩) hS (fun q _ h => hFc q h) hFc (fun r_170 u t H locs ht hvm w_169 hB hz1 hk1 hS => ?_)
            have hP := pu_keep hP hk1
            clear hk1 hz1 hvm hB ht hFc
            obtain ⟨hb_171, hx_172⟩ := w_169
            have ho_173 : r_170.toInt = x_168.toInt / 27 % 3 := by have h0 : (3 : Int32).toInt = 3 := (by decide); rw [hx_172, h0]; simp
            have hg9 : r_170.toInt = (dg nG 3 : Int) := by have q := dg_v nG; omega
            refine lv_icmp_ge (tgt := 106) hx hb dX4_placeIn_33 (by decide) (fun c_174 => ?_) (fun c_174 => ?_)
            · have dc_174 := c_le (a := r_170.toInt) (b := r_155.toInt) rfl rfl c_174
              refine lv_iinc (v := 4) (lv' := [(3, .int 4), (4, .int r_155), (0, .ref o), (1, .int x1), (2, .ref a2)]) hx hb dX4_placeIn_106 hl (k := 1) rfl (by decide) (by decide) rfl (fun ls hl => ?_)
              refine lv_goto (tgt := 2) hx hb dX4_placeIn_109 (by decide) ?_
              have kc_175 : (4 : Int32).toInt = 4 := by decide
              exact ih (n - 1) (by omega) 4 S_3 _ _ ls (by omega) (by decide) (by have hq9 := hq0_cut_1; rw [show (3 : Int32).toNatClampNeg = 3 from by decide] at hq9; rw [show (4 : Int32).toNatClampNeg = 3 + 1 from by decide]; exact pIn_n hq9 (fun q => by omega)) hIS_3 (oX.st oX.rf XS_3 (by decide)) hP hD hS pk_4 pk_5 pk_6 pk_7 (lv_sub hl [0, 2, 3, 4] rfl)
            · have dc_174 := c_nle (a := r_170.toInt) (b := r_155.toInt) rfl rfl c_174
              refine lv_aload_n hx hb dX4_placeIn_36 rfl (lv_at hl 2 rfl) ?_
              refine va_get (D := (dC, dI)) (ci := 4) (v := .int (oI S_3 o 2)) (C := RX4) (T := TX4) (N := 6) hx hb hts in_wsX4_placeIn_X4 hown hK hP q_167 hq_167 rfl 2 (by decide) (hts (.fieldLink RX4 30 "ShipOffice$Hiring" "offerCount" "I") iw_X4_placeIn_3) (fun _ h9 => h9) rfl dX4_placeIn_37 ?_
              refine lv_topi (fun x_176 ex_176 => ?_)
              have hx_176 : 0 ≤ x_176.toInt ∧ x_176.toInt ≤ 12 := iv_of ex_176 (oInv.iv hIS_3 t_166.2 rfl rfl)
              have gx_176 : x_176.toInt = (oI S_3 o 2).toInt := iv_to ex_176
              clear ex_176
              refine lv_i2l (v := (x_176 : Int32).toInt64) hx hb dX4_placeIn_40 rfl ?_
              refine lv_aload_n hx hb dX4_placeIn_41 rfl (lv_at hl 2 rfl) ?_
              refine va_get (D := (dC, dI)) (ci := 4) (v := .ref fr) (C := RX4) (T := TX4) (N := 6) hx hb hts in_wsX4_placeIn_X4 hown hK hP q_167 hq_167 rfl 3 (by decide) (hts (.fieldLink RX4 19 "ShipOffice$Hiring" "firstPlace" "[I") iw_X4_placeIn_4) (fun _ h9 => h9) (o_rd pk_7) dX4_placeIn_42 ?_
              refine lv_iload_n hx hb dX4_placeIn_45 rfl (lv_at hl 1 rfl) ?_
              have t_177 : oty S_3 fr 61 := (oX.ty XS_3 tfr)
              obtain ⟨q_178, hq_178⟩ := og (cq := cq) t_177.1 (oE_61 t_177.2)
              refine va_iald hx hb hK hP q_178 0 hq_178 rfl (by unfold vp_in; decide) dX4_placeIn_46 ?_
              refine lv_topi (fun x_179 ex_179 => ?_)
              have gwx_179 : x_179.toInt = (fpl nG 3 : Int) := by rw [iv_to ex_179, oX.f (W := [2018]) (oX.st oX.rf XS_3 (by decide)) tfr (fun _ => nkw (by decide) (by decide) (by decide))]; exact hfp 3 (by decide)
              have gfx_179 := fpl_6 (n := nG) (r := 3)
              have gbx_179 : 0 ≤ x_179.toInt ∧ x_179.toInt ≤ 6 := by omega
              refine lv_iload hx hb dX4_placeIn_47 (lv_at hl 0 rfl) ?_
              refine lv_iadd hx hb dX4_placeIn_49 ?_
              refine lv_topi (fun x_180 ex_180 => ?_)
              have hx_180 : x_180.toInt = x_179.toInt + r_155.toInt := (iv_to ex_180).trans (ad_i rfl rfl (by omega) (by omega))
              clear ex_180
              have hp9 := (pl_1 (n := nG) (r := 3) (j := dg x1.toNatClampNeg 3) (by decide) (by omega)).1
              have hp8 := hnd_8 (n := nG)
              have hFc : ∀ q, va_A [] H.size q → A q := pu_free hS hA
              have hPc := hP.sub (ws' := []) [] rfl
              have hDc := hD.sub (ws' := []) [] (by decide) rfl
              have hKc := hK.sub (tys' := []) [] rfl
              refine va_calli (va_runS (As := [.int x_180]) (rest := [.long ((x_176 : Int32).toInt64)]) ⟨hx, hb, hml, hown, hts⟩ (c_X4_handShift_c l dC dI H.size  x_180 (by omega)) (va_cwS 1 hts gX4_placeIn_X4_handShift rfl rfl rfl (by decide +kernel) ⟨(Nat.le_of_ble_eq_true rfl), (Nat.le_of_ble_eq_true rfl)⟩) (pr_S hPc hKc hDc) rfl rfl hl.1 rfl (lv_room (Nat.le_of_ble_eq_true rfl)) dX4_placeIn_50 ⟨(Nat.le_of_ble_eq_true rfl), (Nat.le_of_ble_eq_true rfl)⟩) hS (fun q _ h => hFc q h) hFc (fun r_182 u t H locs ht hvm w_181 hB hz1 hk1 hS => ?_)
              have hP := pu_keep hP hk1
              clear hk1 hz1 hvm hB ht hFc hPc hDc hKc
              have hx_183 := w_181
              refine lv_lshl (v := ((x_176 : Int32).toInt64) <<< ((r_182 : Int32).toInt64 &&& 63)) hx hb dX4_placeIn_53 rfl ?_
              refine lv_lstore (lv' := [(5, .long (((x_176 : Int32).toInt64) <<< ((r_182 : Int32).toInt64 &&& 63))), (4, .int r_155), (3, .int 3), (0, .ref o), (1, .int x1), (2, .ref a2)]) hx hb dX4_placeIn_54 hl (by decide) rfl (fun ls hl => ?_)
              refine lv_aload_n hx hb dX4_placeIn_56 rfl (lv_at hl 3 rfl) ?_
              refine va_get (D := (dC, dI)) (ci := 4) (v := .ref br) (C := RX4) (T := TX4) (N := 6) hx hb hts in_wsX4_placeIn_X4 hown hK hP q_167 hq_167 rfl 0 (by decide) (hts (.fieldLink RX4 11 "ShipOffice$Hiring" "best" "[J") iw_X4_placeIn_5) (fun _ h9 => h9) (o_rd pk_5) dX4_placeIn_57 ?_
              refine lv_iload_n hx hb dX4_placeIn_60 rfl (lv_at hl 4 rfl) ?_
              have t_184 : oty S_3 br 18 := (oX.ty XS_3 tbr)
              obtain ⟨q_185, hq_185⟩ := og (cq := cq) t_184.1 (oE_18 t_184.2)
              refine va_lald hx hb hK hP q_185 1 hq_185 rfl (vp_in_iff.mpr (by omega)) dX4_placeIn_61 ?_
              refine lv_topl (fun l_186 el_186 => ?_)
              refine lv_aload_n hx hb dX4_placeIn_62 rfl (lv_at hl 5 rfl) ?_
              refine va_get (D := (dC, dI)) (ci := 6) (v := .ref wr) (C := RX6) (T := TX6) (N := 6) hx hb hts in_wsX4_placeIn_X6 hown hK hP q_160 hq_160 rfl 4 (by decide) (hts (.fieldLink RX4 56 "ShipOffice$Man" "wages" "[I") iw_X4_placeIn_1) (fun _ h9 => h9) (o_rd pk_4) dX4_placeIn_63 ?_
              refine lv_iload_n hx hb dX4_placeIn_66 rfl (lv_at hl 2 rfl) ?_
              refine va_iald hx hb hK hP q_162 0 hq_162 rfl (by unfold vp_in; decide) dX4_placeIn_67 ?_
              refine lv_topi (fun x_187 ex_187 => ?_)
              have gwx_187 : x_187.toInt = wG 3 ∧ 0 ≤ wG 3 ∧ wG 3 ≤ 9999 := by rw [iv_to ex_187, oX.f (W := [2018]) (oX.st oX.rf XS_3 (by decide)) twr (fun _ => nkw (by decide) (by decide) (by decide))]; exact hwg 3 (by decide)
              refine lv_i2l (v := (x_187 : Int32).toInt64) hx hb dX4_placeIn_68 rfl ?_
              refine lv_bipush (v := 32) hx hb dX4_placeIn_69 (by decide) ?_
              refine lv_lshl (v := ((x_187 : Int32).toInt64) <<< ((32 : Int32).toInt64 &&& 63)) hx hb dX4_placeIn_71 rfl ?_
              refine lv_ladd hx hb dX4_placeIn_72 ?_
              refine lv_lload hx hb dX4_placeIn_73 (lv_at hl 0 rfl) ?_
              refine lv_ladd hx hb dX4_placeIn_75 ?_
              refine lv_lstore (lv' := [(7, .long ((l_186 + (((x_187 : Int32).toInt64) <<< ((32 : Int32).toInt64 &&& 63))) + (((x_176 : Int32).toInt64) <<< ((r_182 : Int32).toInt64 &&& 63)))), (5, .long (((x_176 : Int32).toInt64) <<< ((r_182 : Int32).toInt64 &&& 63))), (4, .int r_155), (3, .int 3), (0, .ref o), (1, .int x1), (2, .ref a2)]) hx hb dX4_placeIn_76 hl (by decide) rfl (fun ls hl => ?_)
              have hb9 : l_186.toInt = (oJ Z br x1.toNatClampNeg).toInt := by rw [el_186]; exact pIn_f (B1 := fun c => (oJ S_3 br c).toInt) (hq0_cut_1 _ (show x1.toInt.toNat < 81 by omega))
              have hw9 := sh_w (x := x_187) ⟨by omega, by omega⟩
              have hk9 := sh_k (x := x_176) (s := r_182) (p := fpl nG 3 + dg x1.toNatClampNeg 3) (by omega) (by omega) ⟨by omega, by omega⟩
              have ha9 : (l_186 + (x_187 : Int32).toInt64 <<< (((32 : Int32).toInt64) &&& 63)).toInt = l_186.toInt + x_187.toInt * 4294967296 := by rw [la_i (by omega) (by omega), hw9]
              have hv9 : ((l_186 + (((x_187 : Int32).toInt64) <<< ((32 : Int32).toInt64 &&& 63))) + (((x_176 : Int32).toInt64) <<< ((r_182 : Int32).toInt64 &&& 63))).toInt = (oJ Z br x1.toNatClampNeg).toInt + cdI nG 3 kG (dg x1.toNatClampNeg 3) (wG 3) := by rw [la_i (by omega) (by omega), ha9, hk9.1, show x_176.toInt = (kG : Int) by omega]; unfold cdI; omega
              refine lv_iload_n hx hb dX4_placeIn_78 rfl (lv_at hl 5 rfl) ?_
              refine va_gets hx hb hZ.1.2.2.1 hS hown (hts (.fieldLink RX4 44 "ShipOffice$Hiring" "STEP" "[I") iw_X4_placeIn_6) (fun _ h9 => h9) dX4_placeIn_79 ?_
              refine lv_iload_n hx hb dX4_placeIn_82 rfl (lv_at hl 3 rfl) ?_
              refine va_ti hx hb hZ.1.2.2.2.1 hS (by unfold vp_in; decide) (v := .int 27) rfl dX4_placeIn_83 ?_
              refine lv_iadd hx hb dX4_placeIn_84 ?_
              refine lv_topi (fun x_188 ex_188 => ?_)
              have hx_188 : x_188.toInt = x1.toInt + 27 := (iv_to ex_188).trans (ad_i rfl (by decide) (by omega) (by omega))
              clear ex_188
              refine lv_istore (lv' := [(9, .int x_188), (7, .long ((l_186 + (((x_187 : Int32).toInt64) <<< ((32 : Int32).toInt64 &&& 63))) + (((x_176 : Int32).toInt64) <<< ((r_182 : Int32).toInt64 &&& 63)))), (5, .long (((x_176 : Int32).toInt64) <<< ((r_182 : Int32).toInt64 &&& 63))), (4, .int r_155), (3, .int 3), (0, .ref o), (1, .int x1), (2, .ref a2)]) hx hb dX4_placeIn_85 hl (by decide) rfl (fun ls hl => ?_)
              refine lv_aload_n hx hb dX4_placeIn_87 rfl (lv_at hl 5 rfl) ?_
              refine va_get (D := (dC, dI)) (ci := 4) (v := .ref br) (C := RX4) (T := TX4) (N := 6) hx hb hts in_wsX4_placeIn_X4 hown hK hP q_167 hq_167 rfl 0 (by decide) (hts (.fieldLink RX4 11 "ShipOffice$Hiring" "best" "[J") iw_X4_placeIn_5) (fun _ h9 => h9) (o_rd pk_5) dX4_placeIn_88 ?_
              refine lv_iload hx hb dX4_placeIn_91 (lv_at hl 0 rfl) ?_
              refine lv_aload_n hx hb dX4_placeIn_93 rfl (lv_at hl 5 rfl) ?_
              refine va_get (D := (dC, dI)) (ci := 4) (v := .ref br) (C := RX4) (T := TX4) (N := 6) hx hb hts in_wsX4_placeIn_X4 hown hK hP q_167 hq_167 rfl 0 (by decide) (hts (.fieldLink RX4 11 "ShipOffice$Hiring" "best" "[J") iw_X4_placeIn_5) (fun _ h9 => h9) (o_rd pk_5) dX4_placeIn_94 ?_
              refine lv_iload hx hb dX4_placeIn_97 (lv_at hl 0 rfl) ?_
              refine va_lald hx hb hK hP q_185 1 hq_185 rfl (vp_in_iff.mpr (by omega)) dX4_placeIn_99 ?_
              refine lv_topl (fun l_189 el_189 => ?_)
              refine lv_lload hx hb dX4_placeIn_100 (lv_at hl 1 rfl) ?_
              refine va_mmin_long hx hb (by rw [hml]; exact hl.1.symm) hown (hts (.methodLink RX4 63 Lib.MathLoose.min_long.x) iw_X4_placeIn_7) (hts (.static Lib.MathLoose.min_long.x) iw_X4_placeIn_8) (hts (.initialized "java/lang/Math") iw_X4_placeIn_9) (hts (.code Lib.MathLoose.min_long.x Lib.MathLoose.min_long.code 4 (some .long)) (by decide +kernel)) (Nat.le_of_ble_eq_true rfl) (Nat.le_of_ble_eq_true rfl) (Nat.le_of_ble_eq_true rfl) (Nat.le_of_ble_eq_true rfl) dX4_placeIn_102 ?_
              refine lv_topl (fun l_190 el_190 => ?_)
              refine va_last hx hb hK hP hD hS q_185 1 hq_185 rfl (vp_in_iff.mpr (by omega)) dX4_placeIn_105 (fun H locs hP1 hD1 hS => ?_)
              obtain ⟨S_191, eS_191⟩ : ∃ zq, zq = setJ S_3 br (x_188 : Int32).toNatClampNeg l_190 := ⟨_, rfl⟩
              have hP : va_P (dC, dI) vwCl (oW cq S_191) H := by rw [eS_191]; exact cP (oset t_184.1 hq_185 hD rfl (he_18 t_184.2) neJ) hP1
              have hD : va_D A (oW cq S_191) := by rw [eS_191]; exact cD (oset t_184.1 hq_185 hD rfl (he_18 t_184.2) neJ) hD1
              clear hP1 hD1
              have hIS_191 : oInv S_191 := by rw [eS_191]; exact oInv.J hIS_3
              have XS_191 : oX [2018] S_3 S_191 := by rw [eS_191]; exact oX.J (k := 18) (key := 2018) t_184.2 (fun _ => rfl) (List.mem_singleton.mpr rfl)
              have pk_192 : oP S_191 a2 4 = some wr := by rw [eS_191]; exact pk_4
              have pk_193 : oP S_191 o 0 = some br := by rw [eS_191]; exact pk_5
              have pk_194 : oP S_191 o 1 = some of9 := by rw [eS_191]; exact pk_6
              have pk_195 : oP S_191 o 3 = some fr := by rw [eS_191]; exact pk_7
              have X_196 : oX [2018] Z S_191 := oX.st YS_3 XS_191 (by decide)
              have g_197 : (oI S_191 o 2).toInt = (oI S_3 o 2).toInt := by rw [eS_191]; rfl
              have g_198 : (oI S_191 o 4).toInt = (oI S_3 o 4).toInt := by rw [eS_191]; rfl
              have nx9 : (x_188 : Int32).toNatClampNeg = x1.toNatClampNeg + 3 ^ 3 := (show x_188.toInt.toNat = x1.toInt.toNat + 3 ^ 3 by have q : (3 : Nat) ^ 3 = 27 := (by decide); omega)
              have hz9 := mn_l el_190
              rw [el_189, nx9] at hz9
              have hj9 : oJ S_191 br = vp_updL (oJ S_3 br) (x1.toNatClampNeg + 3 ^ 3) l_190 := by rw [eS_191, setJ_fun, nx9]
              refine lv_iinc (v := 4) (lv' := [(3, .int 4), (9, .int x_188), (7, .long ((l_186 + (((x_187 : Int32).toInt64) <<< ((32 : Int32).toInt64 &&& 63))) + (((x_176 : Int32).toInt64) <<< ((r_182 : Int32).toInt64 &&& 63)))), (5, .long (((x_176 : Int32).toInt64) <<< ((r_182 : Int32).toInt64 &&& 63))), (4, .int r_155), (0, .ref o), (1, .int x1), (2, .ref a2)]) hx hb dX4_placeIn_106 hl (k := 4) rfl (by decide) (by decide) rfl (fun ls hl => ?_)
              refine lv_goto (tgt := 2) hx hb dX4_placeIn_109 (by decide) ?_
              have kc_199 : (4 : Int32).toInt = 4 := by decide
              exact ih (n - 1) (by omega) 4 S_191 _ _ ls (by omega) (by decide) (by have hq9 := hq0_cut_1; rw [show (3 : Int32).toNatClampNeg = 3 from by decide] at hq9; rw [show (4 : Int32).toNatClampNeg = 3 + 1 from by decide]; exact pIn_y (B1 := fun c => (oJ S_3 br c).toInt) (B2 := fun c => (oJ S_191 br c).toInt) hq9 (by decide) (by omega) (by omega) hv9 (by show ((oJ S_191 br _).toInt = _ ∧ _) ∨ _; rw [hj9, upL_e]; exact hz9) (fun c hc => by show (oJ S_191 br c).toInt = (oJ S_3 br c).toInt; rw [hj9, upL_n hc])) hIS_191 (oX.st (oX.st oX.rf XS_3 (by decide)) XS_191 (by decide)) hP hD hS pk_192 pk_193 pk_194 pk_195 (lv_sub hl [0, 5, 6, 7] rfl)
  have kc_200 : (0 : Int32).toInt = 0 := by decide
  exact cut_1 5 0 Z _ _ ls (by omega) (by decide) (fun c hc => by rw [show (0 : Int32).toNatClampNeg = 0 from by decide]; exact pIn_0) gI oX.rf hP hD hS hwr hbr hof hfr (lv_sub hl [0, 1, 2, 3] rfl)
