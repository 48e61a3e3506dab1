


theorem lg_lt3 {y a b c : Int32} (e : y = lg_cmp a.toInt64 (b.toInt64 - c.toInt64)) (ha : -3000 ≤ a.toInt ∧ a.toInt ≤ 3000) (hb : -1000000000 ≤ b.toInt ∧ b.toInt ≤ 1000000000) (hc : -1000000000 ≤ c.toInt ∧ c.toInt ≤ 1000000000) : (0 ≤ y.toInt ∧ b.toInt - c.toInt ≤ a.toInt) ∨ (y.toInt < 0 ∧ a.toInt < b.toInt - c.toInt) := by
  have ec : (b.toInt64 - c.toInt64).toInt = b.toInt - c.toInt := by
    rw [Int64.toInt_sub, Int32.toInt_toInt64, Int32.toInt_toInt64]
    exact Int.bmod_eq_of_le (by omega) (by omega)
  have ea : a.toInt64.toInt = a.toInt := Int32.toInt_toInt64 a
  have e0 : (0 : Int32).toInt = 0 := by decide
  by_cases g : b.toInt64 - c.toInt64 ≤ a.toInt64
  · have g1 := (lg_cmp_ge _ _).mpr g
    have g2 := Int64.le_iff_toInt_le.mp g
    rw [← e] at g1
    have g3 := Int32.le_iff_toInt_le.mp g1
    exact Or.inl ⟨by omega, by omega⟩
  · have g1 : ¬ 0 ≤ y := fun q => g ((lg_cmp_ge _ _).mp (by rw [← e]; exact q))
    have g2 : ¬ (b.toInt64 - c.toInt64).toInt ≤ a.toInt64.toInt := fun q => g (Int64.le_iff_toInt_le.mpr q)
    have g3 : ¬ (0 : Int32).toInt ≤ y.toInt := fun q => g1 (Int32.le_iff_toInt_le.mpr q)
    exact Or.inr ⟨by omega, by omega⟩
set_option maxHeartbeats 4000000 in
set_option maxRecDepth 100000 in
theorem c_X11_isUnknown_f (l : Launch) (dC : Nat → ClassId) (dI : Nat → Nat → Nat) (sz : Nat) (g0 : Nat) (pq : Nat → Nat) (cp : Nat → ClassId) (v : Nat → Int32) (fa : Nat → Nat → Int32) (gV : mV v) (gA : mA fa) (x1 : Int32) (x2 : Int32) (hx2 : 0 ≤ x2.toInt ∧ x2.toInt ≤ 3000) (x3 : Int32) (hWl : wlA v fa) : Met l yX11_isUnknown wsX11_isUnknown ({ frames := 21, cells := 0, slots := 0, locals := 486 }) (va_Pc [.ref g0, .int x1, .int x2, .int x3] (pcW (dC, dI) (mT cp) (mW g0 pq cp v fa) sz)) (va_Qi (fun (r : Int32) (u : (Nat → Int32) × (Nat → Nat → Int32)) => mV u.1 ∧ mA u.2 ∧ scr v fa u.1 u.2 ∧ (0 ≤ r.toInt ∧ r.toInt ≤ 1) ∧ (r.toInt = ukO v fa x1.toInt x2.toInt x3.toInt)) (fun u t => va_P (dC, dI) vwCl (mW g0 pq cp u.1 u.2) t.heap ∧ va_K (dC, dI) vwCl (mT cp) t ∧ va_D (va_A (mW g0 pq cp v fa) sz) (mW g0 pq cp u.1 u.2)) (va_A (mW g0 pq cp v fa) sz)) 0 0 (va_A (mW g0 pq cp v fa) sz) := by
  refine Met.ofW (cc := cX11_isUnknown) (maxL := 4) (ret := (some .boolean)) (by decide) rfl ?_
  intro p e s m args below meth c s₁ B hml hv
  obtain ⟨rfl, hsz, hP, hK, hD0⟩ := hv
  have hx := B.exec
  have hb := B.bytes
  have hr := B.returns
  have hts := atoms_spec (ws := wsX11_isUnknown) B.pre
  have hown : s.vm.findClass RX11 = some m.cls := findClass_of_methodNamed B.named
  have hlocks := B.notSynchronized
  subst hsz
  have hD := hD0.self (sz := s.heap.size)
  generalize hAe : va_A (mW g0 pq cp v fa) s.heap.size = A at hD ⊢
  have hA : ∀ q : Nat, s.heap.size ≤ q → A q := fun q h => by rw [← hAe]; exact Or.inr h
  have hS : va_S A s.heap s.heap [] := va_S.rf
  have hP : va_P (dC, dI) vwCl (mW g0 pq cp v fa) s.heap := hP
  have hl := lv_entry ([.ref g0, .int x1, .int x2, .int x3]) (n := 4) (Nat.le_of_ble_eq_true rfl)
  rw [lg_entry_eq]
  generalize (lg_sl ([.ref g0, .int x1, .int x2, .int x3]) ++ List.replicate (4 - (lg_sl ([.ref g0, .int x1, .int x2, .int x3])).length) Slot.unset).toArray = ls at hl ⊢
  have hl : lv_has ls 4 [(0, .ref g0), (1, .int x1), (2, .int x2), (3, .int x3)] := hl
  refine lv_aload_n hx hb dX11_isUnknown_0 rfl (lv_at hl 0 rfl) ?_
  refine lv_iload_n hx hb dX11_isUnknown_1 rfl (lv_at hl 1 rfl) ?_
  refine lv_iload_n hx hb dX11_isUnknown_2 rfl (lv_at hl 2 rfl) ?_
  refine lv_iload_n hx hb dX11_isUnknown_3 rfl (lv_at hl 3 rfl) ?_
  have hFc : ∀ q, va_A [] s.heap.size q → A q := pu_free hS hA
  refine va_calli (va_runV (As := [.int x1, .int x2, .int x3]) (rest := []) ⟨hx, hb, hml, hown, hts⟩ (c_X11_hasSailed_f l dC dI s.heap.size g0 pq cp v fa gV gA x1 x2 x3) (cwV 3 hts gX11_isUnknown_X11_hasSailed rfl rfl rfl (by decide +kernel) ⟨(Nat.le_of_ble_eq_true rfl), (Nat.le_of_ble_eq_true rfl)⟩) (pr_V (r := (RX11, TX11, 63)) hP hK hD 0 11 rfl rfl) rfl rfl hl.1 rfl (lv_room (Nat.le_of_ble_eq_true rfl)) dX11_isUnknown_4 ⟨(Nat.le_of_ble_eq_true rfl), (Nat.le_of_ble_eq_true rfl)⟩) hS (fun q _ h => hFc q h) hFc (fun r_2 u t H locs ht hvm w_1 hB hz1 hk1 hS => ?_)
  have hP := pu_keep hP hk1
  clear hk1 hz1 hvm hB ht hFc
  obtain ⟨hb_3, hx_4⟩ := w_1
  refine lv_if_ne (tgt := 12) hx hb dX11_isUnknown_7 (by decide) (fun c_5 => ?_) (fun c_5 => ?_)
  · have dc_5 := c_ne (a := r_2.toInt) (b := 0) rfl (by decide) c_5
    refine lv_aload_n hx hb dX11_isUnknown_12 rfl (lv_at hl 0 rfl) ?_
    have hFc := va_free (wc := (mW g0 pq cp v fa)) hD hS hA (List.range 48) rfl
    refine va_callv (va_runV (As := []) (rest := []) ⟨hx, hb, hml, hown, hts⟩ (c_X11_bare_f l dC dI H.size g0 pq cp v fa gV gA) (cwV 0 hts gX11_isUnknown_X11_bare rfl rfl rfl (by decide +kernel) ⟨(Nat.le_of_ble_eq_true rfl), (Nat.le_of_ble_eq_true rfl)⟩) (pr_V (r := (RX11, TX11, 63)) hP hK hD 0 11 rfl rfl) rfl rfl hl.1 rfl (lv_room (Nat.le_of_ble_eq_true rfl)) dX11_isUnknown_13 ⟨(Nat.le_of_ble_eq_true rfl), (Nat.le_of_ble_eq_true rfl)⟩) hS (fun q _ h => hFc q h) hFc (fun u t H locs ht hvm w_6 hB hz1 hk1 hS => ?_)
    obtain ⟨v_8, fa_9⟩ := u
    obtain ⟨hP1, hK1, hD1⟩ := hB
    rw [ht] at hP1
    have hP : va_P (dC, dI) vwCl (mW g0 pq cp v_8 fa_9) H := hP1
    have hD : va_D A (mW g0 pq cp v_8 fa_9) := hD1.weaken (fun _ _ _ h => hFc _ h)
    clear hP1 hK1 hD1 hk1 hz1 hvm ht hFc
    obtain ⟨hV_10, hA_11, hR_12, hx_13⟩ := w_6
    dsimp only at hV_10 hA_11 hR_12 hx_13
    have R_14 := scr.tr scr.rf hR_12
    have sc_15 := scr.tr scr.rf hR_12
    have q0_16 : fa_9 0 = fa 0 := (hR_12.2 0 rfl).trans rfl
    refine lv_aload_n hx hb dX11_isUnknown_16 rfl (lv_at hl 0 rfl) ?_
    refine lv_iload_n hx hb dX11_isUnknown_17 rfl (lv_at hl 1 rfl) ?_
    refine lv_iload_n hx hb dX11_isUnknown_18 rfl (lv_at hl 2 rfl) ?_
    refine lv_iload_n hx hb dX11_isUnknown_19 rfl (lv_at hl 3 rfl) ?_
    have hFc : ∀ q, va_A [] H.size q → A q := pu_free hS hA
    refine va_calli (va_runV (As := [.int x1, .int x2, .int x3]) (rest := []) ⟨hx, hb, hml, hown, hts⟩ (c_X11_lastHeard_f l dC dI H.size g0 pq cp v_8 fa_9 hV_10 hA_11 x1 x2 x3) (cwV 3 hts gX11_isUnknown_X11_lastHeard rfl rfl rfl (by decide +kernel) ⟨(Nat.le_of_ble_eq_true rfl), (Nat.le_of_ble_eq_true rfl)⟩) (pr_V (r := (RX11, TX11, 63)) hP hK hD 0 11 rfl rfl) rfl rfl hl.1 rfl (lv_room (Nat.le_of_ble_eq_true rfl)) dX11_isUnknown_20 ⟨(Nat.le_of_ble_eq_true rfl), (Nat.le_of_ble_eq_true rfl)⟩) hS (fun q _ h => hFc q h) hFc (fun r_18 u t H locs ht hvm w_17 hB hz1 hk1 hS => ?_)
    have hP := pu_keep hP hk1
    clear hk1 hz1 hvm hB ht hFc
    obtain ⟨hb_19, hx_20⟩ := w_17
    rw [lhO_s sc_15] at hx_20
    refine lv_i2l (v := (r_18 : Int32).toInt64) hx hb dX11_isUnknown_23 rfl ?_
    refine lv_iload_n hx hb dX11_isUnknown_24 rfl (lv_at hl 2 rfl) ?_
    refine lv_i2l (v := (x2 : Int32).toInt64) hx hb dX11_isUnknown_25 rfl ?_
    refine lv_aload_n hx hb dX11_isUnknown_26 rfl (lv_at hl 0 rfl) ?_
    refine lv_iconst (v := 4) hx hb dX11_isUnknown_27 (by decide) ?_
    refine lv_iload_n hx hb dX11_isUnknown_28 rfl (lv_at hl 2 rfl) ?_
    have hFc := va_free (wc := (mW g0 pq cp v_8 fa_9)) hD hS hA (List.range 48) rfl
    refine va_calli (va_runV (As := [.int 4, .int x2]) (rest := [.long ((x2 : Int32).toInt64), .long ((r_18 : Int32).toInt64)]) ⟨hx, hb, hml, hown, hts⟩ (c_X11_worth_f l dC dI H.size g0 pq cp v_8 fa_9 hV_10 hA_11 4 x2 (wlA_fr hWl (sc_15.1 42 rfl) (sc_15.2 19 rfl) (sc_15.2 16 rfl))) (cwV 2 hts gX11_isUnknown_X11_worth rfl rfl rfl (by decide +kernel) ⟨(Nat.le_of_ble_eq_true rfl), (Nat.le_of_ble_eq_true rfl)⟩) (pr_V (r := (RX11, TX11, 63)) hP hK hD 0 11 rfl rfl) rfl rfl hl.1 rfl (lv_room (Nat.le_of_ble_eq_true rfl)) dX11_isUnknown_29 ⟨(Nat.le_of_ble_eq_true rfl), (Nat.le_of_ble_eq_true rfl)⟩) hS (fun q _ h => hFc q h) hFc (fun r_22 u t H locs ht hvm w_21 hB hz1 hk1 hS => ?_)
    obtain ⟨v_23, fa_24⟩ := u
    obtain ⟨hP1, hK1, hD1⟩ := hB
    rw [ht] at hP1
    have hP : va_P (dC, dI) vwCl (mW g0 pq cp v_23 fa_24) H := hP1
    have hD : va_D A (mW g0 pq cp v_23 fa_24) := hD1.weaken (fun _ _ _ h => hFc _ h)
    clear hP1 hK1 hD1 hk1 hz1 hvm ht hFc
    obtain ⟨hV_25, hA_26, hR_27, hx_28⟩ := w_21
    dsimp only at hV_25 hA_26 hR_27 hx_28
    have R_29 := scr.tr R_14 hR_27
    try rw [show (4 : Int32).toInt = 4 from (by decide)] at hx_28
    have sc_30 := scr.tr sc_15 hR_27
    have q0_31 : fa_24 0 = fa 0 := (hR_27.2 0 rfl).trans q0_16
    have hpw : r_22 = wrt v fa 4 x2.toInt (fun _ => 0) := by rw [hx_28]; exact wrt_c hWl (sc_15.1 42 rfl) (scr_S sc_15 _ (by decide)) (scr_S sc_15 _ (by decide)) (scr_S sc_15 _ (by decide)) (scr_S sc_15 _ (by decide)) (by have g := fun j (hj : j < 128) => hx_13 j hj; exact ⟨g _ (by decide), g _ (by decide), g _ (by decide), g _ (by decide), g _ (by decide), g _ (by decide), g _ (by decide), g _ (by decide)⟩)
    have hpb := wrt_b (v := v) (fa := fa) (p := 4) (d := x2.toInt) (L := fun _ => 0) hWl (by decide)
    rw [← hpw] at hpb
    have hpi : r_22.toInt = wPr v fa x2.toInt := by unfold wPr; rw [hpw]
    refine lv_i2l (v := (r_22 : Int32).toInt64) hx hb dX11_isUnknown_32 rfl ?_
    refine lv_lsub hx hb dX11_isUnknown_33 ?_
    refine W.lcmp hx hb dX11_isUnknown_34 ?_
    refine lv_topi (fun x_32 ex_32 => ?_)
    have hlt_ := lg_lt3 ex_32 (a := r_18) (b := x2) (c := r_22) (by omega) (by omega) (by omega)
    refine lv_if_ge (tgt := 42) hx hb dX11_isUnknown_35 (by decide) (fun c_33 => ?_) (fun c_33 => ?_)
    · have dc_33 := c_le (a := 0) (b := x_32.toInt) (by decide) rfl c_33
      refine lv_iconst (v := 0) hx hb dX11_isUnknown_42 (by decide) ?_
      exact W.zret (v := 0) hx hb hr rfl (fun t ht hW => ⟨⟨0, (v_23, fa_24), rfl, ⟨hV_25, hA_26, R_29, (by decide), (by have rc : (0 : Int32).toInt = 0 := (by decide); unfold ukO; repeat (first | rw [if_pos (by omega)] | rw [if_neg (by omega)]); omega)⟩, ⟨by rw [ht]; exact hP, va_K.moved hW.alike hK, hD⟩⟩, hS.F ht⟩) hS.2.2 dX11_isUnknown_43
    · have dc_33 := c_nle (a := 0) (b := x_32.toInt) (by decide) rfl c_33
      refine lv_iconst (v := 1) hx hb dX11_isUnknown_38 (by decide) ?_
      refine lv_goto (tgt := 43) hx hb dX11_isUnknown_39 (by decide) ?_
      exact W.zret (v := 1) hx hb hr rfl (fun t ht hW => ⟨⟨1, (v_23, fa_24), rfl, ⟨hV_25, hA_26, R_29, (by decide), (by have rc : (1 : Int32).toInt = 1 := (by decide); unfold ukO; repeat (first | rw [if_pos (by omega)] | rw [if_neg (by omega)]); omega)⟩, ⟨by rw [ht]; exact hP, va_K.moved hW.alike hK, hD⟩⟩, hS.F ht⟩) hS.2.2 dX11_isUnknown_43
  · have dc_5 := c_eq (a := r_2.toInt) (b := 0) rfl (by decide) c_5
    refine lv_iconst (v := 0) hx hb dX11_isUnknown_10 (by decide) ?_
    exact W.zret (v := 0) hx hb hr rfl (fun t ht hW => ⟨⟨0, (v, fa), rfl, ⟨gV, gA, scr.rf, (by decide), (by have rc : (0 : Int32).toInt = 0 := (by decide); unfold ukO; repeat (first | rw [if_pos (by omega)] | rw [if_neg (by omega)]); omega)⟩, ⟨by rw [ht]; exact hP, va_K.moved hW.alike hK, hD⟩⟩, hS.F ht⟩) hS.2.2 dX11_isUnknown_11
set_option maxHeartbeats 4000000 in
set_option maxRecDepth 100000 in
theorem c_X11_stateOf_f (l : Launch) (dC : Nat → ClassId) (dI : Nat → Nat → Nat) (sz : Nat) (g0 : Nat) (pq : Nat → Nat) (cp : Nat → ClassId) (v : Nat → Int32) (fa : Nat → Nat → Int32) (gV : mV v) (gA : mA fa) (x1 : Int32) (hx1 : 0 ≤ x1.toInt ∧ x1.toInt ≤ 59) (x2 : Int32) (hx2 : 0 ≤ x2.toInt ∧ x2.toInt ≤ 3000) (x3 : Int32) (hWl : wlA v fa) : Met l yX11_stateOf wsX11_stateOf ({ frames := 22, cells := 0, slots := 0, locals := 509 }) (va_Pc [.ref g0, .int x1, .int x2, .int x3] (pcW (dC, dI) (mT cp) (mW g0 pq cp v fa) sz)) (va_Qi (fun (r : Int32) (u : (Nat → Int32) × (Nat → Nat → Int32)) => mV u.1 ∧ mA u.2 ∧ scr v fa u.1 u.2 ∧ (-9 ≤ r.toInt ∧ r.toInt ≤ 5) ∧ (r.toInt = stF v fa x1.toNatClampNeg x2.toInt x3.toInt)) (fun u t => va_P (dC, dI) vwCl (mW g0 pq cp u.1 u.2) t.heap ∧ va_K (dC, dI) vwCl (mT cp) t ∧ va_D (va_A (mW g0 pq cp v fa) sz) (mW g0 pq cp u.1 u.2)) (va_A (mW g0 pq cp v fa) sz)) 0 0 (va_A (mW g0 pq cp v fa) sz) := by
  refine Met.ofW (cc := cX11_stateOf) (maxL := 5) (ret := (some .int)) (by decide) rfl ?_
  intro p e s m args below meth c s₁ B hml hv
  obtain ⟨rfl, hsz, hP, hK, hD0⟩ := hv
  have hx := B.exec
  have hb := B.bytes
  have hr := B.returns
  have hts := atoms_spec (ws := wsX11_stateOf) B.pre
  have hown : s.vm.findClass RX11 = some m.cls := findClass_of_methodNamed B.named
  have hlocks := B.notSynchronized
  subst hsz
  have hD := hD0.self (sz := s.heap.size)
  generalize hAe : va_A (mW g0 pq cp v fa) s.heap.size = A at hD ⊢
  have hA : ∀ q : Nat, s.heap.size ≤ q → A q := fun q h => by rw [← hAe]; exact Or.inr h
  have hS : va_S A s.heap s.heap [] := va_S.rf
  have hP : va_P (dC, dI) vwCl (mW g0 pq cp v fa) s.heap := hP
  have hl := lv_entry ([.ref g0, .int x1, .int x2, .int x3]) (n := 5) (Nat.le_of_ble_eq_true rfl)
  rw [lg_entry_eq]
  generalize (lg_sl ([.ref g0, .int x1, .int x2, .int x3]) ++ List.replicate (5 - (lg_sl ([.ref g0, .int x1, .int x2, .int x3])).length) Slot.unset).toArray = ls at hl ⊢
  have hl : lv_has ls 5 [(0, .ref g0), (1, .int x1), (2, .int x2), (3, .int x3)] := hl
  refine lv_iload_n hx hb dX11_stateOf_0 rfl (lv_at hl 2 rfl) ?_
  refine lv_aload_n hx hb dX11_stateOf_1 rfl (lv_at hl 0 rfl) ?_
  refine va_get (D := (dC, dI)) (ci := 11) (v := .ref (pq 25)) (C := RX11) (T := TX11) (N := 63) hx hb hts in_wsX11_stateOf_X11 hown hK hP 0 rfl rfl 25 (by decide) (hts (.fieldLink RX11 85 "ShipOfficeModel" "signed" "[I") iw_X11_stateOf_1) (fun _ h9 => h9) rfl dX11_stateOf_2 ?_
  refine lv_iload_n hx hb dX11_stateOf_5 rfl (lv_at hl 1 rfl) ?_
  refine va_iald hx hb hK hP 26 25 rfl rfl (vp_in_iff.mpr (by omega)) dX11_stateOf_6 ?_
  refine lv_topi (fun x_1 ex_1 => ?_)
  have hx_1 : 0 ≤ x_1.toInt ∧ x_1.toInt ≤ 3000 := iv_of ex_1 (gA 25 _)
  have gx_1 : x_1.toInt = (fa 25 (x1 : Int32).toNatClampNeg).toInt := iv_to ex_1
  clear ex_1
  refine lv_icmp_ge (tgt := 13) hx hb dX11_stateOf_7 (by decide) (fun c_2 => ?_) (fun c_2 => ?_)
  · have dc_2 := c_le (a := x_1.toInt) (b := x2.toInt) rfl rfl c_2
    refine lv_aload_n hx hb dX11_stateOf_13 rfl (lv_at hl 0 rfl) ?_
    refine lv_iload_n hx hb dX11_stateOf_14 rfl (lv_at hl 1 rfl) ?_
    refine lv_iload_n hx hb dX11_stateOf_15 rfl (lv_at hl 2 rfl) ?_
    refine lv_iload_n hx hb dX11_stateOf_16 rfl (lv_at hl 3 rfl) ?_
    have hFc : ∀ q, va_A [] s.heap.size q → A q := pu_free hS hA
    refine va_calli (va_runV (As := [.int x1, .int x2, .int x3]) (rest := []) ⟨hx, hb, hml, hown, hts⟩ (c_X11_isDead_f l dC dI s.heap.size g0 pq cp v fa gV gA x1 (by omega) x2 x3) (cwV 3 hts gX11_stateOf_X11_isDead rfl rfl rfl (by decide +kernel) ⟨(Nat.le_of_ble_eq_true rfl), (Nat.le_of_ble_eq_true rfl)⟩) (pr_V (r := (RX11, TX11, 63)) hP hK hD 0 11 rfl rfl) rfl rfl hl.1 rfl (lv_room (Nat.le_of_ble_eq_true rfl)) dX11_stateOf_17 ⟨(Nat.le_of_ble_eq_true rfl), (Nat.le_of_ble_eq_true rfl)⟩) hS (fun q _ h => hFc q h) hFc (fun r_4 u t H locs ht hvm w_3 hB hz1 hk1 hS => ?_)
    have hP := pu_keep hP hk1
    clear hk1 hz1 hvm hB ht hFc
    obtain ⟨hb_5, hx_6⟩ := w_3
    refine lv_if_eq (tgt := 25) hx hb dX11_stateOf_20 (by decide) (fun c_7 => ?_) (fun c_7 => ?_)
    · have dc_7 := c_eq (a := r_4.toInt) (b := 0) rfl (by decide) c_7
      refine lv_aload_n hx hb dX11_stateOf_25 rfl (lv_at hl 0 rfl) ?_
      refine va_get (D := (dC, dI)) (ci := 11) (v := .ref (pq 26)) (C := RX11) (T := TX11) (N := 63) hx hb hts in_wsX11_stateOf_X11 hown hK hP 0 rfl rfl 26 (by decide) (hts (.fieldLink RX11 88 "ShipOfficeModel" "offOn" "[I") iw_X11_stateOf_2) (fun _ h9 => h9) rfl dX11_stateOf_26 ?_
      refine lv_iload_n hx hb dX11_stateOf_29 rfl (lv_at hl 1 rfl) ?_
      refine va_iald hx hb hK hP 27 26 rfl rfl (vp_in_iff.mpr (by omega)) dX11_stateOf_30 ?_
      refine lv_topi (fun x_8 ex_8 => ?_)
      have gx_8 : x_8.toInt = (fa 26 (x1 : Int32).toNatClampNeg).toInt := iv_to ex_8
      clear ex_8
      refine lv_if_lt (tgt := 46) hx hb dX11_stateOf_31 (by decide) (fun c_9 => ?_) (fun c_9 => ?_)
      · have dc_9 := c_lt (a := x_8.toInt) (b := 0) rfl (by decide) c_9
        refine lv_aload_n hx hb dX11_stateOf_46 rfl (lv_at hl 0 rfl) ?_
        refine lv_iload_n hx hb dX11_stateOf_47 rfl (lv_at hl 1 rfl) ?_
        refine lv_iload_n hx hb dX11_stateOf_48 rfl (lv_at hl 2 rfl) ?_
        refine lv_iload_n hx hb dX11_stateOf_49 rfl (lv_at hl 3 rfl) ?_
        have hFc : ∀ q, va_A [] H.size q → A q := pu_free hS hA
        refine va_calli (va_runV (As := [.int x1, .int x2, .int x3]) (rest := []) ⟨hx, hb, hml, hown, hts⟩ (c_X11_whereOf_f l dC dI H.size g0 pq cp v fa gV gA x1 x2 x3) (cwV 3 hts gX11_stateOf_X11_whereOf rfl rfl rfl (by decide +kernel) ⟨(Nat.le_of_ble_eq_true rfl), (Nat.le_of_ble_eq_true rfl)⟩) (pr_V (r := (RX11, TX11, 63)) hP hK hD 0 11 rfl rfl) rfl rfl hl.1 rfl (lv_room (Nat.le_of_ble_eq_true rfl)) dX11_stateOf_50 ⟨(Nat.le_of_ble_eq_true rfl), (Nat.le_of_ble_eq_true rfl)⟩) hS (fun q _ h => hFc q h) hFc (fun r_11 u t H locs ht hvm w_10 hB hz1 hk1 hS => ?_)
        have hP := pu_keep hP hk1
        clear hk1 hz1 hvm hB ht hFc
        obtain ⟨hb_12, hx_13⟩ := w_10
        refine lv_istore (lv' := [(4, .int r_11), (0, .ref g0), (1, .int x1), (2, .int x2), (3, .int x3)]) hx hb dX11_stateOf_53 hl (by decide) rfl (fun ls hl => ?_)
        refine lv_iload hx hb dX11_stateOf_55 (lv_at hl 0 rfl) ?_
        refine lv_if_lt (tgt := 73) hx hb dX11_stateOf_57 (by decide) (fun c_14 => ?_) (fun c_14 => ?_)
        · have dc_14 := c_lt (a := r_11.toInt) (b := 0) rfl (by decide) c_14
          refine lv_aload_n hx hb dX11_stateOf_73 rfl (lv_at hl 1 rfl) ?_
          refine lv_aload_n hx hb dX11_stateOf_74 rfl (lv_at hl 1 rfl) ?_
          refine va_get (D := (dC, dI)) (ci := 11) (v := .ref (pq 21)) (C := RX11) (T := TX11) (N := 63) hx hb hts in_wsX11_stateOf_X11 hown hK hP 0 rfl rfl 21 (by decide) (hts (.fieldLink RX11 73 "ShipOfficeModel" "voyage" "[I") iw_X11_stateOf_3) (fun _ h9 => h9) rfl dX11_stateOf_75 ?_
          refine lv_iload_n hx hb dX11_stateOf_78 rfl (lv_at hl 2 rfl) ?_
          refine va_iald hx hb hK hP 22 21 rfl rfl (vp_in_iff.mpr (by omega)) dX11_stateOf_79 ?_
          refine lv_topi (fun x_15 ex_15 => ?_)
          have hx_15 : 0 ≤ x_15.toInt ∧ x_15.toInt ≤ 19 := iv_of ex_15 (gA 21 _)
          have gx_15 : x_15.toInt = (fa 21 (x1 : Int32).toNatClampNeg).toInt := iv_to ex_15
          clear ex_15
          refine lv_iload_n hx hb dX11_stateOf_80 rfl (lv_at hl 3 rfl) ?_
          refine lv_iload_n hx hb dX11_stateOf_81 rfl (lv_at hl 4 rfl) ?_
          have hFc : ∀ q, va_A [] H.size q → A q := pu_free hS hA
          refine va_calli (va_runV (As := [.int x_15, .int x2, .int x3]) (rest := []) ⟨hx, hb, hml, hown, hts⟩ (c_X11_hasSailed_f l dC dI H.size g0 pq cp v fa gV gA x_15 x2 x3) (cwV 3 hts gX11_stateOf_X11_hasSailed rfl rfl rfl (by decide +kernel) ⟨(Nat.le_of_ble_eq_true rfl), (Nat.le_of_ble_eq_true rfl)⟩) (pr_V (r := (RX11, TX11, 63)) hP hK hD 0 11 rfl rfl) rfl rfl hl.1 rfl (lv_room (Nat.le_of_ble_eq_true rfl)) dX11_stateOf_82 ⟨(Nat.le_of_ble_eq_true rfl), (Nat.le_of_ble_eq_true rfl)⟩) hS (fun q _ h => hFc q h) hFc (fun r_17 u t H locs ht hvm w_16 hB hz1 hk1 hS => ?_)
          have hP := pu_keep hP hk1
          clear hk1 hz1 hvm hB ht hFc
          obtain ⟨hb_18, hx_19⟩ := w_16
          try rw [gx_15] at hx_19
          refine lv_if_ne (tgt := 90) hx hb dX11_stateOf_85 (by decide) (fun c_20 => ?_) (fun c_20 => ?_)
          · have dc_20 := c_ne (a := r_17.toInt) (b := 0) rfl (by decide) c_20
            refine lv_aload_n hx hb dX11_stateOf_90 rfl (lv_at hl 1 rfl) ?_
            refine lv_aload_n hx hb dX11_stateOf_91 rfl (lv_at hl 1 rfl) ?_
            refine va_get (D := (dC, dI)) (ci := 11) (v := .ref (pq 21)) (C := RX11) (T := TX11) (N := 63) hx hb hts in_wsX11_stateOf_X11 hown hK hP 0 rfl rfl 21 (by decide) (hts (.fieldLink RX11 73 "ShipOfficeModel" "voyage" "[I") iw_X11_stateOf_3) (fun _ h9 => h9) rfl dX11_stateOf_92 ?_
            refine lv_iload_n hx hb dX11_stateOf_95 rfl (lv_at hl 2 rfl) ?_
            refine va_iald hx hb hK hP 22 21 rfl rfl (vp_in_iff.mpr (by omega)) dX11_stateOf_96 ?_
            refine lv_topi (fun x_21 ex_21 => ?_)
            have hx_21 : 0 ≤ x_21.toInt ∧ x_21.toInt ≤ 19 := iv_of ex_21 (gA 21 _)
            have gx_21 : x_21.toInt = (fa 21 (x1 : Int32).toNatClampNeg).toInt := iv_to ex_21
            clear ex_21
            refine lv_iload_n hx hb dX11_stateOf_97 rfl (lv_at hl 3 rfl) ?_
            refine lv_iload_n hx hb dX11_stateOf_98 rfl (lv_at hl 4 rfl) ?_
            have hFc := va_free (wc := (mW g0 pq cp v fa)) hD hS hA (List.range 48) rfl
            refine va_calli (va_runV (As := [.int x_21, .int x2, .int x3]) (rest := []) ⟨hx, hb, hml, hown, hts⟩ (c_X11_isUnknown_f l dC dI H.size g0 pq cp v fa gV gA x_21 x2 (by omega) x3 hWl) (cwV 3 hts gX11_stateOf_X11_isUnknown rfl rfl rfl (by decide +kernel) ⟨(Nat.le_of_ble_eq_true rfl), (Nat.le_of_ble_eq_true rfl)⟩) (pr_V (r := (RX11, TX11, 63)) hP hK hD 0 11 rfl rfl) rfl rfl hl.1 rfl (lv_room (Nat.le_of_ble_eq_true rfl)) dX11_stateOf_99 ⟨(Nat.le_of_ble_eq_true rfl), (Nat.le_of_ble_eq_true rfl)⟩) hS (fun q _ h => hFc q h) hFc (fun r_23 u t H locs ht hvm w_22 hB hz1 hk1 hS => ?_)
            obtain ⟨v_24, fa_25⟩ := u
            obtain ⟨hP1, hK1, hD1⟩ := hB
            rw [ht] at hP1
            have hP : va_P (dC, dI) vwCl (mW g0 pq cp v_24 fa_25) H := hP1
            have hD : va_D A (mW g0 pq cp v_24 fa_25) := hD1.weaken (fun _ _ _ h => hFc _ h)
            clear hP1 hK1 hD1 hk1 hz1 hvm ht hFc
            obtain ⟨hV_26, hA_27, hR_28, hb_29, hx_30⟩ := w_22
            dsimp only at hV_26 hA_27 hR_28 hb_29 hx_30
            have g_31 : (fa_25 21 (x1 : Int32).toNatClampNeg).toInt = (fa 21 (x1 : Int32).toNatClampNeg).toInt := congrArg (fun h : Nat → Int32 => Int32.toInt (h (x1 : Int32).toNatClampNeg)) (hR_28.2 21 rfl)
            have g_32 : (fa_25 25 (x1 : Int32).toNatClampNeg).toInt = (fa 25 (x1 : Int32).toNatClampNeg).toInt := congrArg (fun h : Nat → Int32 => Int32.toInt (h (x1 : Int32).toNatClampNeg)) (hR_28.2 25 rfl)
            have g_33 : (fa_25 26 (x1 : Int32).toNatClampNeg).toInt = (fa 26 (x1 : Int32).toNatClampNeg).toInt := congrArg (fun h : Nat → Int32 => Int32.toInt (h (x1 : Int32).toNatClampNeg)) (hR_28.2 26 rfl)
            have R_34 := scr.tr scr.rf hR_28
            try rw [gx_21] at hx_30
            have sc_35 := scr.tr scr.rf hR_28
            have q0_36 : fa_25 0 = fa 0 := (hR_28.2 0 rfl).trans rfl
            refine lv_if_eq (tgt := 109) hx hb dX11_stateOf_102 (by decide) (fun c_37 => ?_) (fun c_37 => ?_)
            · have dc_37 := c_eq (a := r_23.toInt) (b := 0) rfl (by decide) c_37
              refine lv_iconst (v := 1) hx hb dX11_stateOf_109 (by decide) ?_
              exact W.iret (v := 1) hx hb hr (fun t ht hW => ⟨⟨1, (v_24, fa_25), rfl, ⟨hV_26, hA_27, R_34, (by decide), (by have rc : (1 : Int32).toInt = 1 := (by decide); have n1 : ((x1.toNatClampNeg : Nat) : Int) = x1.toInt := tn_i (by omega); unfold stF; simp only [n1]; rw [← hx_13, show (r_11.toInt).toNat = r_11.toNatClampNeg from rfl]; repeat (first | rw [if_pos (by omega)] | rw [if_neg (by omega)]); omega)⟩, ⟨by rw [ht]; exact hP, va_K.moved hW.alike hK, hD⟩⟩, hS.F ht⟩) hS.2.2 dX11_stateOf_110
            · have dc_37 := c_ne (a := r_23.toInt) (b := 0) rfl (by decide) c_37
              refine lv_iconst (v := 2) hx hb dX11_stateOf_105 (by decide) ?_
              refine lv_goto (tgt := 110) hx hb dX11_stateOf_106 (by decide) ?_
              exact W.iret (v := 2) hx hb hr (fun t ht hW => ⟨⟨2, (v_24, fa_25), rfl, ⟨hV_26, hA_27, R_34, (by decide), (by have rc : (2 : Int32).toInt = 2 := (by decide); have n1 : ((x1.toNatClampNeg : Nat) : Int) = x1.toInt := tn_i (by omega); unfold stF; simp only [n1]; rw [← hx_13, show (r_11.toInt).toNat = r_11.toNatClampNeg from rfl]; repeat (first | rw [if_pos (by omega)] | rw [if_neg (by omega)]); omega)⟩, ⟨by rw [ht]; exact hP, va_K.moved hW.alike hK, hD⟩⟩, hS.F ht⟩) hS.2.2 dX11_stateOf_110
          · have dc_20 := c_eq (a := r_17.toInt) (b := 0) rfl (by decide) c_20
            refine lv_iconst (v := 0) hx hb dX11_stateOf_88 (by decide) ?_
            exact W.iret (v := 0) hx hb hr (fun t ht hW => ⟨⟨0, (v, fa), rfl, ⟨gV, gA, scr.rf, (by decide), (by have rc : (0 : Int32).toInt = 0 := (by decide); have n1 : ((x1.toNatClampNeg : Nat) : Int) = x1.toInt := tn_i (by omega); unfold stF; simp only [n1]; rw [← hx_13, show (r_11.toInt).toNat = r_11.toNatClampNeg from rfl]; repeat (first | rw [if_pos (by omega)] | rw [if_neg (by omega)]); omega)⟩, ⟨by rw [ht]; exact hP, va_K.moved hW.alike hK, hD⟩⟩, hS.F ht⟩) hS.2.2 dX11_stateOf_89
        · have dc_14 := c_nlt (a := r_11.toInt) (b := 0) rfl (by decide) c_14
          refine lv_aload_n hx hb dX11_stateOf_60 rfl (lv_at hl 1 rfl) ?_
          refine va_get (D := (dC, dI)) (ci := 11) (v := .ref (pq 10)) (C := RX11) (T := TX11) (N := 63) hx hb hts in_wsX11_stateOf_X11 hown hK hP 0 rfl rfl 10 (by decide) (hts (.fieldLink RX11 40 "ShipOfficeModel" "what" "[I") iw_X11_stateOf_4) (fun _ h9 => h9) rfl dX11_stateOf_61 ?_
          refine lv_iload hx hb dX11_stateOf_64 (lv_at hl 0 rfl) ?_
          refine va_iald hx hb hK hP 11 10 rfl rfl (vp_in_iff.mpr (by omega)) dX11_stateOf_66 ?_
          refine lv_topi (fun x_38 ex_38 => ?_)
          have gx_38 : x_38.toInt = (fa 10 (r_11 : Int32).toNatClampNeg).toInt := iv_to ex_38
          clear ex_38
          refine lv_iconst (v := 3) hx hb dX11_stateOf_67 (by decide) ?_
          refine lv_icmp_ne (tgt := 73) hx hb dX11_stateOf_68 (by decide) (fun c_39 => ?_) (fun c_39 => ?_)
          · have dc_39 := c_ne (a := x_38.toInt) (b := 3) rfl (by decide) c_39
            refine lv_aload_n hx hb dX11_stateOf_73 rfl (lv_at hl 1 rfl) ?_
            refine lv_aload_n hx hb dX11_stateOf_74 rfl (lv_at hl 1 rfl) ?_
            refine va_get (D := (dC, dI)) (ci := 11) (v := .ref (pq 21)) (C := RX11) (T := TX11) (N := 63) hx hb hts in_wsX11_stateOf_X11 hown hK hP 0 rfl rfl 21 (by decide) (hts (.fieldLink RX11 73 "ShipOfficeModel" "voyage" "[I") iw_X11_stateOf_3) (fun _ h9 => h9) rfl dX11_stateOf_75 ?_
            refine lv_iload_n hx hb dX11_stateOf_78 rfl (lv_at hl 2 rfl) ?_
            refine va_iald hx hb hK hP 22 21 rfl rfl (vp_in_iff.mpr (by omega)) dX11_stateOf_79 ?_
            refine lv_topi (fun x_40 ex_40 => ?_)
            have hx_40 : 0 ≤ x_40.toInt ∧ x_40.toInt ≤ 19 := iv_of ex_40 (gA 21 _)
            have gx_40 : x_40.toInt = (fa 21 (x1 : Int32).toNatClampNeg).toInt := iv_to ex_40
            clear ex_40
            refine lv_iload_n hx hb dX11_stateOf_80 rfl (lv_at hl 3 rfl) ?_
            refine lv_iload_n hx hb dX11_stateOf_81 rfl (lv_at hl 4 rfl) ?_
            have hFc : ∀ q, va_A [] H.size q → A q := pu_free hS hA
            refine va_calli (va_runV (As := [.int x_40, .int x2, .int x3]) (rest := []) ⟨hx, hb, hml, hown, hts⟩ (c_X11_hasSailed_f l dC dI H.size g0 pq cp v fa gV gA x_40 x2 x3) (cwV 3 hts gX11_stateOf_X11_hasSailed rfl rfl rfl (by decide +kernel) ⟨(Nat.le_of_ble_eq_true rfl), (Nat.le_of_ble_eq_true rfl)⟩) (pr_V (r := (RX11, TX11, 63)) hP hK hD 0 11 rfl rfl) rfl rfl hl.1 rfl (lv_room (Nat.le_of_ble_eq_true rfl)) dX11_stateOf_82 ⟨(Nat.le_of_ble_eq_true rfl), (Nat.le_of_ble_eq_true rfl)⟩) hS (fun q _ h => hFc q h) hFc (fun r_42 u t H locs ht hvm w_41 hB hz1 hk1 hS => ?_)
            have hP := pu_keep hP hk1
            clear hk1 hz1 hvm hB ht hFc
            obtain ⟨hb_43, hx_44⟩ := w_41
            try rw [gx_40] at hx_44
            refine lv_if_ne (tgt := 90) hx hb dX11_stateOf_85 (by decide) (fun c_45 => ?_) (fun c_45 => ?_)
            · have dc_45 := c_ne (a := r_42.toInt) (b := 0) rfl (by decide) c_45
              refine lv_aload_n hx hb dX11_stateOf_90 rfl (lv_at hl 1 rfl) ?_
              refine lv_aload_n hx hb dX11_stateOf_91 rfl (lv_at hl 1 rfl) ?_
              refine va_get (D := (dC, dI)) (ci := 11) (v := .ref (pq 21)) (C := RX11) (T := TX11) (N := 63) hx hb hts in_wsX11_stateOf_X11 hown hK hP 0 rfl rfl 21 (by decide) (hts (.fieldLink RX11 73 "ShipOfficeModel" "voyage" "[I") iw_X11_stateOf_3) (fun _ h9 => h9) rfl dX11_stateOf_92 ?_
              refine lv_iload_n hx hb dX11_stateOf_95 rfl (lv_at hl 2 rfl) ?_
              refine va_iald hx hb hK hP 22 21 rfl rfl (vp_in_iff.mpr (by omega)) dX11_stateOf_96 ?_
              refine lv_topi (fun x_46 ex_46 => ?_)
              have hx_46 : 0 ≤ x_46.toInt ∧ x_46.toInt ≤ 19 := iv_of ex_46 (gA 21 _)
              have gx_46 : x_46.toInt = (fa 21 (x1 : Int32).toNatClampNeg).toInt := iv_to ex_46
              clear ex_46
              refine lv_iload_n hx hb dX11_stateOf_97 rfl (lv_at hl 3 rfl) ?_
              refine lv_iload_n hx hb dX11_stateOf_98 rfl (lv_at hl 4 rfl) ?_
              have hFc := va_free (wc := (mW g0 pq cp v fa)) hD hS hA (List.range 48) rfl
              refine va_calli (va_runV (As := [.int x_46, .int x2, .int x3]) (rest := []) ⟨hx, hb, hml, hown, hts⟩ (c_X11_isUnknown_f l dC dI H.size g0 pq cp v fa gV gA x_46 x2 (by omega) x3 hWl) (cwV 3 hts gX11_stateOf_X11_isUnknown rfl rfl rfl (by decide +kernel) ⟨(Nat.le_of_ble_eq_true rfl), (Nat.le_of_ble_eq_true rfl)⟩) (pr_V (r := (RX11, TX11, 63)) hP hK hD 0 11 rfl rfl) rfl rfl hl.1 rfl (lv_room (Nat.le_of_ble_eq_true rfl)) dX11_stateOf_99 ⟨(Nat.le_of_ble_eq_true rfl), (Nat.le_of_ble_eq_true rfl)⟩) hS (fun q _ h => hFc q h) hFc (fun r_48 u t H locs ht hvm w_47 hB hz1 hk1 hS => ?_)
              obtain ⟨v_49, fa_50⟩ := u
              obtain ⟨hP1, hK1, hD1⟩ := hB
              rw [ht] at hP1
              have hP : va_P (dC, dI) vwCl (mW g0 pq cp v_49 fa_50) H := hP1
              have hD : va_D A (mW g0 pq cp v_49 fa_50) := hD1.weaken (fun _ _ _ h => hFc _ h)
              clear hP1 hK1 hD1 hk1 hz1 hvm ht hFc
              obtain ⟨hV_51, hA_52, hR_53, hb_54, hx_55⟩ := w_47
              dsimp only at hV_51 hA_52 hR_53 hb_54 hx_55
              have g_56 : (fa_50 10 (r_11 : Int32).toNatClampNeg).toInt = (fa 10 (r_11 : Int32).toNatClampNeg).toInt := congrArg (fun h : Nat → Int32 => Int32.toInt (h (r_11 : Int32).toNatClampNeg)) (hR_53.2 10 rfl)
              have g_57 : (fa_50 21 (x1 : Int32).toNatClampNeg).toInt = (fa 21 (x1 : Int32).toNatClampNeg).toInt := congrArg (fun h : Nat → Int32 => Int32.toInt (h (x1 : Int32).toNatClampNeg)) (hR_53.2 21 rfl)
              have g_58 : (fa_50 25 (x1 : Int32).toNatClampNeg).toInt = (fa 25 (x1 : Int32).toNatClampNeg).toInt := congrArg (fun h : Nat → Int32 => Int32.toInt (h (x1 : Int32).toNatClampNeg)) (hR_53.2 25 rfl)
              have g_59 : (fa_50 26 (x1 : Int32).toNatClampNeg).toInt = (fa 26 (x1 : Int32).toNatClampNeg).toInt := congrArg (fun h : Nat → Int32 => Int32.toInt (h (x1 : Int32).toNatClampNeg)) (hR_53.2 26 rfl)
              have R_60 := scr.tr scr.rf hR_53
              try rw [gx_46] at hx_55
              have sc_61 := scr.tr scr.rf hR_53
              have q0_62 : fa_50 0 = fa 0 := (hR_53.2 0 rfl).trans rfl
              refine lv_if_eq (tgt := 109) hx hb dX11_stateOf_102 (by decide) (fun c_63 => ?_) (fun c_63 => ?_)
              · have dc_63 := c_eq (a := r_48.toInt) (b := 0) rfl (by decide) c_63
                refine lv_iconst (v := 1) hx hb dX11_stateOf_109 (by decide) ?_
                exact W.iret (v := 1) hx hb hr (fun t ht hW => ⟨⟨1, (v_49, fa_50), rfl, ⟨hV_51, hA_52, R_60, (by decide), (by have rc : (1 : Int32).toInt = 1 := (by decide); have n1 : ((x1.toNatClampNeg : Nat) : Int) = x1.toInt := tn_i (by omega); unfold stF; simp only [n1]; rw [← hx_13, show (r_11.toInt).toNat = r_11.toNatClampNeg from rfl]; repeat (first | rw [if_pos (by omega)] | rw [if_neg (by omega)]); omega)⟩, ⟨by rw [ht]; exact hP, va_K.moved hW.alike hK, hD⟩⟩, hS.F ht⟩) hS.2.2 dX11_stateOf_110
              · have dc_63 := c_ne (a := r_48.toInt) (b := 0) rfl (by decide) c_63
                refine lv_iconst (v := 2) hx hb dX11_stateOf_105 (by decide) ?_
                refine lv_goto (tgt := 110) hx hb dX11_stateOf_106 (by decide) ?_
                exact W.iret (v := 2) hx hb hr (fun t ht hW => ⟨⟨2, (v_49, fa_50), rfl, ⟨hV_51, hA_52, R_60, (by decide), (by have rc : (2 : Int32).toInt = 2 := (by decide); have n1 : ((x1.toNatClampNeg : Nat) : Int) = x1.toInt := tn_i (by omega); unfold stF; simp only [n1]; rw [← hx_13, show (r_11.toInt).toNat = r_11.toNatClampNeg from rfl]; repeat (first | rw [if_pos (by omega)] | rw [if_neg (by omega)]); omega)⟩, ⟨by rw [ht]; exact hP, va_K.moved hW.alike hK, hD⟩⟩, hS.F ht⟩) hS.2.2 dX11_stateOf_110
            · have dc_45 := c_eq (a := r_42.toInt) (b := 0) rfl (by decide) c_45
              refine lv_iconst (v := 0) hx hb dX11_stateOf_88 (by decide) ?_
              exact W.iret (v := 0) hx hb hr (fun t ht hW => ⟨⟨0, (v, fa), rfl, ⟨gV, gA, scr.rf, (by decide), (by have rc : (0 : Int32).toInt = 0 := (by decide); have n1 : ((x1.toNatClampNeg : Nat) : Int) = x1.toInt := tn_i (by omega); unfold stF; simp only [n1]; rw [← hx_13, show (r_11.toInt).toNat = r_11.toNatClampNeg from rfl]; repeat (first | rw [if_pos (by omega)] | rw [if_neg (by omega)]); omega)⟩, ⟨by rw [ht]; exact hP, va_K.moved hW.alike hK, hD⟩⟩, hS.F ht⟩) hS.2.2 dX11_stateOf_89
          · have dc_39 := c_eq (a := x_38.toInt) (b := 3) rfl (by decide) c_39
            refine lv_iconst (v := 3) hx hb dX11_stateOf_71 (by decide) ?_
            exact W.iret (v := 3) hx hb hr (fun t ht hW => ⟨⟨3, (v, fa), rfl, ⟨gV, gA, scr.rf, (by decide), (by have rc : (3 : Int32).toInt = 3 := (by decide); have n1 : ((x1.toNatClampNeg : Nat) : Int) = x1.toInt := tn_i (by omega); unfold stF; simp only [n1]; rw [← hx_13, show (r_11.toInt).toNat = r_11.toNatClampNeg from rfl]; repeat (first | rw [if_pos (by omega)] | rw [if_neg (by omega)]); omega)⟩, ⟨by rw [ht]; exact hP, va_K.moved hW.alike hK, hD⟩⟩, hS.F ht⟩) hS.2.2 dX11_stateOf_72
      · have dc_9 := c_nlt (a := x_8.toInt) (b := 0) rfl (by decide) c_9
        refine lv_aload_n hx hb dX11_stateOf_34 rfl (lv_at hl 0 rfl) ?_
        refine va_get (D := (dC, dI)) (ci := 11) (v := .ref (pq 26)) (C := RX11) (T := TX11) (N := 63) hx hb hts in_wsX11_stateOf_X11 hown hK hP 0 rfl rfl 26 (by decide) (hts (.fieldLink RX11 88 "ShipOfficeModel" "offOn" "[I") iw_X11_stateOf_2) (fun _ h9 => h9) rfl dX11_stateOf_35 ?_
        refine lv_iload_n hx hb dX11_stateOf_38 rfl (lv_at hl 1 rfl) ?_
        refine va_iald hx hb hK hP 27 26 rfl rfl (vp_in_iff.mpr (by omega)) dX11_stateOf_39 ?_
        refine lv_topi (fun x_64 ex_64 => ?_)
        have gx_64 : x_64.toInt = (fa 26 (x1 : Int32).toNatClampNeg).toInt := iv_to ex_64
        clear ex_64
        refine lv_iload_n hx hb dX11_stateOf_40 rfl (lv_at hl 2 rfl) ?_
        refine lv_icmp_gt (tgt := 46) hx hb dX11_stateOf_41 (by decide) (fun c_65 => ?_) (fun c_65 => ?_)
        · have dc_65 := c_lt (a := x2.toInt) (b := x_64.toInt) rfl rfl c_65
          refine lv_aload_n hx hb dX11_stateOf_46 rfl (lv_at hl 0 rfl) ?_
          refine lv_iload_n hx hb dX11_stateOf_47 rfl (lv_at hl 1 rfl) ?_
          refine lv_iload_n hx hb dX11_stateOf_48 rfl (lv_at hl 2 rfl) ?_
          refine lv_iload_n hx hb dX11_stateOf_49 rfl (lv_at hl 3 rfl) ?_
          have hFc : ∀ q, va_A [] H.size q → A q := pu_free hS hA
          refine va_calli (va_runV (As := [.int x1, .int x2, .int x3]) (rest := []) ⟨hx, hb, hml, hown, hts⟩ (c_X11_whereOf_f l dC dI H.size g0 pq cp v fa gV gA x1 x2 x3) (cwV 3 hts gX11_stateOf_X11_whereOf rfl rfl rfl (by decide +kernel) ⟨(Nat.le_of_ble_eq_true rfl), (Nat.le_of_ble_eq_true rfl)⟩) (pr_V (r := (RX11, TX11, 63)) hP hK hD 0 11 rfl rfl) rfl rfl hl.1 rfl (lv_room (Nat.le_of_ble_eq_true rfl)) dX11_stateOf_50 ⟨(Nat.le_of_ble_eq_true rfl), (Nat.le_of_ble_eq_true rfl)⟩) hS (fun q _ h => hFc q h) hFc (fun r_67 u t H locs ht hvm w_66 hB hz1 hk1 hS => ?_)
          have hP := pu_keep hP hk1
          clear hk1 hz1 hvm hB ht hFc
          obtain ⟨hb_68, hx_69⟩ := w_66
          refine lv_istore (lv' := [(4, .int r_67), (0, .ref g0), (1, .int x1), (2, .int x2), (3, .int x3)]) hx hb dX11_stateOf_53 hl (by decide) rfl (fun ls hl => ?_)
          refine lv_iload hx hb dX11_stateOf_55 (lv_at hl 0 rfl) ?_
          refine lv_if_lt (tgt := 73) hx hb dX11_stateOf_57 (by decide) (fun c_70 => ?_) (fun c_70 => ?_)
          · have dc_70 := c_lt (a := r_67.toInt) (b := 0) rfl (by decide) c_70
            refine lv_aload_n hx hb dX11_stateOf_73 rfl (lv_at hl 1 rfl) ?_
            refine lv_aload_n hx hb dX11_stateOf_74 rfl (lv_at hl 1 rfl) ?_
            refine va_get (D := (dC, dI)) (ci := 11) (v := .ref (pq 21)) (C := RX11) (T := TX11) (N := 63) hx hb hts in_wsX11_stateOf_X11 hown hK hP 0 rfl rfl 21 (by decide) (hts (.fieldLink RX11 73 "ShipOfficeModel" "voyage" "[I") iw_X11_stateOf_3) (fun _ h9 => h9) rfl dX11_stateOf_75 ?_
            refine lv_iload_n hx hb dX11_stateOf_78 rfl (lv_at hl 2 rfl) ?_
            refine va_iald hx hb hK hP 22 21 rfl rfl (vp_in_iff.mpr (by omega)) dX11_stateOf_79 ?_
            refine lv_topi (fun x_71 ex_71 => ?_)
            have hx_71 : 0 ≤ x_71.toInt ∧ x_71.toInt ≤ 19 := iv_of ex_71 (gA 21 _)
            have gx_71 : x_71.toInt = (fa 21 (x1 : Int32).toNatClampNeg).toInt := iv_to ex_71
            clear ex_71
            refine lv_iload_n hx hb dX11_stateOf_80 rfl (lv_at hl 3 rfl) ?_
            refine lv_iload_n hx hb dX11_stateOf_81 rfl (lv_at hl 4 rfl) ?_
            have hFc : ∀ q, va_A [] H.size q → A q := pu_free hS hA
            refine va_calli (va_runV (As := [.int x_71, .int x2, .int x3]) (rest := []) ⟨hx, hb, hml, hown, hts⟩ (c_X11_hasSailed_f l dC dI H.size g0 pq cp v fa gV gA x_71 x2 x3) (cwV 3 hts gX11_stateOf_X11_hasSailed rfl rfl rfl (by decide +kernel) ⟨(Nat.le_of_ble_eq_true rfl), (Nat.le_of_ble_eq_true rfl)⟩) (pr_V (r := (RX11, TX11, 63)) hP hK hD 0 11 rfl rfl) rfl rfl hl.1 rfl (lv_room (Nat.le_of_ble_eq_true rfl)) dX11_stateOf_82 ⟨(Nat.le_of_ble_eq_true rfl), (Nat.le_of_ble_eq_true rfl)⟩) hS (fun q _ h => hFc q h) hFc (fun r_73 u t H locs ht hvm w_72 hB hz1 hk1 hS => ?_)
            have hP := pu_keep hP hk1
            clear hk1 hz1 hvm hB ht hFc
            obtain ⟨hb_74, hx_75⟩ := w_72
            try rw [gx_71] at hx_75
            refine lv_if_ne (tgt := 90) hx hb dX11_stateOf_85 (by decide) (fun c_76 => ?_) (fun c_76 => ?_)
            · have dc_76 := c_ne (a := r_73.toInt) (b := 0) rfl (by decide) c_76
              refine lv_aload_n hx hb dX11_stateOf_90 rfl (lv_at hl 1 rfl) ?_
              refine lv_aload_n hx hb dX11_stateOf_91 rfl (lv_at hl 1 rfl) ?_
              refine va_get (D := (dC, dI)) (ci := 11) (v := .ref (pq 21)) (C := RX11) (T := TX11) (N := 63) hx hb hts in_wsX11_stateOf_X11 hown hK hP 0 rfl rfl 21 (by decide) (hts (.fieldLink RX11 73 "ShipOfficeModel" "voyage" "[I") iw_X11_stateOf_3) (fun _ h9 => h9) rfl dX11_stateOf_92 ?_
              refine lv_iload_n hx hb dX11_stateOf_95 rfl (lv_at hl 2 rfl) ?_
              refine va_iald hx hb hK hP 22 21 rfl rfl (vp_in_iff.mpr (by omega)) dX11_stateOf_96 ?_
              refine lv_topi (fun x_77 ex_77 => ?_)
              have hx_77 : 0 ≤ x_77.toInt ∧ x_77.toInt ≤ 19 := iv_of ex_77 (gA 21 _)
              have gx_77 : x_77.toInt = (fa 21 (x1 : Int32).toNatClampNeg).toInt := iv_to ex_77
              clear ex_77
              refine lv_iload_n hx hb dX11_stateOf_97 rfl (lv_at hl 3 rfl) ?_
              refine lv_iload_n hx hb dX11_stateOf_98 rfl (lv_at hl 4 rfl) ?_
              have hFc := va_free (wc := (mW g0 pq cp v fa)) hD hS hA (List.range 48) rfl
              refine va_calli (va_runV (As := [.int x_77, .int x2, .int x3]) (rest := []) ⟨hx, hb, hml, hown, hts⟩ (c_X11_isUnknown_f l dC dI H.size g0 pq cp v fa gV gA x_77 x2 (by omega) x3 hWl) (cwV 3 hts gX11_stateOf_X11_isUnknown rfl rfl rfl (by decide +kernel) ⟨(Nat.le_of_ble_eq_true rfl), (Nat.le_of_ble_eq_true rfl)⟩) (pr_V (r := (RX11, TX11, 63)) hP hK hD 0 11 rfl rfl) rfl rfl hl.1 rfl (lv_room (Nat.le_of_ble_eq_true rfl)) dX11_stateOf_99 ⟨(Nat.le_of_ble_eq_true rfl), (Nat.le_of_ble_eq_true rfl)⟩) hS (fun q _ h => hFc q h) hFc (fun r_79 u t H locs ht hvm w_78 hB hz1 hk1 hS => ?_)
              obtain ⟨v_80, fa_81⟩ := u
              obtain ⟨hP1, hK1, hD1⟩ := hB
              rw [ht] at hP1
              have hP : va_P (dC, dI) vwCl (mW g0 pq cp v_80 fa_81) H := hP1
              have hD : va_D A (mW g0 pq cp v_80 fa_81) := hD1.weaken (fun _ _ _ h => hFc _ h)
              clear hP1 hK1 hD1 hk1 hz1 hvm ht hFc
              obtain ⟨hV_82, hA_83, hR_84, hb_85, hx_86⟩ := w_78
              dsimp only at hV_82 hA_83 hR_84 hb_85 hx_86
              have g_87 : (fa_81 21 (x1 : Int32).toNatClampNeg).toInt = (fa 21 (x1 : Int32).toNatClampNeg).toInt := congrArg (fun h : Nat → Int32 => Int32.toInt (h (x1 : Int32).toNatClampNeg)) (hR_84.2 21 rfl)
              have g_88 : (fa_81 25 (x1 : Int32).toNatClampNeg).toInt = (fa 25 (x1 : Int32).toNatClampNeg).toInt := congrArg (fun h : Nat → Int32 => Int32.toInt (h (x1 : Int32).toNatClampNeg)) (hR_84.2 25 rfl)
              have g_89 : (fa_81 26 (x1 : Int32).toNatClampNeg).toInt = (fa 26 (x1 : Int32).toNatClampNeg).toInt := congrArg (fun h : Nat → Int32 => Int32.toInt (h (x1 : Int32).toNatClampNeg)) (hR_84.2 26 rfl)
              have R_90 := scr.tr scr.rf hR_84
              try rw [gx_77] at hx_86
              have sc_91 := scr.tr scr.rf hR_84
              have q0_92 : fa_81 0 = fa 0 := (hR_84.2 0 rfl).trans rfl
              refine lv_if_eq (tgt := 109) hx hb dX11_stateOf_102 (by decide) (fun c_93 => ?_) (fun c_93 => ?_)
              · have dc_93 := c_eq (a := r_79.toInt) (b := 0) rfl (by decide) c_93
                refine lv_iconst (v := 1) hx hb dX11_stateOf_109 (by decide) ?_
                exact W.iret (v := 1) hx hb hr (fun t ht hW => ⟨⟨1, (v_80, fa_81), rfl, ⟨hV_82, hA_83, R_90, (by decide), (by have rc : (1 : Int32).toInt = 1 := (by decide); have n1 : ((x1.toNatClampNeg : Nat) : Int) = x1.toInt := tn_i (by omega); unfold stF; simp only [n1]; rw [← hx_69, show (r_67.toInt).toNat = r_67.toNatClampNeg from rfl]; repeat (first | rw [if_pos (by omega)] | rw [if_neg (by omega)]); omega)⟩, ⟨by rw [ht]; exact hP, va_K.moved hW.alike hK, hD⟩⟩, hS.F ht⟩) hS.2.2 dX11_stateOf_110
              · have dc_93 := c_ne (a := r_79.toInt) (b := 0) rfl (by decide) c_93
                refine lv_iconst (v := 2) hx hb dX11_stateOf_105 (by decide) ?_
                refine lv_goto (tgt := 110) hx hb dX11_stateOf_106 (by decide) ?_
                exact W.iret (v := 2) hx hb hr (fun t ht hW => ⟨⟨2, (v_80, fa_81), rfl, ⟨hV_82, hA_83, R_90, (by decide), (by have rc : (2 : Int32).toInt = 2 := (by decide); have n1 : ((x1.toNatClampNeg : Nat) : Int) = x1.toInt := tn_i (by omega); unfold stF; simp only [n1]; rw [← hx_69, show (r_67.toInt).toNat = r_67.toNatClampNeg from rfl]; repeat (first | rw [if_pos (by omega)] | rw [if_neg (by omega)]); omega)⟩, ⟨by rw [ht]; exact hP, va_K.moved hW.alike hK, hD⟩⟩, hS.F ht⟩) hS.2.2 dX11_stateOf_110
            · have dc_76 := c_eq (a := r_73.toInt) (b := 0) rfl (by decide) c_76
              refine lv_iconst (v := 0) hx hb dX11_stateOf_88 (by decide) ?_
              exact W.iret (v := 0) hx hb hr (fun t ht hW => ⟨⟨0, (v, fa), rfl, ⟨gV, gA, scr.rf, (by decide), (by have rc : (0 : Int32).toInt = 0 := (by decide); have n1 : ((x1.toNatClampNeg : Nat) : Int) = x1.toInt := tn_i (by omega); unfold stF; simp only [n1]; rw [← hx_69, show (r_67.toInt).toNat = r_67.toNatClampNeg from rfl]; repeat (first | rw [if_pos (by omega)] | rw [if_neg (by omega)]); omega)⟩, ⟨by rw [ht]; exact hP, va_K.moved hW.alike hK, hD⟩⟩, hS.F ht⟩) hS.2.2 dX11_stateOf_89
          · have dc_70 := c_nlt (a := r_67.toInt) (b := 0) rfl (by decide) c_70
            refine lv_aload_n hx hb dX11_stateOf_60 rfl (lv_at hl 1 rfl) ?_
            refine va_get (D := (dC, dI)) (ci := 11) (v := .ref (pq 10)) (C := RX11) (T := TX11) (N := 63) hx hb hts in_wsX11_stateOf_X11 hown hK hP 0 rfl rfl 10 (by decide) (hts (.fieldLink RX11 40 "ShipOfficeModel" "what" "[I") iw_X11_stateOf_4) (fun _ h9 => h9) rfl dX11_stateOf_61 ?_
            refine lv_iload hx hb dX11_stateOf_64 (lv_at hl 0 rfl) ?_
            refine va_iald hx hb hK hP 11 10 rfl rfl (vp_in_iff.mpr (by omega)) dX11_stateOf_66 ?_
            refine lv_topi (fun x_94 ex_94 => ?_)
            have gx_94 : x_94.toInt = (fa 10 (r_67 : Int32).toNatClampNeg).toInt := iv_to ex_94
            clear ex_94
            refine lv_iconst (v := 3) hx hb dX11_stateOf_67 (by decide) ?_
            refine lv_icmp_ne (tgt := 73) hx hb dX11_stateOf_68 (by decide) (fun c_95 => ?_) (fun c_95 => ?_)
            · have dc_95 := c_ne (a := x_94.toInt) (b := 3) rfl (by decide) c_95
              refine lv_aload_n hx hb dX11_stateOf_73 rfl (lv_at hl 1 rfl) ?_
              refine lv_aload_n hx hb dX11_stateOf_74 rfl (lv_at hl 1 rfl) ?_
              refine va_get (D := (dC, dI)) (ci := 11) (v := .ref (pq 21)) (C := RX11) (T := TX11) (N := 63) hx hb hts in_wsX11_stateOf_X11 hown hK hP 0 rfl rfl 21 (by decide) (hts (.fieldLink RX11 73 "ShipOfficeModel" "voyage" "[I") iw_X11_stateOf_3) (fun _ h9 => h9) rfl dX11_stateOf_75 ?_
              refine lv_iload_n hx hb dX11_stateOf_78 rfl (lv_at hl 2 rfl) ?_
              refine va_iald hx hb hK hP 22 21 rfl rfl (vp_in_iff.mpr (by omega)) dX11_stateOf_79 ?_
              refine lv_topi (fun x_96 ex_96 => ?_)
              have hx_96 : 0 ≤ x_96.toInt ∧ x_96.toInt ≤ 19 := iv_of ex_96 (gA 21 _)
              have gx_96 : x_96.toInt = (fa 21 (x1 : Int32).toNatClampNeg).toInt := iv_to ex_96
              clear ex_96
              refine lv_iload_n hx hb dX11_stateOf_80 rfl (lv_at hl 3 rfl) ?_
              refine lv_iload_n hx hb dX11_stateOf_81 rfl (lv_at hl 4 rfl) ?_
              have hFc : ∀ q, va_A [] H.size q → A q := pu_free hS hA
              refine va_calli (va_runV (As := [.int x_96, .int x2, .int x3]) (rest := []) ⟨hx, hb, hml, hown, hts⟩ (c_X11_hasSailed_f l dC dI H.size g0 pq cp v fa gV gA x_96 x2 x3) (cwV 3 hts gX11_stateOf_X11_hasSailed rfl rfl rfl (by decide +kernel) ⟨(Nat.le_of_ble_eq_true rfl), (Nat.le_of_ble_eq_true rfl)⟩) (pr_V (r := (RX11, TX11, 63)) hP hK hD 0 11 rfl rfl) rfl rfl hl.1 rfl (lv_room (Nat.le_of_ble_eq_true rfl)) dX11_stateOf_82 ⟨(Nat.le_of_ble_eq_true rfl), (Nat.le_of_ble_eq_true rfl)⟩) hS (fun q _ h => hFc q h) hFc (fun r_98 u t H locs ht hvm w_97 hB hz1 hk1 hS => ?_)
              have hP := pu_keep hP hk1
              clear hk1 hz1 hvm hB ht hFc
              obtain ⟨hb_99, hx_100⟩ := w_97
              try rw [gx_96] at hx_100
              refine lv_if_ne (tgt := 90) hx hb dX11_stateOf_85 (by decide) (fun c_101 => ?_) (fun c_101 => ?_)
              · have dc_101 := c_ne (a := r_98.toInt) (b := 0) rfl (by decide) c_101
                refine lv_aload_n hx hb dX11_stateOf_90 rfl (lv_at hl 1 rfl) ?_
                refine lv_aload_n hx hb dX11_stateOf_91 rfl (lv_at hl 1 rfl) ?_
                refine va_get (D := (dC, dI)) (ci := 11) (v := .ref (pq 21)) (C := RX11) (T := TX11) (N := 63) hx hb hts in_wsX11_stateOf_X11 hown hK hP 0 rfl rfl 21 (by decide) (hts (.fieldLink RX11 73 "ShipOfficeModel" "voyage" "[I") iw_X11_stateOf_3) (fun _ h9 => h9) rfl dX11_stateOf_92 ?_
                refine lv_iload_n hx hb dX11_stateOf_95 rfl (lv_at hl 2 rfl) ?_
                refine va_iald hx hb hK hP 22 21 rfl rfl (vp_in_iff.mpr (by omega)) dX11_stateOf_96 ?_
                refine lv_topi (fun x_102 ex_102 => ?_)
                have hx_102 : 0 ≤ x_102.toInt ∧ x_102.toInt ≤ 19 := iv_of ex_102 (gA 21 _)
                have gx_102 : x_102.toInt = (fa 21 (x1 : Int32).toNatClampNeg).toInt := iv_to ex_102
                clear ex_102
                refine lv_iload_n hx hb dX11_stateOf_97 rfl (lv_at hl 3 rfl) ?_
                refine lv_iload_n hx hb dX11_stateOf_98 rfl (lv_at hl 4 rfl) ?_
                have hFc := va_free (wc := (mW g0 pq cp v fa)) hD hS hA (List.range 48) rfl
                refine va_calli (va_runV (As := [.int x_102, .int x2, .int x3]) (rest := []) ⟨hx, hb, hml, hown, hts⟩ (c_X11_isUnknown_f l dC dI H.size g0 pq cp v fa gV gA x_102 x2 (by omega) x3 hWl) (cwV 3 hts gX11_stateOf_X11_isUnknown rfl rfl rfl (by decide +kernel) ⟨(Nat.le_of_ble_eq_true rfl), (Nat.le_of_ble_eq_true rfl)⟩) (pr_V (r := (RX11, TX11, 63)) hP hK hD 0 11 rfl rfl) rfl rfl hl.1 rfl (lv_room (Nat.le_of_ble_eq_true rfl)) dX11_stateOf_99 ⟨(Nat.le_of_ble_eq_true rfl), (Nat.le_of_ble_eq_true rfl)⟩) hS (fun q _ h => hFc q h) hFc (fun r_104 u t H locs ht hvm w_103 hB hz1 hk1 hS => ?_)
                obtain ⟨v_105, fa_106⟩ := u
                obtain ⟨hP1, hK1, hD1⟩ := hB
                rw [ht] at hP1
                have hP : va_P (dC, dI) vwCl (mW g0 pq cp v_105 fa_106) H := hP1
                have hD : va_D A (mW g0 pq cp v_105 fa_106) := hD1.weaken (fun _ _ _ h => hFc _ h)
                clear hP1 hK1 hD1 hk1 hz1 hvm ht hFc
                obtain ⟨hV_107, hA_108, hR_109, hb_110, hx_111⟩ := w_103
                dsimp only at hV_107 hA_108 hR_109 hb_110 hx_111
                have g_112 : (fa_106 10 (r_67 : Int32).toNatClampNeg).toInt = (fa 10 (r_67 : Int32).toNatClampNeg).toInt := congrArg (fun h : Nat → Int32 => Int32.toInt (h (r_67 : Int32).toNatClampNeg)) (hR_109.2 10 rfl)
                have g_113 : (fa_106 21 (x1 : Int32).toNatClampNeg).toInt = (fa 21 (x1 : Int32).toNatClampNeg).toInt := congrArg (fun h : Nat → Int32 => Int32.toInt (h (x1 : Int32).toNatClampNeg)) (hR_109.2 21 rfl)
                have g_114 : (fa_106 25 (x1 : Int32).toNatClampNeg).toInt = (fa 25 (x1 : Int32).toNatClampNeg).toInt := congrArg (fun h : Nat → Int32 => Int32.toInt (h (x1 : Int32).toNatClampNeg)) (hR_109.2 25 rfl)
                have g_115 : (fa_106 26 (x1 : Int32).toNatClampNeg).toInt = (fa 26 (x1 : Int32).toNatClampNeg).toInt := congrArg (fun h : Nat → Int32 => Int32.toInt (h (x1 : Int32).toNatClampNeg)) (hR_109.2 26 rfl)
                have R_116 := scr.tr scr.rf hR_109
                try rw [gx_102] at hx_111
                have sc_117 := scr.tr scr.rf hR_109
                have q0_118 : fa_106 0 = fa 0 := (hR_109.2 0 rfl).trans rfl
                refine lv_if_eq (tgt := 109) hx hb dX11_stateOf_102 (by decide) (fun c_119 => ?_) (fun c_119 => ?_)
                · have dc_119 := c_eq (a := r_104.toInt) (b := 0) rfl (by decide) c_119
                  refine lv_iconst (v := 1) hx hb dX11_stateOf_109 (by decide) ?_
                  exact W.iret (v := 1) hx hb hr (fun t ht hW => ⟨⟨1, (v_105, fa_106), rfl, ⟨hV_107, hA_108, R_116, (by decide), (by have rc : (1 : Int32).toInt = 1 := (by decide); have n1 : ((x1.toNatClampNeg : Nat) : Int) = x1.toInt := tn_i (by omega); unfold stF; simp only [n1]; rw [← hx_69, show (r_67.toInt).toNat = r_67.toNatClampNeg from rfl]; repeat (first | rw [if_pos (by omega)] | rw [if_neg (by omega)]); omega)⟩, ⟨by rw [ht]; exact hP, va_K.moved hW.alike hK, hD⟩⟩, hS.F ht⟩) hS.2.2 dX11_stateOf_110
                · have dc_119 := c_ne (a := r_104.toInt) (b := 0) rfl (by decide) c_119
                  refine lv_iconst (v := 2) hx hb dX11_stateOf_105 (by decide) ?_
                  refine lv_goto (tgt := 110) hx hb dX11_stateOf_106 (by decide) ?_
                  exact W.iret (v := 2) hx hb hr (fun t ht hW => ⟨⟨2, (v_105, fa_106), rfl, ⟨hV_107, hA_108, R_116, (by decide), (by have rc : (2 : Int32).toInt = 2 := (by decide); have n1 : ((x1.toNatClampNeg : Nat) : Int) = x1.toInt := tn_i (by omega); unfold stF; simp only [n1]; rw [← hx_69, show (r_67.toInt).toNat = r_67.toNatClampNeg from rfl]; repeat (first | rw [if_pos (by omega)] | rw [if_neg (by omega)]); omega)⟩, ⟨by rw [ht]; exact hP, va_K.moved hW.alike hK, hD⟩⟩, hS.F ht⟩) hS.2.2 dX11_stateOf_110
              · have dc_101 := c_eq (a := r_98.toInt) (b := 0) rfl (by decide) c_101
                refine lv_iconst (v := 0) hx hb dX11_stateOf_88 (by decide) ?_
                exact W.iret (v := 0) hx hb hr (fun t ht hW => ⟨⟨0, (v, fa), rfl, ⟨gV, gA, scr.rf, (by decide), (by have rc : (0 : Int32).toInt = 0 := (by decide); have n1 : ((x1.toNatClampNeg : Nat) : Int) = x1.toInt := tn_i (by omega); unfold stF; simp only [n1]; rw [← hx_69, show (r_67.toInt).toNat = r_67.toNatClampNeg from rfl]; repeat (first | rw [if_pos (by omega)] | rw [if_neg (by omega)]); omega)⟩, ⟨by rw [ht]; exact hP, va_K.moved hW.alike hK, hD⟩⟩, hS.F ht⟩) hS.2.2 dX11_stateOf_89
            · have dc_95 := c_eq (a := x_94.toInt) (b := 3) rfl (by decide) c_95
              refine lv_iconst (v := 3) hx hb dX11_stateOf_71 (by decide) ?_
              exact W.iret (v := 3) hx hb hr (fun t ht hW => ⟨⟨3, (v, fa), rfl, ⟨gV, gA, scr.rf, (by decide), (by have rc : (3 : Int32).toInt = 3 := (by decide); have n1 : ((x1.toNatClampNeg : Nat) : Int) = x1.toInt := tn_i (by omega); unfold stF; simp only [n1]; rw [← hx_69, show (r_67.toInt).toNat = r_67.toNatClampNeg from rfl]; repeat (first | rw [if_pos (by omega)] | rw [if_neg (by omega)]); omega)⟩, ⟨by rw [ht]; exact hP, va_K.moved hW.alike hK, hD⟩⟩, hS.F ht⟩) hS.2.2 dX11_stateOf_72
        · have dc_65 := c_nlt (a := x2.toInt) (b := x_64.toInt) rfl rfl c_65
          refine lv_iconst (v := 5) hx hb dX11_stateOf_44 (by decide) ?_
          exact W.iret (v := 5) hx hb hr (fun t ht hW => ⟨⟨5, (v, fa), rfl, ⟨gV, gA, scr.rf, (by decide), (by have rc : (5 : Int32).toInt = 5 := (by decide); have n1 : ((x1.toNatClampNeg : Nat) : Int) = x1.toInt := tn_i (by omega); unfold stF; simp only [n1]; repeat (first | rw [if_pos (by omega)] | rw [if_neg (by omega)]); omega)⟩, ⟨by rw [ht]; exact hP, va_K.moved hW.alike hK, hD⟩⟩, hS.F ht⟩) hS.2.2 dX11_stateOf_45
    · have dc_7 := c_ne (a := r_4.toInt) (b := 0) rfl (by decide) c_7
      refine lv_iconst (v := 4) hx hb dX11_stateOf_23 (by decide) ?_
      exact W.iret (v := 4) hx hb hr (fun t ht hW => ⟨⟨4, (v, fa), rfl, ⟨gV, gA, scr.rf, (by decide), (by have rc : (4 : Int32).toInt = 4 := (by decide); have n1 : ((x1.toNatClampNeg : Nat) : Int) = x1.toInt := tn_i (by omega); unfold stF; simp only [n1]; repeat (first | rw [if_pos (by omega)] | rw [if_neg (by omega)]); omega)⟩, ⟨by rw [ht]; exact hP, va_K.moved hW.alike hK, hD⟩⟩, hS.F ht⟩) hS.2.2 dX11_stateOf_24
  · have dc_2 := c_nle (a := x_1.toInt) (b := x2.toInt) rfl rfl c_2
    refine lv_bipush (v := (-9)) hx hb dX11_stateOf_10 (by decide) ?_
    exact W.iret (v := (-9)) hx hb hr (fun t ht hW => ⟨⟨(-9), (v, fa), rfl, ⟨gV, gA, scr.rf, (by decide), (by have rc : ((-9) : Int32).toInt = -9 := (by decide); have n1 : ((x1.toNatClampNeg : Nat) : Int) = x1.toInt := tn_i (by omega); unfold stF; simp only [n1]; repeat (first | rw [if_pos (by omega)] | rw [if_neg (by omega)]); omega)⟩, ⟨by rw [ht]; exact hP, va_K.moved hW.alike hK, hD⟩⟩, hS.F ht⟩) hS.2.2 dX11_stateOf_12
theorem ab_s {g : Nat → Int} {y y1 i i1 : Int32} (h : y.toInt = smN g i.toNatClampNeg) (e : i1.toInt = i.toInt + 1) (h0 : 0 ≤ i.toInt) (hy : y1.toInt = y.toInt + g i.toNatClampNeg) : y1.toInt = smN g i1.toNatClampNeg := by
  rw [show i1.toNatClampNeg = i.toNatClampNeg + 1 from (show i1.toInt.toNat = i.toInt.toNat + 1 by omega), smN_s, ← h]
  exact hy
set_option maxHeartbeats 4000000 in
set_option maxRecDepth 100000 in
theorem c_X11_aboardOf_f (l : Launch) (dC : Nat → ClassId) (dI : Nat → Nat → Nat) (sz : Nat) (g0 : Nat) (pq : Nat → Nat) (cp : Nat → ClassId) (v : Nat → Int32) (fa : Nat → Nat → Int32) (gV : mV v) (gA : mA fa) (x1 : Int32) (x2 : Int32) (hx2 : 0 ≤ x2.toInt ∧ x2.toInt ≤ 3000) (x3 : Int32) (hWl : wlA v fa) : Met l yX11_aboardOf wsX11_aboardOf ({ frames := 23, cells := 0, slots := 0, locals := 533 }) (va_Pc [.ref g0, .int x1, .int x2, .int x3] (pcW (dC, dI) (mT cp) (mW g0 pq cp v fa) sz)) (va_Qi (fun (r : Int32) (u : (Nat → Int32) × (Nat → Nat → Int32)) => mV u.1 ∧ mA u.2 ∧ scr v fa u.1 u.2 ∧ (0 ≤ r.toInt ∧ r.toInt ≤ 60) ∧ (r.toInt = abF v fa x1.toInt x2.toInt x3.toInt)) (fun u t => va_P (dC, dI) vwCl (mW g0 pq cp u.1 u.2) t.heap ∧ va_K (dC, dI) vwCl (mT cp) t ∧ va_D (va_A (mW g0 pq cp v fa) sz) (mW g0 pq cp u.1 u.2)) (va_A (mW g0 pq cp v fa) sz)) 0 0 (va_A (mW g0 pq cp v fa) sz) := by
  refine Met.ofW (cc := cX11_aboardOf) (maxL := 6) (ret := (some .int)) (by decide) rfl ?_
  intro p e s m args below meth c s₁ B hml hv
  obtain ⟨rfl, hsz, hP, hK, hD0⟩ := hv
  have hx := B.exec
  have hb := B.bytes
  have hr := B.returns
  have hts := atoms_spec (ws := wsX11_aboardOf) B.pre
  have hown : s.vm.findClass RX11 = some m.cls := findClass_of_methodNamed B.named
  have hlocks := B.notSynchronized
  subst hsz
  have hD := hD0.self (sz := s.heap.size)
  generalize hAe : va_A (mW g0 pq cp v fa) s.heap.size = A at hD ⊢
  have hA : ∀ q : Nat, s.heap.size ≤ q → A q := fun q h => by rw [← hAe]; exact Or.inr h
  have hS : va_S A s.heap s.heap [] := va_S.rf
  have hP : va_P (dC, dI) vwCl (mW g0 pq cp v fa) s.heap := hP
  have hl := lv_entry ([.ref g0, .int x1, .int x2, .int x3]) (n := 6) (Nat.le_of_ble_eq_true rfl)
  rw [lg_entry_eq]
  generalize (lg_sl ([.ref g0, .int x1, .int x2, .int x3]) ++ List.replicate (6 - (lg_sl ([.ref g0, .int x1, .int x2, .int x3])).length) Slot.unset).toArray = ls at hl ⊢
  have hl : lv_has ls 6 [(0, .ref g0), (1, .int x1), (2, .int x2), (3, .int x3)] := hl
  have iv_1 : 0 ≤ (v 43).toInt ∧ (v 43).toInt ≤ 60 := gV 43
  refine lv_iconst (v := 0) hx hb dX11_aboardOf_0 (by decide) ?_
  refine lv_istore (lv' := [(4, .int 0), (0, .ref g0), (1, .int x1), (2, .int x2), (3, .int x3)]) hx hb dX11_aboardOf_1 hl (by decide) rfl (fun ls hl => ?_)
  refine lv_iconst (v := 0) hx hb dX11_aboardOf_3 (by decide) ?_
  refine lv_istore (lv' := [(5, .int 0), (4, .int 0), (0, .ref g0), (1, .int x1), (2, .int x2), (3, .int x3)]) hx hb dX11_aboardOf_4 hl (by decide) rfl (fun ls hl => ?_)
  have cut_2 : ∀ (n : Nat) (y_3 : Int32) (y_4 : Int32) (z_5 : Nat → Int32) (fz_6 : Nat → Nat → Int32) (H : Heap) (locs : List Loc) (ls : Array Slot), 60 - y_3.toInt ≤ (n : Int) → (0 ≤ y_3.toInt ∧ y_3.toInt ≤ 60) → (0 ≤ y_4.toInt ∧ y_4.toInt ≤ 60) → y_4.toInt ≤ y_3.toInt → (y_4.toInt = smN (fun a => if (fa 21 a).toInt = x1.toInt ∧ stF v fa a x2.toInt x3.toInt = 1 then 1 else 0) y_3.toNatClampNeg) → y_3.toInt ≤ (v 43).toInt → mV z_5 → mA fz_6 → scr v fa z_5 fz_6 → va_P (dC, dI) vwCl (mW g0 pq cp z_5 fz_6) H → va_D A (mW g0 pq cp z_5 fz_6) → va_S A s.heap H locs → (z_5 43).toInt = (v 43).toInt → lv_has ls 6 [(5, .int y_3), (4, .int y_4), (0, .ref g0), (1, .int x1), (2, .int x2), (3, .int x3)] → W p l e (headSpec wsX11_aboardOf { frames := 23, cells := 0, slots := 0, locals := 533 }).room s m #[Value.ref g0, Value.int x1, Value.int x2, Value.int x3] below meth c H locs 0 0 (MQ below (va_Qi (fun (r : Int32) (u : (Nat → Int32) × (Nat → Nat → Int32)) => mV u.1 ∧ mA u.2 ∧ scr v fa u.1 u.2 ∧ (0 ≤ r.toInt ∧ r.toInt ≤ 60) ∧ (r.toInt = abF v fa x1.toInt x2.toInt x3.toInt)) (fun u t => va_P (dC, dI) vwCl (mW g0 pq cp u.1 u.2) t.heap ∧ va_K (dC, dI) vwCl (mT cp) t ∧ va_D A (mW g0 pq cp u.1 u.2)) A) #[Value.ref g0, Value.int x1, Value.int x2, Value.int x3] s 0 0 A) (F0 m 6 ls []) := by
    intro n
    induction n using Nat.strongRecOn with
    | ind n ih =>
      intro y_3 y_4 z_5 fz_6 H locs ls hm hy_3 hy_4 hq0_cut_2 hq1_cut_2 hq2_cut_2 hVz_5 hAz_5 hRz_5 hP hD hS g_7 hl
      refine lv_iload hx hb dX11_aboardOf_6 (lv_at hl 0 rfl) ?_
      refine lv_aload_n hx hb dX11_aboardOf_8 rfl (lv_at hl 2 rfl) ?_
      refine va_get (D := (dC, dI)) (ci := 11) (v := .int (z_5 43)) (C := RX11) (T := TX11) (N := 63) hx hb hts in_wsX11_aboardOf_X11 hown hK hP 0 rfl rfl 43 (by decide) (hts (.fieldLink RX11 168 "ShipOfficeModel" "agreements" "I") iw_X11_aboardOf_1) (fun _ h9 => h9) rfl dX11_aboardOf_9 ?_
      refine lv_topi (fun x_8 ex_8 => ?_)
      have hx_8 : 0 ≤ x_8.toInt ∧ x_8.toInt ≤ 60 := iv_of ex_8 (hVz_5 43)
      have gx_8 : x_8.toInt = (z_5 43).toInt := iv_to ex_8
      clear ex_8
      rw [show z_5 43 = v 43 from hRz_5.1 43 rfl] at gx_8
      refine lv_icmp_ge (tgt := 54) hx hb dX11_aboardOf_12 (by decide) (fun c_9 => ?_) (fun c_9 => ?_)
      · have dc_9 := c_le (a := x_8.toInt) (b := y_3.toInt) rfl rfl c_9
        refine lv_iload hx hb dX11_aboardOf_54 (lv_at hl 1 rfl) ?_
        exact W.iret (v := y_4) hx hb hr (fun t ht hW => ⟨⟨y_4, (z_5, fz_6), rfl, ⟨hVz_5, hAz_5, hRz_5, (by omega), (by unfold abF; rw [hq1_cut_2, show y_3.toNatClampNeg = (v 43).toNatClampNeg from (show y_3.toInt.toNat = (v 43).toInt.toNat by omega)])⟩, ⟨by rw [ht]; exact hP, va_K.moved hW.alike hK, hD⟩⟩, hS.F ht⟩) hS.2.2 dX11_aboardOf_56
      · have dc_9 := c_nle (a := x_8.toInt) (b := y_3.toInt) rfl rfl c_9
        refine lv_iload hx hb dX11_aboardOf_15 (lv_at hl 1 rfl) ?_
        refine lv_aload_n hx hb dX11_aboardOf_17 rfl (lv_at hl 2 rfl) ?_
        refine va_get (D := (dC, dI)) (ci := 11) (v := .ref (pq 21)) (C := RX11) (T := TX11) (N := 63) hx hb hts in_wsX11_aboardOf_X11 hown hK hP 0 rfl rfl 21 (by decide) (hts (.fieldLink RX11 73 "ShipOfficeModel" "voyage" "[I") iw_X11_aboardOf_2) (fun _ h9 => h9) rfl dX11_aboardOf_18 ?_
        refine lv_iload hx hb dX11_aboardOf_21 (lv_at hl 0 rfl) ?_
        refine va_iald hx hb hK hP 22 21 rfl rfl (vp_in_iff.mpr (by omega)) dX11_aboardOf_23 ?_
        refine lv_topi (fun x_10 ex_10 => ?_)
        have hx_10 : 0 ≤ x_10.toInt ∧ x_10.toInt ≤ 19 := iv_of ex_10 (hAz_5 21 _)
        have gx_10 : x_10.toInt = (fz_6 21 (y_3 : Int32).toNatClampNeg).toInt := iv_to ex_10
        clear ex_10
        rw [show fz_6 21 = fa 21 from hRz_5.2 21 rfl] at gx_10
        refine lv_iload_n hx hb dX11_aboardOf_24 rfl (lv_at hl 3 rfl) ?_
        refine lv_icmp_ne (tgt := 44) hx hb dX11_aboardOf_25 (by decide) (fun c_11 => ?_) (fun c_11 => ?_)
        · have dc_11 := c_ne (a := x_10.toInt) (b := x1.toInt) rfl rfl c_11
          refine lv_iconst (v := 0) hx hb dX11_aboardOf_44 (by decide) ?_
          refine lv_iadd hx hb dX11_aboardOf_45 ?_
          refine lv_topi (fun x_12 ex_12 => ?_)
          have hx_12 : x_12.toInt = y_4.toInt + 0 := (iv_to ex_12).trans (ad_i rfl (by decide) (by omega) (by omega))
          refine lv_istore (lv' := [(4, .int x_12), (5, .int y_3), (0, .ref g0), (1, .int x1), (2, .int x2), (3, .int x3)]) hx hb dX11_aboardOf_46 hl (by decide) rfl (fun ls hl => ?_)
          obtain ⟨x_13, ex_13⟩ : ∃ zq : Int32, y_3 + 1 = zq := ⟨_, rfl⟩
          have hx_13 : x_13.toInt = y_3.toInt + 1 := (iv_to ex_13).symm.trans (ad_i rfl (by decide) (by omega) (by omega))
          refine lv_iinc (v := x_13) (lv' := [(5, .int x_13), (4, .int x_12), (0, .ref g0), (1, .int x1), (2, .int x2), (3, .int x3)]) hx hb dX11_aboardOf_48 hl (k := 1) rfl ex_13 (by decide) rfl (fun ls hl => ?_)
          clear ex_13
          refine lv_goto (tgt := 6) hx hb dX11_aboardOf_51 (by decide) ?_
          exact ih (n - 1) (by omega) x_13 x_12 z_5 fz_6 _ _ ls (by omega) (by omega) (by omega) (by omega) (ab_s hq1_cut_2 (by omega) (by omega) (by show _ = _ + (if _ then _ else _); repeat (first | rw [if_pos (by omega)] | rw [if_neg (by omega)]); omega)) (by omega) hVz_5 hAz_5 hRz_5 hP hD hS (by omega) (lv_sub hl [0, 1, 2, 3, 4, 5] rfl)
        · have dc_11 := c_eq (a := x_10.toInt) (b := x1.toInt) rfl rfl c_11
          refine lv_aload_n hx hb dX11_aboardOf_28 rfl (lv_at hl 2 rfl) ?_
          refine lv_iload hx hb dX11_aboardOf_29 (lv_at hl 0 rfl) ?_
          refine lv_iload_n hx hb dX11_aboardOf_31 rfl (lv_at hl 4 rfl) ?_
          refine lv_iload_n hx hb dX11_aboardOf_32 rfl (lv_at hl 5 rfl) ?_
          have hFc := va_free (wc := (mW g0 pq cp z_5 fz_6)) hD hS hA (List.range 48) rfl
          refine va_calli (va_runV (As := [.int y_3, .int x2, .int x3]) (rest := [.int y_4]) ⟨hx, hb, hml, hown, hts⟩ (c_X11_stateOf_f l dC dI H.size g0 pq cp z_5 fz_6 hVz_5 hAz_5 y_3 (by omega) x2 (by omega) x3 (wlA_fr hWl (hRz_5.1 42 rfl) (hRz_5.2 19 rfl) (hRz_5.2 16 rfl))) (cwV 3 hts gX11_aboardOf_X11_stateOf rfl rfl rfl (by decide +kernel) ⟨(Nat.le_of_ble_eq_true rfl), (Nat.le_of_ble_eq_true rfl)⟩) (pr_V (r := (RX11, TX11, 63)) hP hK hD 0 11 rfl rfl) rfl rfl hl.1 rfl (lv_room (Nat.le_of_ble_eq_true rfl)) dX11_aboardOf_33 ⟨(Nat.le_of_ble_eq_true rfl), (Nat.le_of_ble_eq_true rfl)⟩) hS (fun q _ h => hFc q h) hFc (fun r_15 u t H locs ht hvm w_14 hB hz1 hk1 hS => ?_)
          obtain ⟨v_16, fa_17⟩ := u
          obtain ⟨hP1, hK1, hD1⟩ := hB
          rw [ht] at hP1
          have hP : va_P (dC, dI) vwCl (mW g0 pq cp v_16 fa_17) H := hP1
          have hD : va_D A (mW g0 pq cp v_16 fa_17) := hD1.weaken (fun _ _ _ h => hFc _ h)
          clear hP1 hK1 hD1 hk1 hz1 hvm ht hFc
          obtain ⟨hV_18, hA_19, hR_20, hb_21, hx_22⟩ := w_14
          dsimp only at hV_18 hA_19 hR_20 hb_21 hx_22
          have g_23 : (v_16 43).toInt = (z_5 43).toInt := congrArg Int32.toInt (hR_20.1 43 rfl)
          have g_24 : (fa_17 21 (y_3 : Int32).toNatClampNeg).toInt = (fz_6 21 (y_3 : Int32).toNatClampNeg).toInt := congrArg (fun h : Nat → Int32 => Int32.toInt (h (y_3 : Int32).toNatClampNeg)) (hR_20.2 21 rfl)
          have R_25 := scr.tr hRz_5 hR_20
          have sc_26 := scr.tr hRz_5 hR_20
          have q0_27 : fa_17 0 = fa 0 := (hR_20.2 0 rfl).trans (hRz_5.2 0 rfl)
          rw [stF_s hWl hRz_5] at hx_22
          refine lv_iconst (v := 1) hx hb dX11_aboardOf_36 (by decide) ?_
          refine lv_icmp_ne (tgt := 44) hx hb dX11_aboardOf_37 (by decide) (fun c_28 => ?_) (fun c_28 => ?_)
          · have dc_28 := c_ne (a := r_15.toInt) (b := 1) rfl (by decide) c_28
            refine lv_iconst (v := 0) hx hb dX11_aboardOf_44 (by decide) ?_
            refine lv_iadd hx hb dX11_aboardOf_45 ?_
            refine lv_topi (fun x_29 ex_29 => ?_)
            have hx_29 : x_29.toInt = y_4.toInt + 0 := (iv_to ex_29).trans (ad_i rfl (by decide) (by omega) (by omega))
            refine lv_istore (lv' := [(4, .int x_29), (5, .int y_3), (0, .ref g0), (1, .int x1), (2, .int x2), (3, .int x3)]) hx hb dX11_aboardOf_46 hl (by decide) rfl (fun ls hl => ?_)
            obtain ⟨x_30, ex_30⟩ : ∃ zq : Int32, y_3 + 1 = zq := ⟨_, rfl⟩
            have hx_30 : x_30.toInt = y_3.toInt + 1 := (iv_to ex_30).symm.trans (ad_i rfl (by decide) (by omega) (by omega))
            refine lv_iinc (v := x_30) (lv' := [(5, .int x_30), (4, .int x_29), (0, .ref g0), (1, .int x1), (2, .int x2), (3, .int x3)]) hx hb dX11_aboardOf_48 hl (k := 1) rfl ex_30 (by decide) rfl (fun ls hl => ?_)
            clear ex_30
            refine lv_goto (tgt := 6) hx hb dX11_aboardOf_51 (by decide) ?_
            exact ih (n - 1) (by omega) x_30 x_29 v_16 fa_17 _ _ ls (by omega) (by omega) (by omega) (by omega) (ab_s hq1_cut_2 (by omega) (by omega) (by show _ = _ + (if _ then _ else _); repeat (first | rw [if_pos (by omega)] | rw [if_neg (by omega)]); omega)) (by omega) hV_18 hA_19 R_25 hP hD hS (by omega) (lv_sub hl [0, 1, 2, 3, 4, 5] rfl)
          · have dc_28 := c_eq (a := r_15.toInt) (b := 1) rfl (by decide) c_28
            refine lv_iconst (v := 1) hx hb dX11_aboardOf_40 (by decide) ?_
            refine lv_goto (tgt := 45) hx hb dX11_aboardOf_41 (by decide) ?_
            refine lv_iadd hx hb dX11_aboardOf_45 ?_
            refine lv_topi (fun x_31 ex_31 => ?_)
            have hx_31 : x_31.toInt = y_4.toInt + 1 := (iv_to ex_31).trans (ad_i rfl (by decide) (by omega) (by omega))
            refine lv_istore (lv' := [(4, .int x_31), (5, .int y_3), (0, .ref g0), (1, .int x1), (2, .int x2), (3, .int x3)]) hx hb dX11_aboardOf_46 hl (by decide) rfl (fun ls hl => ?_)
            obtain ⟨x_32, ex_32⟩ : ∃ zq : Int32, y_3 + 1 = zq := ⟨_, rfl⟩
            have hx_32 : x_32.toInt = y_3.toInt + 1 := (iv_to ex_32).symm.trans (ad_i rfl (by decide) (by omega) (by omega))
            refine lv_iinc (v := x_32) (lv' := [(5, .int x_32), (4, .int x_31), (0, .ref g0), (1, .int x1), (2, .int x2), (3, .int x3)]) hx hb dX11_aboardOf_48 hl (k := 1) rfl ex_32 (by decide) rfl (fun ls hl => ?_)
            clear ex_32
            refine lv_goto (tgt := 6) hx hb dX11_aboardOf_51 (by decide) ?_
            exact ih (n - 1) (by omega) x_32 x_31 v_16 fa_17 _ _ ls (by omega) (by omega) (by omega) (by omega) (ab_s hq1_cut_2 (by omega) (by omega) (by show _ = _ + (if _ then _ else _); repeat (first | rw [if_pos (by omega)] | rw [if_neg (by omega)]); omega)) (by omega) hV_18 hA_19 R_25 hP hD hS (by omega) (lv_sub hl [0, 1, 2, 3, 4, 5] rfl)
  have kc_33 : (0 : Int32).toInt = 0 := by decide
  exact cut_2 61 0 0 v fa _ _ ls (by omega) (by decide) (by decide) (by decide) (by rw [show (0 : Int32).toNatClampNeg = 0 from by decide]; exact (by decide : (0 : Int32).toInt = 0)) (by have rc : (0 : Int32).toInt = 0 := (by decide); omega) gV gA scr.rf hP hD hS (by omega) (lv_sub hl [0, 1, 2, 3, 4, 5] rfl)
