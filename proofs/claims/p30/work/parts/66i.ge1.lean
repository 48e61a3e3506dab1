


theorem er_n {g : Int → Int} {lo n n1 t t1 : Int} (h : n = cDy g lo (t - lo).toNat) (hl : lo ≤ t) (hn : n1 = n + g t) (ht : t1 = t + 1) : n1 = cDy g lo (t1 - lo).toNat := by
  rw [ht, cD_s hl, hn, h]
theorem er_0 {g : Int → Int} {lo t : Int} (h : t = lo) : (0 : Int32).toInt = cDy g lo (t - lo).toNat := by
  rw [cD_0 (by omega)]
  decide
set_option maxHeartbeats 4000000 in
set_option maxRecDepth 100000 in
theorem c_X11_earnsOf_f (l : Launch) (dC : Nat → ClassId) (dI : Nat → Nat → Nat) (sz : Nat) (g0 : Nat) (pq : Nat → Nat) (cp : Nat → ClassId) (v : Nat → Int32) (fa : Nat → Nat → Int32) (gV : mV v) (gA : mA fa) (x1 : Int32) (hx1 : 0 ≤ x1.toInt ∧ x1.toInt ≤ 59) (x2 : Int32) (hx2 : 0 ≤ x2.toInt ∧ x2.toInt ≤ 3000) (x3 : Int32) (hWl : wlA v fa) : Met l yX11_earnsOf wsX11_earnsOf ({ frames := 23, cells := 0, slots := 0, locals := 533 }) (va_Pc [.ref g0, .int x1, .int x2, .int x3] (pcW (dC, dI) (mT cp) (mW g0 pq cp v fa) sz)) (va_Qi (fun (r : Int32) (u : (Nat → Int32) × (Nat → Nat → Int32)) => mV u.1 ∧ mA u.2 ∧ scr v fa u.1 u.2 ∧ (0 ≤ r.toInt ∧ r.toInt ≤ 3001) ∧ (r.toInt = erF v fa x1.toNatClampNeg x2.toInt x3.toInt)) (fun u t => va_P (dC, dI) vwCl (mW g0 pq cp u.1 u.2) t.heap ∧ va_K (dC, dI) vwCl (mT cp) t ∧ va_D (va_A (mW g0 pq cp v fa) sz) (mW g0 pq cp u.1 u.2)) (va_A (mW g0 pq cp v fa) sz)) 0 0 (va_A (mW g0 pq cp v fa) sz) := by
  refine Met.ofW (cc := cX11_earnsOf) (maxL := 7) (ret := (some .int)) (by decide) rfl ?_
  intro p e s m args below meth c s₁ B hml hv
  obtain ⟨rfl, hsz, hP, hK, hD0⟩ := hv
  have hx := B.exec
  have hb := B.bytes
  have hr := B.returns
  have hts := atoms_spec (ws := wsX11_earnsOf) B.pre
  have hown : s.vm.findClass RX11 = some m.cls := findClass_of_methodNamed B.named
  have hlocks := B.notSynchronized
  subst hsz
  have hD := hD0.self (sz := s.heap.size)
  generalize hAe : va_A (mW g0 pq cp v fa) s.heap.size = A at hD ⊢
  have hA : ∀ q : Nat, s.heap.size ≤ q → A q := fun q h => by rw [← hAe]; exact Or.inr h
  have hS : va_S A s.heap s.heap [] := va_S.rf
  have hP : va_P (dC, dI) vwCl (mW g0 pq cp v fa) s.heap := hP
  have hl := lv_entry ([.ref g0, .int x1, .int x2, .int x3]) (n := 7) (Nat.le_of_ble_eq_true rfl)
  rw [lg_entry_eq]
  generalize (lg_sl ([.ref g0, .int x1, .int x2, .int x3]) ++ List.replicate (7 - (lg_sl ([.ref g0, .int x1, .int x2, .int x3])).length) Slot.unset).toArray = ls at hl ⊢
  have hl : lv_has ls 7 [(0, .ref g0), (1, .int x1), (2, .int x2), (3, .int x3)] := hl
  refine lv_aload_n hx hb dX11_earnsOf_0 rfl (lv_at hl 0 rfl) ?_
  refine lv_iload_n hx hb dX11_earnsOf_1 rfl (lv_at hl 1 rfl) ?_
  refine lv_iload_n hx hb dX11_earnsOf_2 rfl (lv_at hl 2 rfl) ?_
  refine lv_iload_n hx hb dX11_earnsOf_3 rfl (lv_at hl 3 rfl) ?_
  have hFc := va_free (wc := (mW g0 pq cp v fa)) hD hS hA (List.range 48) rfl
  refine va_calli (va_runV (As := [.int x1, .int x2, .int x3]) (rest := []) ⟨hx, hb, hml, hown, hts⟩ (c_X11_stateOf_f l dC dI s.heap.size g0 pq cp v fa gV gA x1 (by omega) x2 (by omega) x3 hWl) (cwV 3 hts gX11_earnsOf_X11_stateOf rfl rfl rfl (by decide +kernel) ⟨(Nat.le_of_ble_eq_true rfl), (Nat.le_of_ble_eq_true rfl)⟩) (pr_V (r := (RX11, TX11, 63)) hP hK hD 0 11 rfl rfl) rfl rfl hl.1 rfl (lv_room (Nat.le_of_ble_eq_true rfl)) dX11_earnsOf_4 ⟨(Nat.le_of_ble_eq_true rfl), (Nat.le_of_ble_eq_true rfl)⟩) hS (fun q _ h => hFc q h) hFc (fun r_2 u t H locs ht hvm w_1 hB hz1 hk1 hS => ?_)
  obtain ⟨v_3, fa_4⟩ := u
  obtain ⟨hP1, hK1, hD1⟩ := hB
  rw [ht] at hP1
  have hP : va_P (dC, dI) vwCl (mW g0 pq cp v_3 fa_4) H := hP1
  have hD : va_D A (mW g0 pq cp v_3 fa_4) := hD1.weaken (fun _ _ _ h => hFc _ h)
  clear hP1 hK1 hD1 hk1 hz1 hvm ht hFc
  obtain ⟨hV_5, hA_6, hR_7, hb_8, hx_9⟩ := w_1
  dsimp only at hV_5 hA_6 hR_7 hb_8 hx_9
  have R_10 := scr.tr scr.rf hR_7
  have sc_11 := scr.tr scr.rf hR_7
  have q0_12 : fa_4 0 = fa 0 := (hR_7.2 0 rfl).trans rfl
  refine lv_iconst (v := 2) hx hb dX11_earnsOf_7 (by decide) ?_
  refine lv_icmp_ne (tgt := 26) hx hb dX11_earnsOf_8 (by decide) (fun c_13 => ?_) (fun c_13 => ?_)
  · have dc_13 := c_ne (a := r_2.toInt) (b := 2) rfl (by decide) c_13
    refine lv_iload_n hx hb dX11_earnsOf_26 rfl (lv_at hl 2 rfl) ?_
    refine lv_istore (lv' := [(4, .int x2), (0, .ref g0), (1, .int x1), (2, .int x2), (3, .int x3)]) hx hb dX11_earnsOf_27 hl (by decide) rfl (fun ls hl => ?_)
    refine lv_iconst (v := 0) hx hb dX11_earnsOf_29 (by decide) ?_
    refine lv_istore (lv' := [(5, .int 0), (4, .int x2), (0, .ref g0), (1, .int x1), (2, .int x2), (3, .int x3)]) hx hb dX11_earnsOf_30 hl (by decide) rfl (fun ls hl => ?_)
    refine lv_aload_n hx hb dX11_earnsOf_32 rfl (lv_at hl 2 rfl) ?_
    refine va_get (D := (dC, dI)) (ci := 11) (v := .ref (pq 25)) (C := RX11) (T := TX11) (N := 63) hx hb hts in_wsX11_earnsOf_X11 hown hK hP 0 rfl rfl 25 (by decide) (hts (.fieldLink RX11 85 "ShipOfficeModel" "signed" "[I") iw_X11_earnsOf_1) (fun _ h9 => h9) rfl dX11_earnsOf_33 ?_
    refine lv_iload_n hx hb dX11_earnsOf_36 rfl (lv_at hl 3 rfl) ?_
    refine va_iald hx hb hK hP 26 25 rfl rfl (vp_in_iff.mpr (by omega)) dX11_earnsOf_37 ?_
    refine lv_topi (fun x_14 ex_14 => ?_)
    have hx_14 : 0 ≤ x_14.toInt ∧ x_14.toInt ≤ 3000 := iv_of ex_14 (hA_6 25 _)
    have gx_14 : x_14.toInt = (fa_4 25 (x1 : Int32).toNatClampNeg).toInt := iv_to ex_14
    clear ex_14
    rw [show fa_4 25 = fa 25 from sc_11.2 25 rfl] at gx_14
    refine lv_istore (lv' := [(6, .int x_14), (5, .int 0), (4, .int x2), (0, .ref g0), (1, .int x1), (2, .int x2), (3, .int x3)]) hx hb dX11_earnsOf_38 hl (by decide) rfl (fun ls hl => ?_)
    have cut_15 : ∀ (n : Nat) (y_16 : Int32) (y_17 : Int32) (z_18 : Nat → Int32) (fz_19 : Nat → Nat → Int32) (H : Heap) (locs : List Loc) (ls : Array Slot), 3001 - y_16.toInt ≤ (n : Int) → (0 ≤ y_16.toInt ∧ y_16.toInt ≤ 3001) → (0 ≤ y_17.toInt ∧ y_17.toInt ≤ 3001) → ((fa 25 x1.toNatClampNeg).toInt ≤ y_16.toInt ∧ (y_16.toInt = (fa 25 x1.toNatClampNeg).toInt ∨ y_16.toInt ≤ x2.toInt + 1) ∧ y_17.toInt ≤ y_16.toInt) → y_17.toInt = cDy (erG v fa x1.toNatClampNeg x3.toInt) (fa 25 x1.toNatClampNeg).toInt (y_16.toInt - (fa 25 x1.toNatClampNeg).toInt).toNat → mV z_18 → mA fz_19 → scr v fa z_18 fz_19 → va_P (dC, dI) vwCl (mW g0 pq cp z_18 fz_19) H → va_D A (mW g0 pq cp z_18 fz_19) → va_S A s.heap H locs → lv_has ls 7 [(6, .int y_16), (5, .int y_17), (4, .int x2), (0, .ref g0), (1, .int x1), (2, .int x2), (3, .int x3)] → W p l e (headSpec wsX11_earnsOf { frames := 23, cells := 0, slots := 0, locals := 533 }).room s m #[Value.ref g0, Value.int x1, Value.int x2, Value.int x3] below meth c H locs 0 0 (MQ below (va_Qi (fun (r : Int32) (u : (Nat → Int32) × (Nat → Nat → Int32)) => mV u.1 ∧ mA u.2 ∧ scr v fa u.1 u.2 ∧ (0 ≤ r.toInt ∧ r.toInt ≤ 3001) ∧ (r.toInt = erF v fa x1.toNatClampNeg x2.toInt x3.toInt)) (fun u t => va_P (dC, dI) vwCl (mW g0 pq cp u.1 u.2) t.heap ∧ va_K (dC, dI) vwCl (mT cp) t ∧ va_D A (mW g0 pq cp u.1 u.2)) A) #[Value.ref g0, Value.int x1, Value.int x2, Value.int x3] s 0 0 A) (F0 m 40 ls []) := by
      intro n
      induction n using Nat.strongRecOn with
      | ind n ih =>
        intro y_16 y_17 z_18 fz_19 H locs ls hm hy_16 hy_17 hq0_cut_15 hq1_cut_15 hVz_18 hAz_18 hRz_18 hP hD hS hl
        refine lv_iload hx hb dX11_earnsOf_40 (lv_at hl 0 rfl) ?_
        refine lv_iload hx hb dX11_earnsOf_42 (lv_at hl 2 rfl) ?_
        refine lv_icmp_gt (tgt := 78) hx hb dX11_earnsOf_44 (by decide) (fun c_20 => ?_) (fun c_20 => ?_)
        · have dc_20 := c_lt (a := x2.toInt) (b := y_16.toInt) rfl rfl c_20
          refine lv_iload hx hb dX11_earnsOf_78 (lv_at hl 1 rfl) ?_
          exact W.iret (v := y_17) hx hb hr (fun t ht hW => ⟨⟨y_17, (z_18, fz_19), rfl, ⟨hVz_18, hAz_18, hRz_18, (by omega), (by unfold erF; repeat (first | rw [if_pos (by omega)] | rw [if_neg (by omega)]); rw [hq1_cut_15]; congr 1; omega)⟩, ⟨by rw [ht]; exact hP, va_K.moved hW.alike hK, hD⟩⟩, hS.F ht⟩) hS.2.2 dX11_earnsOf_80
        · have dc_20 := c_nlt (a := x2.toInt) (b := y_16.toInt) rfl rfl c_20
          refine lv_iload hx hb dX11_earnsOf_47 (lv_at hl 1 rfl) ?_
          refine lv_aload_n hx hb dX11_earnsOf_49 rfl (lv_at hl 3 rfl) ?_
          refine lv_iload_n hx hb dX11_earnsOf_50 rfl (lv_at hl 4 rfl) ?_
          refine lv_iload hx hb dX11_earnsOf_51 (lv_at hl 0 rfl) ?_
          refine lv_iload_n hx hb dX11_earnsOf_53 rfl (lv_at hl 6 rfl) ?_
          have hFc := va_free (wc := (mW g0 pq cp z_18 fz_19)) hD hS hA (List.range 48) rfl
          refine va_calli (va_runV (As := [.int x1, .int y_16, .int x3]) (rest := [.int y_17]) ⟨hx, hb, hml, hown, hts⟩ (c_X11_stateOf_f l dC dI H.size g0 pq cp z_18 fz_19 hVz_18 hAz_18 x1 (by omega) y_16 (by omega) x3 (wlA_fr hWl (hRz_18.1 42 rfl) (hRz_18.2 19 rfl) (hRz_18.2 16 rfl))) (cwV 3 hts gX11_earnsOf_X11_stateOf rfl rfl rfl (by decide +kernel) ⟨(Nat.le_of_ble_eq_true rfl), (Nat.le_of_ble_eq_true rfl)⟩) (pr_V (r := (RX11, TX11, 63)) hP hK hD 0 11 rfl rfl) rfl rfl hl.1 rfl (lv_room (Nat.le_of_ble_eq_true rfl)) dX11_earnsOf_54 ⟨(Nat.le_of_ble_eq_true rfl), (Nat.le_of_ble_eq_true rfl)⟩) hS (fun q _ h => hFc q h) hFc (fun r_22 u t H locs ht hvm w_21 hB hz1 hk1 hS => ?_)
          obtain ⟨v_23, fa_24⟩ := u
          obtain ⟨hP1, hK1, hD1⟩ := hB
          rw [ht] at hP1
          have hP : va_P (dC, dI) vwCl (mW g0 pq cp v_23 fa_24) H := hP1
          have hD : va_D A (mW g0 pq cp v_23 fa_24) := hD1.weaken (fun _ _ _ h => hFc _ h)
          clear hP1 hK1 hD1 hk1 hz1 hvm ht hFc
          obtain ⟨hV_25, hA_26, hR_27, hb_28, hx_29⟩ := w_21
          dsimp only at hV_25 hA_26 hR_27 hb_28 hx_29
          have R_30 := scr.tr hRz_18 hR_27
          have sc_31 := scr.tr hRz_18 hR_27
          have q0_32 : fa_24 0 = fa 0 := (hR_27.2 0 rfl).trans (hRz_18.2 0 rfl)
          rw [stF_s hWl hRz_18] at hx_29
          refine lv_iconst (v := 3) hx hb dX11_earnsOf_57 (by decide) ?_
          have hFc : ∀ q, va_A [] H.size q → A q := pu_free hS hA
          have hPc := hP.sub (ws' := []) [] rfl
          have hDc := hD.sub (ws' := []) [] (by decide) rfl
          have hKc := hK.sub (tys' := []) [] rfl
          refine va_calli (va_runS (As := [.int r_22, .int 3]) (rest := [.int y_17]) ⟨hx, hb, hml, hown, hts⟩ (c_X11_isIn l dC dI H.size r_22 3) (va_cwS 2 hts gX11_earnsOf_X11_isIn rfl rfl rfl (by decide +kernel) ⟨(Nat.le_of_ble_eq_true rfl), (Nat.le_of_ble_eq_true rfl)⟩) (pr_S hPc hKc hDc) rfl rfl hl.1 rfl (lv_room (Nat.le_of_ble_eq_true rfl)) dX11_earnsOf_58 ⟨(Nat.le_of_ble_eq_true rfl), (Nat.le_of_ble_eq_true rfl)⟩) hS (fun q _ h => hFc q h) hFc (fun r_34 u t H locs ht hvm w_33 hB hz1 hk1 hS => ?_)
          have hP := pu_keep hP hk1
          clear hk1 hz1 hvm hB ht hFc hPc hDc hKc
          have hbr_34 : 0 ≤ r_34.toInt ∧ r_34.toInt ≤ 1 := iv_of w_33 (isI_i _ _)
          refine lv_if_eq (tgt := 68) hx hb dX11_earnsOf_61 (by decide) (fun c_35 => ?_) (fun c_35 => ?_)
          · have dc_35 := c_eq (a := r_34.toInt) (b := 0) rfl (by decide) c_35
            have hz_36 := isI_0 (w_33.symm.trans c_35)
            have kc_37 : (3 : Int32).toInt = 3 := by decide
            refine lv_iconst (v := 0) hx hb dX11_earnsOf_68 (by decide) ?_
            refine lv_iadd hx hb dX11_earnsOf_69 ?_
            refine lv_topi (fun x_38 ex_38 => ?_)
            have hx_38 : x_38.toInt = y_17.toInt + 0 := (iv_to ex_38).trans (ad_i rfl (by decide) (by omega) (by omega))
            refine lv_istore (lv' := [(5, .int x_38), (6, .int y_16), (4, .int x2), (0, .ref g0), (1, .int x1), (2, .int x2), (3, .int x3)]) hx hb dX11_earnsOf_70 hl (by decide) rfl (fun ls hl => ?_)
            obtain ⟨x_39, ex_39⟩ : ∃ zq : Int32, y_16 + 1 = zq := ⟨_, rfl⟩
            have hx_39 : x_39.toInt = y_16.toInt + 1 := (iv_to ex_39).symm.trans (ad_i rfl (by decide) (by omega) (by omega))
            refine lv_iinc (v := x_39) (lv' := [(6, .int x_39), (5, .int x_38), (4, .int x2), (0, .ref g0), (1, .int x1), (2, .int x2), (3, .int x3)]) hx hb dX11_earnsOf_72 hl (k := 1) rfl ex_39 (by decide) rfl (fun ls hl => ?_)
            clear ex_39
            refine lv_goto (tgt := 40) hx hb dX11_earnsOf_75 (by decide) ?_
            exact ih (n - 1) (by omega) x_39 x_38 v_23 fa_24 _ _ ls (by omega) (by omega) (by omega) (by omega) (er_n hq1_cut_15 (by omega) (by unfold erG; repeat (first | rw [if_pos (by omega)] | rw [if_neg (by omega)]); omega) (by omega)) hV_25 hA_26 R_30 hP hD hS (lv_sub hl [0, 1, 2, 3, 4, 5, 6] rfl)
          · have dc_35 := c_ne (a := r_34.toInt) (b := 0) rfl (by decide) c_35
            have hi_40 := isI_t w_33 (fun q => c_35 (Int32.toInt_inj.mp q))
            have khi_40 : (3 : Int32).toInt = 3 := by decide
            refine lv_iconst (v := 1) hx hb dX11_earnsOf_64 (by decide) ?_
            refine lv_goto (tgt := 69) hx hb dX11_earnsOf_65 (by decide) ?_
            refine lv_iadd hx hb dX11_earnsOf_69 ?_
            refine lv_topi (fun x_41 ex_41 => ?_)
            have hx_41 : x_41.toInt = y_17.toInt + 1 := (iv_to ex_41).trans (ad_i rfl (by decide) (by omega) (by omega))
            refine lv_istore (lv' := [(5, .int x_41), (6, .int y_16), (4, .int x2), (0, .ref g0), (1, .int x1), (2, .int x2), (3, .int x3)]) hx hb dX11_earnsOf_70 hl (by decide) rfl (fun ls hl => ?_)
            obtain ⟨x_42, ex_42⟩ : ∃ zq : Int32, y_16 + 1 = zq := ⟨_, rfl⟩
            have hx_42 : x_42.toInt = y_16.toInt + 1 := (iv_to ex_42).symm.trans (ad_i rfl (by decide) (by omega) (by omega))
            refine lv_iinc (v := x_42) (lv' := [(6, .int x_42), (5, .int x_41), (4, .int x2), (0, .ref g0), (1, .int x1), (2, .int x2), (3, .int x3)]) hx hb dX11_earnsOf_72 hl (k := 1) rfl ex_42 (by decide) rfl (fun ls hl => ?_)
            clear ex_42
            refine lv_goto (tgt := 40) hx hb dX11_earnsOf_75 (by decide) ?_
            exact ih (n - 1) (by omega) x_42 x_41 v_23 fa_24 _ _ ls (by omega) (by omega) (by omega) (by omega) (er_n hq1_cut_15 (by omega) (by unfold erG; repeat (first | rw [if_pos (by omega)] | rw [if_neg (by omega)]); omega) (by omega)) hV_25 hA_26 R_30 hP hD hS (lv_sub hl [0, 1, 2, 3, 4, 5, 6] rfl)
    have kc_43 : (0 : Int32).toInt = 0 := by decide
    exact cut_15 3002 x_14 0 v_3 fa_4 _ _ ls (by omega) (by omega) (by decide) (by have rc : (0 : Int32).toInt = 0 := (by decide); omega) (er_0 (by omega)) hV_5 hA_6 R_10 hP hD hS (lv_sub hl [0, 1, 2, 3, 4, 5, 6] rfl)
  · have dc_13 := c_eq (a := r_2.toInt) (b := 2) rfl (by decide) c_13
    refine lv_aload_n hx hb dX11_earnsOf_11 rfl (lv_at hl 0 rfl) ?_
    refine lv_aload_n hx hb dX11_earnsOf_12 rfl (lv_at hl 0 rfl) ?_
    refine va_get (D := (dC, dI)) (ci := 11) (v := .ref (pq 21)) (C := RX11) (T := TX11) (N := 63) hx hb hts in_wsX11_earnsOf_X11 hown hK hP 0 rfl rfl 21 (by decide) (hts (.fieldLink RX11 73 "ShipOfficeModel" "voyage" "[I") iw_X11_earnsOf_2) (fun _ h9 => h9) rfl dX11_earnsOf_13 ?_
    refine lv_iload_n hx hb dX11_earnsOf_16 rfl (lv_at hl 1 rfl) ?_
    refine va_iald hx hb hK hP 22 21 rfl rfl (vp_in_iff.mpr (by omega)) dX11_earnsOf_17 ?_
    refine lv_topi (fun x_44 ex_44 => ?_)
    have hx_44 : 0 ≤ x_44.toInt ∧ x_44.toInt ≤ 19 := iv_of ex_44 (hA_6 21 _)
    have gx_44 : x_44.toInt = (fa_4 21 (x1 : Int32).toNatClampNeg).toInt := iv_to ex_44
    clear ex_44
    rw [show fa_4 21 = fa 21 from sc_11.2 21 rfl] at gx_44
    refine lv_iload_n hx hb dX11_earnsOf_18 rfl (lv_at hl 2 rfl) ?_
    refine lv_iload_n hx hb dX11_earnsOf_19 rfl (lv_at hl 3 rfl) ?_
    have hFc : ∀ q, va_A [] H.size q → A q := pu_free hS hA
    refine va_calli (va_runV (As := [.int x_44, .int x2, .int x3]) (rest := []) ⟨hx, hb, hml, hown, hts⟩ (c_X11_lastHeard_f l dC dI H.size g0 pq cp v_3 fa_4 hV_5 hA_6 x_44 x2 x3) (cwV 3 hts gX11_earnsOf_X11_lastHeard rfl rfl rfl (by decide +kernel) ⟨(Nat.le_of_ble_eq_true rfl), (Nat.le_of_ble_eq_true rfl)⟩) (pr_V (r := (RX11, TX11, 63)) hP hK hD 0 11 rfl rfl) rfl rfl hl.1 rfl (lv_room (Nat.le_of_ble_eq_true rfl)) dX11_earnsOf_20 ⟨(Nat.le_of_ble_eq_true rfl), (Nat.le_of_ble_eq_true rfl)⟩) hS (fun q _ h => hFc q h) hFc (fun r_46 u t H locs ht hvm w_45 hB hz1 hk1 hS => ?_)
    have hP := pu_keep hP hk1
    clear hk1 hz1 hvm hB ht hFc
    obtain ⟨hb_47, hx_48⟩ := w_45
    try rw [gx_44] at hx_48
    rw [lhO_s sc_11] at hx_48
    refine lv_goto (tgt := 27) hx hb dX11_earnsOf_23 (by decide) ?_
    refine lv_istore (lv' := [(4, .int r_46), (0, .ref g0), (1, .int x1), (2, .int x2), (3, .int x3)]) hx hb dX11_earnsOf_27 hl (by decide) rfl (fun ls hl => ?_)
    refine lv_iconst (v := 0) hx hb dX11_earnsOf_29 (by decide) ?_
    refine lv_istore (lv' := [(5, .int 0), (4, .int r_46), (0, .ref g0), (1, .int x1), (2, .int x2), (3, .int x3)]) hx hb dX11_earnsOf_30 hl (by decide) rfl (fun ls hl => ?_)
    refine lv_aload_n hx hb dX11_earnsOf_32 rfl (lv_at hl 2 rfl) ?_
    refine va_get (D := (dC, dI)) (ci := 11) (v := .ref (pq 25)) (C := RX11) (T := TX11) (N := 63) hx hb hts in_wsX11_earnsOf_X11 hown hK hP 0 rfl rfl 25 (by decide) (hts (.fieldLink RX11 85 "ShipOfficeModel" "signed" "[I") iw_X11_earnsOf_1) (fun _ h9 => h9) rfl dX11_earnsOf_33 ?_
    refine lv_iload_n hx hb dX11_earnsOf_36 rfl (lv_at hl 3 rfl) ?_
    refine va_iald hx hb hK hP 26 25 rfl rfl (vp_in_iff.mpr (by omega)) dX11_earnsOf_37 ?_
    refine lv_topi (fun x_49 ex_49 => ?_)
    have hx_49 : 0 ≤ x_49.toInt ∧ x_49.toInt ≤ 3000 := iv_of ex_49 (hA_6 25 _)
    have gx_49 : x_49.toInt = (fa_4 25 (x1 : Int32).toNatClampNeg).toInt := iv_to ex_49
    clear ex_49
    rw [show fa_4 25 = fa 25 from sc_11.2 25 rfl] at gx_49
    refine lv_istore (lv' := [(6, .int x_49), (5, .int 0), (4, .int r_46), (0, .ref g0), (1, .int x1), (2, .int x2), (3, .int x3)]) hx hb dX11_earnsOf_38 hl (by decide) rfl (fun ls hl => ?_)
    have cut_50 : ∀ (n : Nat) (y_51 : Int32) (y_52 : Int32) (z_53 : Nat → Int32) (fz_54 : Nat → Nat → Int32) (H : Heap) (locs : List Loc) (ls : Array Slot), 3001 - y_51.toInt ≤ (n : Int) → (0 ≤ y_51.toInt ∧ y_51.toInt ≤ 3001) → (0 ≤ y_52.toInt ∧ y_52.toInt ≤ 3001) → ((fa 25 x1.toNatClampNeg).toInt ≤ y_51.toInt ∧ (y_51.toInt = (fa 25 x1.toNatClampNeg).toInt ∨ y_51.toInt ≤ r_46.toInt + 1) ∧ y_52.toInt ≤ y_51.toInt) → y_52.toInt = cDy (erG v fa x1.toNatClampNeg x3.toInt) (fa 25 x1.toNatClampNeg).toInt (y_51.toInt - (fa 25 x1.toNatClampNeg).toInt).toNat → mV z_53 → mA fz_54 → scr v fa z_53 fz_54 → va_P (dC, dI) vwCl (mW g0 pq cp z_53 fz_54) H → va_D A (mW g0 pq cp z_53 fz_54) → va_S A s.heap H locs → lv_has ls 7 [(6, .int y_51), (5, .int y_52), (4, .int r_46), (0, .ref g0), (1, .int x1), (2, .int x2), (3, .int x3)] → W p l e (headSpec wsX11_earnsOf { frames := 23, cells := 0, slots := 0, locals := 533 }).room s m #[Value.ref g0, Value.int x1, Value.int x2, Value.int x3] below meth c H locs 0 0 (MQ below (va_Qi (fun (r : Int32) (u : (Nat → Int32) × (Nat → Nat → Int32)) => mV u.1 ∧ mA u.2 ∧ scr v fa u.1 u.2 ∧ (0 ≤ r.toInt ∧ r.toInt ≤ 3001) ∧ (r.toInt = erF v fa x1.toNatClampNeg x2.toInt x3.toInt)) (fun u t => va_P (dC, dI) vwCl (mW g0 pq cp u.1 u.2) t.heap ∧ va_K (dC, dI) vwCl (mT cp) t ∧ va_D A (mW g0 pq cp u.1 u.2)) A) #[Value.ref g0, Value.int x1, Value.int x2, Value.int x3] s 0 0 A) (F0 m 40 ls []) := by
      intro n
      induction n using Nat.strongRecOn with
      | ind n ih =>
        intro y_51 y_52 z_53 fz_54 H locs ls hm hy_51 hy_52 hq0_cut_50 hq1_cut_50 hVz_53 hAz_53 hRz_53 hP hD hS hl
        refine lv_iload hx hb dX11_earnsOf_40 (lv_at hl 0 rfl) ?_
        refine lv_iload hx hb dX11_earnsOf_42 (lv_at hl 2 rfl) ?_
        refine lv_icmp_gt (tgt := 78) hx hb dX11_earnsOf_44 (by decide) (fun c_55 => ?_) (fun c_55 => ?_)
        · have dc_55 := c_lt (a := r_46.toInt) (b := y_51.toInt) rfl rfl c_55
          refine lv_iload hx hb dX11_earnsOf_78 (lv_at hl 1 rfl) ?_
          exact W.iret (v := y_52) hx hb hr (fun t ht hW => ⟨⟨y_52, (z_53, fz_54), rfl, ⟨hVz_53, hAz_53, hRz_53, (by omega), (by unfold erF; repeat (first | rw [if_pos (by omega)] | rw [if_neg (by omega)]); rw [hq1_cut_50]; congr 1; omega)⟩, ⟨by rw [ht]; exact hP, va_K.moved hW.alike hK, hD⟩⟩, hS.F ht⟩) hS.2.2 dX11_earnsOf_80
        · have dc_55 := c_nlt (a := r_46.toInt) (b := y_51.toInt) rfl rfl c_55
          refine lv_iload hx hb dX11_earnsOf_47 (lv_at hl 1 rfl) ?_
          refine lv_aload_n hx hb dX11_earnsOf_49 rfl (lv_at hl 3 rfl) ?_
          refine lv_iload_n hx hb dX11_earnsOf_50 rfl (lv_at hl 4 rfl) ?_
          refine lv_iload hx hb dX11_earnsOf_51 (lv_at hl 0 rfl) ?_
          refine lv_iload_n hx hb dX11_earnsOf_53 rfl (lv_at hl 6 rfl) ?_
          have hFc := va_free (wc := (mW g0 pq cp z_53 fz_54)) hD hS hA (List.range 48) rfl
          refine va_calli (va_runV (As := [.int x1, .int y_51, .int x3]) (rest := [.int y_52]) ⟨hx, hb, hml, hown, hts⟩ (c_X11_stateOf_f l dC dI H.size g0 pq cp z_53 fz_54 hVz_53 hAz_53 x1 (by omega) y_51 (by omega) x3 (wlA_fr hWl (hRz_53.1 42 rfl) (hRz_53.2 19 rfl) (hRz_53.2 16 rfl))) (cwV 3 hts gX11_earnsOf_X11_stateOf rfl rfl rfl (by decide +kernel) ⟨(Nat.le_of_ble_eq_true rfl), (Nat.le_of_ble_eq_true rfl)⟩) (pr_V (r := (RX11, TX11, 63)) hP hK hD 0 11 rfl rfl) rfl rfl hl.1 rfl (lv_room (Nat.le_of_ble_eq_true rfl)) dX11_earnsOf_54 ⟨(Nat.le_of_ble_eq_true rfl), (Nat.le_of_ble_eq_true rfl)⟩) hS (fun q _ h => hFc q h) hFc (fun r_57 u t H locs ht hvm w_56 hB hz1 hk1 hS => ?_)
          obtain ⟨v_58, fa_59⟩ := u
          obtain ⟨hP1, hK1, hD1⟩ := hB
          rw [ht] at hP1
          have hP : va_P (dC, dI) vwCl (mW g0 pq cp v_58 fa_59) H := hP1
          have hD : va_D A (mW g0 pq cp v_58 fa_59) := hD1.weaken (fun _ _ _ h => hFc _ h)
          clear hP1 hK1 hD1 hk1 hz1 hvm ht hFc
          obtain ⟨hV_60, hA_61, hR_62, hb_63, hx_64⟩ := w_56
          dsimp only at hV_60 hA_61 hR_62 hb_63 hx_64
          have R_65 := scr.tr hRz_53 hR_62
          have sc_66 := scr.tr hRz_53 hR_62
          have q0_67 : fa_59 0 = fa 0 := (hR_62.2 0 rfl).trans (hRz_53.2 0 rfl)
          rw [stF_s hWl hRz_53] at hx_64
          refine lv_iconst (v := 3) hx hb dX11_earnsOf_57 (by decide) ?_
          have hFc : ∀ q, va_A [] H.size q → A q := pu_free hS hA
          have hPc := hP.sub (ws' := []) [] rfl
          have hDc := hD.sub (ws' := []) [] (by decide) rfl
          have hKc := hK.sub (tys' := []) [] rfl
          refine va_calli (va_runS (As := [.int r_57, .int 3]) (rest := [.int y_52]) ⟨hx, hb, hml, hown, hts⟩ (c_X11_isIn l dC dI H.size r_57 3) (va_cwS 2 hts gX11_earnsOf_X11_isIn rfl rfl rfl (by decide +kernel) ⟨(Nat.le_of_ble_eq_true rfl), (Nat.le_of_ble_eq_true rfl)⟩) (pr_S hPc hKc hDc) rfl rfl hl.1 rfl (lv_room (Nat.le_of_ble_eq_true rfl)) dX11_earnsOf_58 ⟨(Nat.le_of_ble_eq_true rfl), (Nat.le_of_ble_eq_true rfl)⟩) hS (fun q _ h => hFc q h) hFc (fun r_69 u t H locs ht hvm w_68 hB hz1 hk1 hS => ?_)
          have hP := pu_keep hP hk1
          clear hk1 hz1 hvm hB ht hFc hPc hDc hKc
          have hbr_69 : 0 ≤ r_69.toInt ∧ r_69.toInt ≤ 1 := iv_of w_68 (isI_i _ _)
          refine lv_if_eq (tgt := 68) hx hb dX11_earnsOf_61 (by decide) (fun c_70 => ?_) (fun c_70 => ?_)
          · have dc_70 := c_eq (a := r_69.toInt) (b := 0) rfl (by decide) c_70
            have hz_71 := isI_0 (w_68.symm.trans c_70)
            have kc_72 : (3 : Int32).toInt = 3 := by decide
            refine lv_iconst (v := 0) hx hb dX11_earnsOf_68 (by decide) ?_
            refine lv_iadd hx hb dX11_earnsOf_69 ?_
            refine lv_topi (fun x_73 ex_73 => ?_)
            have hx_73 : x_73.toInt = y_52.toInt + 0 := (iv_to ex_73).trans (ad_i rfl (by decide) (by omega) (by omega))
            refine lv_istore (lv' := [(5, .int x_73), (6, .int y_51), (4, .int r_46), (0, .ref g0), (1, .int x1), (2, .int x2), (3, .int x3)]) hx hb dX11_earnsOf_70 hl (by decide) rfl (fun ls hl => ?_)
            obtain ⟨x_74, ex_74⟩ : ∃ zq : Int32, y_51 + 1 = zq := ⟨_, rfl⟩
            have hx_74 : x_74.toInt = y_51.toInt + 1 := (iv_to ex_74).symm.trans (ad_i rfl (by decide) (by omega) (by omega))
            refine lv_iinc (v := x_74) (lv' := [(6, .int x_74), (5, .int x_73), (4, .int r_46), (0, .ref g0), (1, .int x1), (2, .int x2), (3, .int x3)]) hx hb dX11_earnsOf_72 hl (k := 1) rfl ex_74 (by decide) rfl (fun ls hl => ?_)
            clear ex_74
            refine lv_goto (tgt := 40) hx hb dX11_earnsOf_75 (by decide) ?_
            exact ih (n - 1) (by omega) x_74 x_73 v_58 fa_59 _ _ ls (by omega) (by omega) (by omega) (by omega) (er_n hq1_cut_50 (by omega) (by unfold erG; repeat (first | rw [if_pos (by omega)] | rw [if_neg (by omega)]); omega) (by omega)) hV_60 hA_61 R_65 hP hD hS (lv_sub hl [0, 1, 2, 3, 4, 5, 6] rfl)
          · have dc_70 := c_ne (a := r_69.toInt) (b := 0) rfl (by decide) c_70
            have hi_75 := isI_t w_68 (fun q => c_70 (Int32.toInt_inj.mp q))
            have khi_75 : (3 : Int32).toInt = 3 := by decide
            refine lv_iconst (v := 1) hx hb dX11_earnsOf_64 (by decide) ?_
            refine lv_goto (tgt := 69) hx hb dX11_earnsOf_65 (by decide) ?_
            refine lv_iadd hx hb dX11_earnsOf_69 ?_
            refine lv_topi (fun x_76 ex_76 => ?_)
            have hx_76 : x_76.toInt = y_52.toInt + 1 := (iv_to ex_76).trans (ad_i rfl (by decide) (by omega) (by omega))
            refine lv_istore (lv' := [(5, .int x_76), (6, .int y_51), (4, .int r_46), (0, .ref g0), (1, .int x1), (2, .int x2), (3, .int x3)]) hx hb dX11_earnsOf_70 hl (by decide) rfl (fun ls hl => ?_)
            obtain ⟨x_77, ex_77⟩ : ∃ zq : Int32, y_51 + 1 = zq := ⟨_, rfl⟩
            have hx_77 : x_77.toInt = y_51.toInt + 1 := (iv_to ex_77).symm.trans (ad_i rfl (by decide) (by omega) (by omega))
            refine lv_iinc (v := x_77) (lv' := [(6, .int x_77), (5, .int x_76), (4, .int r_46), (0, .ref g0), (1, .int x1), (2, .int x2), (3, .int x3)]) hx hb dX11_earnsOf_72 hl (k := 1) rfl ex_77 (by decide) rfl (fun ls hl => ?_)
            clear ex_77
            refine lv_goto (tgt := 40) hx hb dX11_earnsOf_75 (by decide) ?_
            exact ih (n - 1) (by omega) x_77 x_76 v_58 fa_59 _ _ ls (by omega) (by omega) (by omega) (by omega) (er_n hq1_cut_50 (by omega) (by unfold erG; repeat (first | rw [if_pos (by omega)] | rw [if_neg (by omega)]); omega) (by omega)) hV_60 hA_61 R_65 hP hD hS (lv_sub hl [0, 1, 2, 3, 4, 5, 6] rfl)
    have kc_78 : (0 : Int32).toInt = 0 := by decide
    exact cut_50 3002 x_49 0 v_3 fa_4 _ _ ls (by omega) (by omega) (by decide) (by have rc : (0 : Int32).toInt = 0 := (by decide); omega) (er_0 (by omega)) hV_5 hA_6 R_10 hP hD hS (lv_sub hl [0, 1, 2, 3, 4, 5, 6] rfl)
theorem erF_s {v z : Nat → Int32} {fa fz : Nat → Nat → Int32} {a : Nat} {j k : Int} (hW : wlA v fa) (h : scr v fa z fz) : erF z fz a j k = erF v fa a j k := by
  unfold erF
  rw [stF_s hW h, lhO_s h, scr_S h 25 (by decide), scr_S h 21 (by decide), show erG z fz a k = erG v fa a k from funext fun t => erG_s hW h]
set_option maxHeartbeats 4000000 in
set_option maxRecDepth 100000 in
theorem c_X11_earns_f (l : Launch) (dC : Nat → ClassId) (dI : Nat → Nat → Nat) (sz : Nat) (g0 : Nat) (pq : Nat → Nat) (cp : Nat → ClassId) (v : Nat → Int32) (fa : Nat → Nat → Int32) (gV : mV v) (gA : mA fa) (x1 : Int32) (x2 : Int32) (x3 : Int32) (hWl : wlA v fa) : Met l yX11_earns wsX11_earns ({ frames := 24, cells := 0, slots := 0, locals := 559 }) (va_Pc [.ref g0, .int x1, .int x2, .int x3] (pcW (dC, dI) (mT cp) (mW g0 pq cp v fa) sz)) (va_Qi (fun (r : Int32) (u : (Nat → Int32) × (Nat → Nat → Int32)) => mV u.1 ∧ mA u.2 ∧ mX [0, 45, 47, 48, 49, 50, 51, 52, 53, 54, 55, 56, 57, 58, 59, 60] v fa u.1 u.2 ∧ (aSt (v 43).toInt (v 38).toInt x1.toInt x2.toInt x3.toInt (erF v fa x1.toNatClampNeg x2.toInt x3.toInt) r.toInt ∧ rQr v fa u r (bSt (v 43).toInt (v 38).toInt x1.toInt x2.toInt x3.toInt))) (fun u t => va_P (dC, dI) vwCl (mW g0 pq cp u.1 u.2) t.heap ∧ va_K (dC, dI) vwCl (mT cp) t ∧ va_D (va_A (mW g0 pq cp v fa) sz) (mW g0 pq cp u.1 u.2)) (va_A (mW g0 pq cp v fa) sz)) 0 0 (va_A (mW g0 pq cp v fa) sz) := by
  refine Met.ofW (cc := cX11_earns) (maxL := 5) (ret := (some .int)) (by decide) rfl ?_
  intro p e s m args below meth c s₁ B hml hv
  obtain ⟨rfl, hsz, hP, hK, hD0⟩ := hv
  have hx := B.exec
  have hb := B.bytes
  have hr := B.returns
  have hts := atoms_spec (ws := wsX11_earns) B.pre
  have hown : s.vm.findClass RX11 = some m.cls := findClass_of_methodNamed B.named
  have hlocks := B.notSynchronized
  subst hsz
  have hD := hD0.self (sz := s.heap.size)
  generalize hAe : va_A (mW g0 pq cp v fa) s.heap.size = A at hD ⊢
  have hA : ∀ q : Nat, s.heap.size ≤ q → A q := fun q h => by rw [← hAe]; exact Or.inr h
  have hS : va_S A s.heap s.heap [] := va_S.rf
  have hP : va_P (dC, dI) vwCl (mW g0 pq cp v fa) s.heap := hP
  have hl := lv_entry ([.ref g0, .int x1, .int x2, .int x3]) (n := 5) (Nat.le_of_ble_eq_true rfl)
  rw [lg_entry_eq]
  generalize (lg_sl ([.ref g0, .int x1, .int x2, .int x3]) ++ List.replicate (5 - (lg_sl ([.ref g0, .int x1, .int x2, .int x3])).length) Slot.unset).toArray = ls at hl ⊢
  have hl : lv_has ls 5 [(0, .ref g0), (1, .int x1), (2, .int x2), (3, .int x3)] := hl
  have iv_1 : 0 ≤ (v 38).toInt ∧ (v 38).toInt ≤ 3000 := gV 38
  have iv_2 : 0 ≤ (v 43).toInt ∧ (v 43).toInt ≤ 60 := gV 43
  refine lv_aload_n hx hb dX11_earns_0 rfl (lv_at hl 0 rfl) ?_
  refine lv_iload_n hx hb dX11_earns_1 rfl (lv_at hl 1 rfl) ?_
  have hFc : ∀ q, va_A [] s.heap.size q → A q := pu_free hS hA
  refine va_calli (va_runV (As := [.int x1]) (rest := []) ⟨hx, hb, hml, hown, hts⟩ (c_X11_isAgreement l dC dI s.heap.size g0 pq cp v fa x1) (cwV 1 hts gX11_earns_X11_isAgreement rfl rfl rfl (by decide +kernel) ⟨(Nat.le_of_ble_eq_true rfl), (Nat.le_of_ble_eq_true rfl)⟩) (pr_V (r := (RX11, TX11, 63)) hP hK hD 0 11 rfl rfl) rfl rfl hl.1 rfl (lv_room (Nat.le_of_ble_eq_true rfl)) dX11_earns_2 ⟨(Nat.le_of_ble_eq_true rfl), (Nat.le_of_ble_eq_true rfl)⟩) hS (fun q _ h => hFc q h) hFc (fun r_4 u t H locs ht hvm w_3 hB hz1 hk1 hS => ?_)
  have hP := pu_keep hP hk1
  clear hk1 hz1 hvm hB ht hFc
  have hbr_4 : 0 ≤ r_4.toInt ∧ r_4.toInt ≤ 1 := iv_of w_3 (isI_i _ _)
  refine lv_if_eq (tgt := 17) hx hb dX11_earns_5 (by decide) (fun c_5 => ?_) (fun c_5 => ?_)
  · have dc_5 := c_eq (a := r_4.toInt) (b := 0) rfl (by decide) c_5
    have hz_6 := isI_0 (w_3.symm.trans c_5)
    refine lv_iconst (v := (-1)) hx hb dX11_earns_17 (by decide) ?_
    refine lv_istore (lv' := [(4, .int (-1)), (0, .ref g0), (1, .int x1), (2, .int x2), (3, .int x3)]) hx hb dX11_earns_18 hl (by decide) rfl (fun ls hl => ?_)
    refine lv_iload hx hb dX11_earns_20 (lv_at hl 0 rfl) ?_
    refine lv_if_eq (tgt := 34) hx hb dX11_earns_22 (by decide) (fun c_7 => absurd c_7 (by decide)) (fun _ => ?_)
    refine lv_aload_n hx hb dX11_earns_25 rfl (lv_at hl 1 rfl) ?_
    refine lv_iload hx hb dX11_earns_26 (lv_at hl 0 rfl) ?_
    have hFc := va_free (wc := (mW g0 pq cp v fa)) hD hS hA (List.range 48) rfl
    refine va_calli (va_runV (As := [.int (-1)]) (rest := []) ⟨hx, hb, hml, hown, hts⟩ (c_X11_refuse_f l dC dI H.size g0 pq cp v fa (-1) (by unfold vp_in; decide)) (cwV 1 hts gX11_earns_X11_refuse rfl rfl rfl (by decide +kernel) ⟨(Nat.le_of_ble_eq_true rfl), (Nat.le_of_ble_eq_true rfl)⟩) (pr_V (r := (RX11, TX11, 63)) hP hK hD 0 11 rfl rfl) rfl rfl hl.1 rfl (lv_room (Nat.le_of_ble_eq_true rfl)) dX11_earns_28 ⟨(Nat.le_of_ble_eq_true rfl), (Nat.le_of_ble_eq_true rfl)⟩) hS (fun q _ h => hFc q h) hFc (fun r_9 u t H locs ht hvm w_8 hB hz1 hk1 hS => ?_)
    obtain ⟨v_10, fa_11⟩ := u
    obtain ⟨hP1, hK1, hD1⟩ := hB
    rw [ht] at hP1
    have hP : va_P (dC, dI) vwCl (mW g0 pq cp v_10 fa_11) H := hP1
    have hD : va_D A (mW g0 pq cp v_10 fa_11) := hD1.weaken (fun _ _ _ h => hFc _ h)
    clear hP1 hK1 hD1 hk1 hz1 hvm ht hFc
    obtain ⟨rfl, hs1_12⟩ := w_8
    have hVv_10 : mV v_10 := sm0_V (sm1_0 hs1_12) gV
    have hAv_10 : mA fa_11 := sm0_A (sm1_0 hs1_12) gA
    have g_13 : (v_10 38).toInt = (v 38).toInt := congrArg Int32.toInt (congrFun hs1_12.1 38)
    have g_14 : (v_10 43).toInt = (v 43).toInt := congrArg Int32.toInt (congrFun hs1_12.1 43)
    have hRv_10 : mX [0, 45, 47, 48, 49, 50, 51, 52, 53, 54, 55, 56, 57, 58, 59, 60] v fa v_10 fa_11 := mX.st mX.rf (mX.s0 (sm1_0 hs1_12)) (by decide)
    refine lv_goto (tgt := 41) hx hb dX11_earns_31 (by decide) ?_
    exact W.iret (v := (-1)) hx hb hr (fun t ht hW => ⟨⟨(-1), (v_10, fa_11), rfl, ⟨hVv_10, hAv_10, hRv_10, ⟨by have rc : ((-1) : Int32).toInt = -1 := (by decide); unfold aSt; omega, Or.inl ⟨by unfold bSt; omega, hs1_12⟩⟩⟩, ⟨by rw [ht]; exact hP, va_K.moved hW.alike hK, hD⟩⟩, hS.F ht⟩) hS.2.2 dX11_earns_41
  · have dc_5 := c_ne (a := r_4.toInt) (b := 0) rfl (by decide) c_5
    have hi_15 := isI_t w_3 (fun q => c_5 (Int32.toInt_inj.mp q))
    have khi_15 : (v 43).toInt ≤ 60 := (gV 43).2
    refine lv_aload_n hx hb dX11_earns_8 rfl (lv_at hl 0 rfl) ?_
    refine lv_iload_n hx hb dX11_earns_9 rfl (lv_at hl 2 rfl) ?_
    refine lv_iload_n hx hb dX11_earns_10 rfl (lv_at hl 3 rfl) ?_
    have hFc : ∀ q, va_A [] H.size q → A q := pu_free hS hA
    refine va_calli (va_runV (As := [.int x2, .int x3]) (rest := []) ⟨hx, hb, hml, hown, hts⟩ (c_X11_wrongTimes_f l dC dI H.size g0 pq cp v fa gV gA x2 x3) (cwV 2 hts gX11_earns_X11_wrongTimes rfl rfl rfl (by decide +kernel) ⟨(Nat.le_of_ble_eq_true rfl), (Nat.le_of_ble_eq_true rfl)⟩) (pr_V (r := (RX11, TX11, 63)) hP hK hD 0 11 rfl rfl) rfl rfl hl.1 rfl (lv_room (Nat.le_of_ble_eq_true rfl)) dX11_earns_11 ⟨(Nat.le_of_ble_eq_true rfl), (Nat.le_of_ble_eq_true rfl)⟩) hS (fun q _ h => hFc q h) hFc (fun r_17 u t H locs ht hvm w_16 hB hz1 hk1 hS => ?_)
    have hP := pu_keep hP hk1
    clear hk1 hz1 hvm hB ht hFc
    obtain ⟨hb_18, hx_19⟩ := w_16
    refine lv_goto (tgt := 18) hx hb dX11_earns_14 (by decide) ?_
    refine lv_istore (lv' := [(4, .int r_17), (0, .ref g0), (1, .int x1), (2, .int x2), (3, .int x3)]) hx hb dX11_earns_18 hl (by decide) rfl (fun ls hl => ?_)
    refine lv_iload hx hb dX11_earns_20 (lv_at hl 0 rfl) ?_
    refine lv_if_eq (tgt := 34) hx hb dX11_earns_22 (by decide) (fun c_20 => ?_) (fun c_20 => ?_)
    · have dc_20 := c_eq (a := r_17.toInt) (b := 0) rfl (by decide) c_20
      refine lv_aload_n hx hb dX11_earns_34 rfl (lv_at hl 1 rfl) ?_
      refine lv_iload_n hx hb dX11_earns_35 rfl (lv_at hl 2 rfl) ?_
      refine lv_iload_n hx hb dX11_earns_36 rfl (lv_at hl 3 rfl) ?_
      refine lv_iload_n hx hb dX11_earns_37 rfl (lv_at hl 4 rfl) ?_
      have hFc := va_free (wc := (mW g0 pq cp v fa)) hD hS hA (List.range 48) rfl
      refine va_calli (va_runV (As := [.int x1, .int x2, .int x3]) (rest := []) ⟨hx, hb, hml, hown, hts⟩ (c_X11_earnsOf_f l dC dI H.size g0 pq cp v fa gV gA x1 (by omega) x2 (by omega) x3 hWl) (cwV 3 hts gX11_earns_X11_earnsOf rfl rfl rfl (by decide +kernel) ⟨(Nat.le_of_ble_eq_true rfl), (Nat.le_of_ble_eq_true rfl)⟩) (pr_V (r := (RX11, TX11, 63)) hP hK hD 0 11 rfl rfl) rfl rfl hl.1 rfl (lv_room (Nat.le_of_ble_eq_true rfl)) dX11_earns_38 ⟨(Nat.le_of_ble_eq_true rfl), (Nat.le_of_ble_eq_true rfl)⟩) hS (fun q _ h => hFc q h) hFc (fun r_22 u t H locs ht hvm w_21 hB hz1 hk1 hS => ?_)
      obtain ⟨v_23, fa_24⟩ := u
      obtain ⟨hP1, hK1, hD1⟩ := hB
      rw [ht] at hP1
      have hP : va_P (dC, dI) vwCl (mW g0 pq cp v_23 fa_24) H := hP1
      have hD : va_D A (mW g0 pq cp v_23 fa_24) := hD1.weaken (fun _ _ _ h => hFc _ h)
      clear hP1 hK1 hD1 hk1 hz1 hvm ht hFc
      obtain ⟨hV_25, hA_26, hR_27, hb_28, hx_29⟩ := w_21
      dsimp only at hV_25 hA_26 hR_27 hb_28 hx_29
      have g_30 : (v_23 38).toInt = (v 38).toInt := congrArg Int32.toInt (hR_27.1 38 rfl)
      have g_31 : (v_23 43).toInt = (v 43).toInt := congrArg Int32.toInt (hR_27.1 43 rfl)
      have R_32 : mX [0, 45, 47, 48, 49, 50, 51, 52, 53, 54, 55, 56, 57, 58, 59, 60] v fa v_23 fa_24 := mX.st mX.rf (mX.scr hR_27) (by decide)
      have sc_33 := scr.tr scr.rf hR_27
      have q0_34 : fa_24 0 = fa 0 := (hR_27.2 0 rfl).trans rfl
      exact W.iret (v := r_22) hx hb hr (fun t ht hW => ⟨⟨r_22, (v_23, fa_24), rfl, ⟨hV_25, hA_26, R_32, ⟨by unfold aSt; omega, Or.inr ⟨by unfold bSt; omega, (by dsimp only; exact q0_34)⟩⟩⟩, ⟨by rw [ht]; exact hP, va_K.moved hW.alike hK, hD⟩⟩, hS.F ht⟩) hS.2.2 dX11_earns_41
    · have dc_20 := c_ne (a := r_17.toInt) (b := 0) rfl (by decide) c_20
      refine lv_aload_n hx hb dX11_earns_25 rfl (lv_at hl 1 rfl) ?_
      refine lv_iload hx hb dX11_earns_26 (lv_at hl 0 rfl) ?_
      have hFc := va_free (wc := (mW g0 pq cp v fa)) hD hS hA (List.range 48) rfl
      refine va_calli (va_runV (As := [.int r_17]) (rest := []) ⟨hx, hb, hml, hown, hts⟩ (c_X11_refuse_f l dC dI H.size g0 pq cp v fa r_17 (by apply vp_in_iff.mpr; rw [ng_i (x := r_17) rfl (by omega) (by omega)]; omega)) (cwV 1 hts gX11_earns_X11_refuse rfl rfl rfl (by decide +kernel) ⟨(Nat.le_of_ble_eq_true rfl), (Nat.le_of_ble_eq_true rfl)⟩) (pr_V (r := (RX11, TX11, 63)) hP hK hD 0 11 rfl rfl) rfl rfl hl.1 rfl (lv_room (Nat.le_of_ble_eq_true rfl)) dX11_earns_28 ⟨(Nat.le_of_ble_eq_true rfl), (Nat.le_of_ble_eq_true rfl)⟩) hS (fun q _ h => hFc q h) hFc (fun r_36 u t H locs ht hvm w_35 hB hz1 hk1 hS => ?_)
      obtain ⟨v_37, fa_38⟩ := u
      obtain ⟨hP1, hK1, hD1⟩ := hB
      rw [ht] at hP1
      have hP : va_P (dC, dI) vwCl (mW g0 pq cp v_37 fa_38) H := hP1
      have hD : va_D A (mW g0 pq cp v_37 fa_38) := hD1.weaken (fun _ _ _ h => hFc _ h)
      clear hP1 hK1 hD1 hk1 hz1 hvm ht hFc
      obtain ⟨err_36, hs1_39⟩ := w_35
      have hVv_37 : mV v_37 := sm0_V (sm1_0 hs1_39) gV
      have hAv_37 : mA fa_38 := sm0_A (sm1_0 hs1_39) gA
      have g_40 : (v_37 38).toInt = (v 38).toInt := congrArg Int32.toInt (congrFun hs1_39.1 38)
      have g_41 : (v_37 43).toInt = (v 43).toInt := congrArg Int32.toInt (congrFun hs1_39.1 43)
      have hRv_37 : mX [0, 45, 47, 48, 49, 50, 51, 52, 53, 54, 55, 56, 57, 58, 59, 60] v fa v_37 fa_38 := mX.st mX.rf (mX.s0 (sm1_0 hs1_39)) (by decide)
      refine lv_goto (tgt := 41) hx hb dX11_earns_31 (by decide) ?_
      exact W.iret (v := r_36) hx hb hr (fun t ht hW => ⟨⟨r_36, (v_37, fa_38), rfl, ⟨hVv_37, hAv_37, hRv_37, ⟨by have e9 := congrArg Int32.toInt err_36; unfold aSt; omega, Or.inl ⟨by have e9 := congrArg Int32.toInt err_36; unfold bSt; omega, by rw [err_36]; exact hs1_39⟩⟩⟩, ⟨by rw [ht]; exact hP, va_K.moved hW.alike hK, hD⟩⟩, hS.F ht⟩) hS.2.2 dX11_earns_41
