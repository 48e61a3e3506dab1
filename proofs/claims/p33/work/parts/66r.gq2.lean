


set_option maxHeartbeats 4000000 in
set_option maxRecDepth 100000 in
theorem c_X11_feed_r (l : Launch) (dC : Nat → ClassId) (dI : Nat → Nat → Nat) (sz : Nat) (g0 : Nat) (pq : Nat → Nat) (cp : Nat → ClassId) (v : Nat → Int32) (fa : Nat → Nat → Int32) (gV : mV v) (gA : mA fa) (x1 : Int32) (x2 : Int64) : Met l yX11_feed wsX11_feed ({ frames := 1, cells := 0, slots := 0, locals := 21 }) (va_Pc [.ref g0, .int x1, .long x2] (pcW (dC, dI) (mT cp) (mW g0 pq cp v fa) sz)) (va_Qi (fun (r : Int32) (u : (Nat → Int32) × (Nat → Nat → Int32)) => mV u.1 ∧ mA u.2 ∧ mX [0, 44, 46] v fa u.1 u.2 ∧ (gfd (v 46).toInt x1.toInt x2 (fa 44) r.toInt (u.1 46).toInt (u.2 44) ∧ rZr v fa u r (r.toInt < 0))) (fun u t => va_P (dC, dI) vwCl (mW g0 pq cp u.1 u.2) t.heap ∧ va_K (dC, dI) vwCl (mT cp) t ∧ va_D (va_A (mW g0 pq cp v fa) sz) (mW g0 pq cp u.1 u.2)) (va_A (mW g0 pq cp v fa) sz)) 0 0 (va_A (mW g0 pq cp v fa) sz) := by
  refine Met.ofW (cc := cX11_feed) (maxL := 5) (ret := (some .int)) (by decide) rfl ?_
  intro p e s m args below meth c s₁ B hml hv
  obtain ⟨rfl, hsz, hP, hK, hD0⟩ := hv
  have hx := B.exec
  have hb := B.bytes
  have hr := B.returns
  have hts := atoms_spec (ws := wsX11_feed) B.pre
  have hown : s.vm.findClass RX11 = some m.cls := findClass_of_methodNamed B.named
  have hlocks := B.notSynchronized
  subst hsz
  have hD := hD0.self (sz := s.heap.size)
  generalize hAe : va_A (mW g0 pq cp v fa) s.heap.size = A at hD ⊢
  have hA : ∀ q : Nat, s.heap.size ≤ q → A q := fun q h => by rw [← hAe]; exact Or.inr h
  have hS : va_S A s.heap s.heap [] := va_S.rf
  have hP : va_P (dC, dI) vwCl (mW g0 pq cp v fa) s.heap := hP
  have hl := lv_entry ([.ref g0, .int x1, .long x2]) (n := 5) (Nat.le_of_ble_eq_true rfl)
  rw [lg_entry_eq]
  generalize (lg_sl ([.ref g0, .int x1, .long x2]) ++ List.replicate (5 - (lg_sl ([.ref g0, .int x1, .long x2])).length) Slot.unset).toArray = ls at hl ⊢
  have hl : lv_has ls 5 [(0, .ref g0), (1, .int x1), (2, .long x2)] := hl
  have iv_1 : 0 ≤ (v 46).toInt ∧ (v 46).toInt ≤ 60 := gV 46
  refine lv_iload_n hx hb dX11_feed_0 rfl (lv_at hl 1 rfl) ?_
  refine lv_iconst (v := 1) hx hb dX11_feed_1 (by decide) ?_
  refine lv_icmp_ge (tgt := 12) hx hb dX11_feed_2 (by decide) (fun c_2 => ?_) (fun c_2 => ?_)
  · have dc_2 := c_le (a := 1) (b := x1.toInt) (by decide) rfl c_2
    refine lv_iload_n hx hb dX11_feed_12 rfl (lv_at hl 1 rfl) ?_
    refine lv_bipush (v := 8) hx hb dX11_feed_13 (by decide) ?_
    refine lv_icmp_gt (tgt := 29) hx hb dX11_feed_15 (by decide) (fun c_3 => ?_) (fun c_3 => ?_)
    · have dc_3 := c_lt (a := 8) (b := x1.toInt) (by decide) rfl c_3
      refine lv_aload_n hx hb dX11_feed_29 rfl (lv_at hl 0 rfl) ?_
      refine lv_bipush (v := (-6)) hx hb dX11_feed_30 (by decide) ?_
      have hFc := va_free (wc := (mW g0 pq cp v fa)) hD hS hA (List.range 48) rfl
      refine va_calli (va_runV (As := [.int (-6)]) (rest := []) ⟨hx, hb, hml, hown, hts⟩ (c_X11_refuse_f l dC dI s.heap.size g0 pq cp v fa (-6) (by unfold vp_in; decide)) (cwV 1 hts gX11_feed_X11_refuse rfl rfl rfl (by decide +kernel) ⟨(Nat.le_of_ble_eq_true rfl), (Nat.le_of_ble_eq_true rfl)⟩) (pr_V (r := (RX11, TX11, 63)) hP hK hD 0 11 rfl rfl) rfl rfl hl.1 rfl (lv_room (Nat.le_of_ble_eq_true rfl)) dX11_feed_32 ⟨(Nat.le_of_ble_eq_true rfl), (Nat.le_of_ble_eq_true rfl)⟩) hS (fun q _ h => hFc q h) hFc (fun r_5 u t H locs ht hvm w_4 hB hz1 hk1 hS => ?_)
      obtain ⟨v_6, fa_7⟩ := u
      obtain ⟨hP1, hK1, hD1⟩ := hB
      rw [ht] at hP1
      have hP : va_P (dC, dI) vwCl (mW g0 pq cp v_6 fa_7) H := hP1
      have hD : va_D A (mW g0 pq cp v_6 fa_7) := hD1.weaken (fun _ _ _ h => hFc _ h)
      clear hP1 hK1 hD1 hk1 hz1 hvm ht hFc
      obtain ⟨rfl, hs1_8⟩ := w_4
      have hVv_6 : mV v_6 := sm0_V (sm1_0 hs1_8) gV
      have hAv_6 : mA fa_7 := sm0_A (sm1_0 hs1_8) gA
      have g_9 : (v_6 46).toInt = (v 46).toInt := congrArg Int32.toInt (congrFun hs1_8.1 46)
      have hRv_6 : mX [0, 44, 46] v fa v_6 fa_7 := mX.st mX.rf (mX.s0 (sm1_0 hs1_8)) (by decide)
      exact W.iret (v := (-6)) hx hb hr (fun t ht hW => ⟨⟨(-6), (v_6, fa_7), rfl, ⟨hVv_6, hAv_6, hRv_6, ⟨(by unfold gfd; dsimp only; have e1 := (sm1_0 hs1_8).2 44 (by decide); dsimp only at e1; rw [e1]; have h0 : ((-6) : Int32).toInt = -6 := (by decide); first | exact Or.inl ⟨by omega, by omega, by omega, rfl⟩ | exact Or.inr (Or.inl ⟨by omega, by omega, by omega, by omega, rfl⟩)), (Or.inl ⟨by have rc : ((-6) : Int32).toInt = -6 := (by decide); omega, sm2_1 hs1_8⟩)⟩⟩, ⟨by rw [ht]; exact hP, va_K.moved hW.alike hK, hD⟩⟩, hS.F ht⟩) hS.2.2 dX11_feed_35
    · have dc_3 := c_nlt (a := 8) (b := x1.toInt) (by decide) rfl c_3
      refine lv_aload_n hx hb dX11_feed_18 rfl (lv_at hl 0 rfl) ?_
      refine va_get (D := (dC, dI)) (ci := 11) (v := .int (v 46)) (C := RX11) (T := TX11) (N := 63) hx hb hts in_wsX11_feed_X11 hown hK hP 0 rfl rfl 46 (by decide) (hts (.fieldLink RX11 205 "ShipOfficeModel" "taped" "I") iw_X11_feed_1) (fun _ h9 => h9) rfl dX11_feed_19 ?_
      refine lv_topi (fun x_10 ex_10 => ?_)
      have hx_10 : 0 ≤ x_10.toInt ∧ x_10.toInt ≤ 60 := iv_of ex_10 (gV 46)
      have gx_10 : x_10.toInt = (v 46).toInt := iv_to ex_10
      clear ex_10
      refine lv_iload_n hx hb dX11_feed_22 rfl (lv_at hl 1 rfl) ?_
      refine lv_iadd hx hb dX11_feed_23 ?_
      refine lv_topi (fun x_11 ex_11 => ?_)
      have hx_11 : x_11.toInt = x_10.toInt + x1.toInt := (iv_to ex_11).trans (ad_i rfl rfl (by omega) (by omega))
      refine lv_bipush (v := 60) hx hb dX11_feed_24 (by decide) ?_
      refine lv_icmp_le (tgt := 36) hx hb dX11_feed_26 (by decide) (fun c_12 => ?_) (fun c_12 => ?_)
      · have dc_12 := c_le (a := x_11.toInt) (b := 60) rfl (by decide) c_12
        refine lv_iconst (v := 0) hx hb dX11_feed_36 (by decide) ?_
        refine lv_istore (lv' := [(4, .int 0), (0, .ref g0), (1, .int x1), (2, .long x2)]) hx hb dX11_feed_37 hl (by decide) rfl (fun ls hl => ?_)
        have cut_13 : ∀ (n : Nat) (y_14 : Int32) (z_15 : Nat → Int32) (fz_16 : Nat → Nat → Int32) (H : Heap) (locs : List Loc) (ls : Array Slot), 8 - y_14.toInt ≤ (n : Int) → (0 ≤ y_14.toInt ∧ y_14.toInt ≤ 8) → ((z_15 46).toInt = (v 46).toInt + y_14.toInt ∧ y_14.toInt ≤ x1.toInt) → fdI (fa 44) x2 (v 46).toNatClampNeg y_14.toNatClampNeg (fz_16 44) → fz_16 0 = fa 0 → mV z_15 → mA fz_16 → mX [0, 44, 46] v fa z_15 fz_16 → va_P (dC, dI) vwCl (mW g0 pq cp z_15 fz_16) H → va_D A (mW g0 pq cp z_15 fz_16) → va_S A s.heap H locs → lv_has ls 5 [(4, .int y_14), (0, .ref g0), (1, .int x1), (2, .long x2)] → W p l e (headSpec wsX11_feed { frames := 1, cells := 0, slots := 0, locals := 21 }).room s m #[Value.ref g0, Value.int x1, Value.long x2] below meth c H locs 0 0 (MQ below (va_Qi (fun (r : Int32) (u : (Nat → Int32) × (Nat → Nat → Int32)) => mV u.1 ∧ mA u.2 ∧ mX [0, 44, 46] v fa u.1 u.2 ∧ (gfd (v 46).toInt x1.toInt x2 (fa 44) r.toInt (u.1 46).toInt (u.2 44) ∧ rZr v fa u r (r.toInt < 0))) (fun u t => va_P (dC, dI) vwCl (mW g0 pq cp u.1 u.2) t.heap ∧ va_K (dC, dI) vwCl (mT cp) t ∧ va_D A (mW g0 pq cp u.1 u.2)) A) #[Value.ref g0, Value.int x1, Value.long x2] s 0 0 A) (F0 m 39 ls []) := by
          intro n
          induction n using Nat.strongRecOn with
          | ind n ih =>
            intro y_14 z_15 fz_16 H locs ls hm hy_14 hq0_cut_13 hq1_cut_13 hq2_cut_13 hVz_15 hAz_15 hRz_15 hP hD hS hl
            refine lv_iload hx hb dX11_feed_39 (lv_at hl 0 rfl) ?_
            refine lv_iload_n hx hb dX11_feed_41 rfl (lv_at hl 2 rfl) ?_
            refine lv_icmp_ge (tgt := 82) hx hb dX11_feed_42 (by decide) (fun c_17 => ?_) (fun c_17 => ?_)
            · have dc_17 := c_le (a := x1.toInt) (b := y_14.toInt) rfl rfl c_17
              refine lv_aload_n hx hb dX11_feed_82 rfl (lv_at hl 1 rfl) ?_
              refine va_get (D := (dC, dI)) (ci := 11) (v := .int (z_15 46)) (C := RX11) (T := TX11) (N := 63) hx hb hts in_wsX11_feed_X11 hown hK hP 0 rfl rfl 46 (by decide) (hts (.fieldLink RX11 205 "ShipOfficeModel" "taped" "I") iw_X11_feed_1) (fun _ h9 => h9) rfl dX11_feed_83 ?_
              refine lv_topi (fun x_18 ex_18 => ?_)
              have hx_18 : 0 ≤ x_18.toInt ∧ x_18.toInt ≤ 60 := iv_of ex_18 (hVz_15 46)
              have gx_18 : x_18.toInt = (z_15 46).toInt := iv_to ex_18
              clear ex_18
              exact W.iret (v := x_18) hx hb hr (fun t ht hW => ⟨⟨x_18, (z_15, fz_16), rfl, ⟨hVz_15, hAz_15, hRz_15, ⟨(by have e1 : y_14 = x1 := Int32.toInt_inj.mp (by omega); have g := hq1_cut_13; rw [e1] at g; exact Or.inr (Or.inr ⟨by omega, by omega, by omega, by omega, by dsimp only; omega, g⟩)), (Or.inr ⟨by omega, (by first | exact hq2_cut_13 | (dsimp only; exact hq2_cut_13))⟩)⟩⟩, ⟨by rw [ht]; exact hP, va_K.moved hW.alike hK, hD⟩⟩, hS.F ht⟩) hS.2.2 dX11_feed_86
            · have dc_17 := c_nle (a := x1.toInt) (b := y_14.toInt) rfl rfl c_17
              refine lv_aload_n hx hb dX11_feed_45 rfl (lv_at hl 1 rfl) ?_
              refine va_get (D := (dC, dI)) (ci := 11) (v := .ref (pq 44)) (C := RX11) (T := TX11) (N := 63) hx hb hts in_wsX11_feed_X11 hown hK hP 0 rfl rfl 44 (by decide) (hts (.fieldLink RX11 125 "ShipOfficeModel" "tape" "[I") iw_X11_feed_2) (fun _ h9 => h9) rfl dX11_feed_46 ?_
              refine lv_aload_n hx hb dX11_feed_49 rfl (lv_at hl 1 rfl) ?_
              refine va_get (D := (dC, dI)) (ci := 11) (v := .int (z_15 46)) (C := RX11) (T := TX11) (N := 63) hx hb hts in_wsX11_feed_X11 hown hK hP 0 rfl rfl 46 (by decide) (hts (.fieldLink RX11 205 "ShipOfficeModel" "taped" "I") iw_X11_feed_1) (fun _ h9 => h9) rfl dX11_feed_50 ?_
              refine lv_topi (fun x_19 ex_19 => ?_)
              have hx_19 : 0 ≤ x_19.toInt ∧ x_19.toInt ≤ 60 := iv_of ex_19 (hVz_15 46)
              have gx_19 : x_19.toInt = (z_15 46).toInt := iv_to ex_19
              clear ex_19
              refine lv_lload_n hx hb dX11_feed_53 rfl (lv_at hl 3 rfl) ?_
              refine lv_bipush (v := 8) hx hb dX11_feed_54 (by decide) ?_
              refine lv_iload hx hb dX11_feed_56 (lv_at hl 0 rfl) ?_
              refine lv_imul hx hb dX11_feed_58 ?_
              refine lv_topi (fun x_20 ex_20 => ?_)
              have hx_20 : x_20.toInt = 8 * y_14.toInt := (iv_to ex_20).trans (mu_i (by decide) rfl (by omega) (by omega))
              refine lv_lshr (v := x2 >>> ((x_20 : Int32).toInt64 &&& 63)) hx hb dX11_feed_59 rfl ?_
              refine lv_ldc2 (v := 255) hx hb hown (hts (.constantLong RX11 208 (255)) (by decide +kernel)) dX11_feed_60 ?_
              refine lv_land hx hb dX11_feed_63 ?_
              refine lv_l2i (v := ((x2 >>> ((x_20 : Int32).toInt64 &&& 63)) &&& 255 : Int64).toInt32) hx hb dX11_feed_64 rfl ?_
              refine lv_topi (fun x_21 ex_21 => ?_)
              refine va_iast hx hb hK hP hD hS 39 38 rfl rfl (vp_in_iff.mpr (by omega)) dX11_feed_65 (fun H locs hP hD hS => ?_)
              have hP : va_P (dC, dI) vwCl (mW g0 pq cp z_15 (upF fz_16 44 (x_19 : Int32).toNatClampNeg x_21)) H := hP
              have hD : va_D A (mW g0 pq cp z_15 (upF fz_16 44 (x_19 : Int32).toNatClampNeg x_21)) := hD
              obtain ⟨fz_22, efz_22⟩ : ∃ zq, zq = (upF fz_16 44 (x_19 : Int32).toNatClampNeg x_21) := ⟨_, rfl⟩
              rw [← efz_22] at hP hD
              have hAfz_22 : mA fz_22 := by rw [efz_22]; exact mA_upF (lo := -2147483648) (hi := 2147483647) hAz_15 rfl rfl (iv_all _)
              have hRfz_22 : mX [0, 44, 46] v fa z_15 fz_22 := by rw [efz_22]; exact mX.uF hRz_15 (by decide)
              have q0_23 : fz_22 0 = fa 0 := by rw [efz_22]; exact (if_neg (by decide)).trans hq2_cut_13
              refine lv_aload_n hx hb dX11_feed_66 rfl (lv_at hl 1 rfl) ?_
              refine lv_dup hx hb dX11_feed_67 rfl ?_
              refine va_get (D := (dC, dI)) (ci := 11) (v := .int (z_15 46)) (C := RX11) (T := TX11) (N := 63) hx hb hts in_wsX11_feed_X11 hown hK hP 0 rfl rfl 46 (by decide) (hts (.fieldLink RX11 205 "ShipOfficeModel" "taped" "I") iw_X11_feed_1) (fun _ h9 => h9) rfl dX11_feed_68 ?_
              refine lv_topi (fun x_24 ex_24 => ?_)
              have hx_24 : 0 ≤ x_24.toInt ∧ x_24.toInt ≤ 60 := iv_of ex_24 (hVz_15 46)
              have gx_24 : x_24.toInt = (z_15 46).toInt := iv_to ex_24
              clear ex_24
              refine lv_iconst (v := 1) hx hb dX11_feed_71 (by decide) ?_
              refine lv_iadd hx hb dX11_feed_72 ?_
              refine lv_topi (fun x_25 ex_25 => ?_)
              have hx_25 : x_25.toInt = x_24.toInt + 1 := (iv_to ex_25).trans (ad_i rfl (by decide) (by omega) (by omega))
              refine va_put (D := (dC, dI)) (ci := 11) (v := .int x_25) (ty := .int) (C := RX11) (T := TX11) (N := 63) hx hb hts in_wsX11_feed_X11 tyX11 tyX11_ok nmX11 hown hK hP hD hS 0 rfl rfl 46 (by decide) (hts (.fieldLink RX11 205 "ShipOfficeModel" "taped" "I") iw_X11_feed_1) (fun _ h9 => h9) rfl (by decide +kernel) rfl rfl (Nat.le_of_ble_eq_true rfl) dX11_feed_73 (fun H locs hP hD hS => ?_)
              have hP : va_P (dC, dI) vwCl (mW g0 pq cp (upd z_15 46 x_25) fz_22) H := hP
              have hD : va_D A (mW g0 pq cp (upd z_15 46 x_25) fz_22) := hD
              obtain ⟨z_26, ez_26⟩ : ∃ zq, zq = (upd z_15 46 x_25) := ⟨_, rfl⟩
              rw [← ez_26] at hP hD
              have hVz_26 : mV z_26 := by rw [ez_26]; exact mV_upd (lo := 0) (hi := 60) hVz_15 rfl rfl (by omega)
              have hRz_26 : mX [0, 44, 46] v fa z_26 fz_22 := by rw [ez_26]; exact mX.up hRfz_22 (by decide)
              have g_27 : (z_26 46).toInt = x_25.toInt := by rw [ez_26, show upd z_15 46 x_25 46 = x_25 from if_pos rfl]
              obtain ⟨x_28, ex_28⟩ : ∃ zq : Int32, y_14 + 1 = zq := ⟨_, rfl⟩
              have hx_28 : x_28.toInt = y_14.toInt + 1 := (iv_to ex_28).symm.trans (ad_i rfl (by decide) (by omega) (by omega))
              refine lv_iinc (v := x_28) (lv' := [(4, .int x_28), (0, .ref g0), (1, .int x1), (2, .long x2)]) hx hb dX11_feed_76 hl (k := 0) rfl ex_28 (by decide) rfl (fun ls hl => ?_)
              clear ex_28
              refine lv_goto (tgt := 39) hx hb dX11_feed_79 (by decide) ?_
              exact ih (n - 1) (by omega) x_28 z_26 fz_22 _ _ ls (by omega) (by omega) (by omega) (fd_s hq1_cut_13 (by rw [efz_22]; exact if_pos rfl) (by have n0 : (v 46).toNatClampNeg = (v 46).toInt.toNat := rfl; omega) (by omega) (by omega) ex_20 ex_21) q0_23 hVz_26 hAfz_22 hRz_26 hP hD hS (lv_sub hl [0, 1, 2, 3] rfl)
        have kc_29 : (0 : Int32).toInt = 0 := by decide
        exact cut_13 9 0 v fa _ _ ls (by omega) (by decide) (by omega) (fd_0 (by decide)) rfl gV gA mX.rf hP hD hS (lv_sub hl [0, 1, 2, 3] rfl)
      · have dc_12 := c_nle (a := x_11.toInt) (b := 60) rfl (by decide) c_12
        refine lv_aload_n hx hb dX11_feed_29 rfl (lv_at hl 0 rfl) ?_
        refine lv_bipush (v := (-6)) hx hb dX11_feed_30 (by decide) ?_
        have hFc := va_free (wc := (mW g0 pq cp v fa)) hD hS hA (List.range 48) rfl
        refine va_calli (va_runV (As := [.int (-6)]) (rest := []) ⟨hx, hb, hml, hown, hts⟩ (c_X11_refuse_f l dC dI s.heap.size g0 pq cp v fa (-6) (by unfold vp_in; decide)) (cwV 1 hts gX11_feed_X11_refuse rfl rfl rfl (by decide +kernel) ⟨(Nat.le_of_ble_eq_true rfl), (Nat.le_of_ble_eq_true rfl)⟩) (pr_V (r := (RX11, TX11, 63)) hP hK hD 0 11 rfl rfl) rfl rfl hl.1 rfl (lv_room (Nat.le_of_ble_eq_true rfl)) dX11_feed_32 ⟨(Nat.le_of_ble_eq_true rfl), (Nat.le_of_ble_eq_true rfl)⟩) hS (fun q _ h => hFc q h) hFc (fun r_31 u t H locs ht hvm w_30 hB hz1 hk1 hS => ?_)
        obtain ⟨v_32, fa_33⟩ := u
        obtain ⟨hP1, hK1, hD1⟩ := hB
        rw [ht] at hP1
        have hP : va_P (dC, dI) vwCl (mW g0 pq cp v_32 fa_33) H := hP1
        have hD : va_D A (mW g0 pq cp v_32 fa_33) := hD1.weaken (fun _ _ _ h => hFc _ h)
        clear hP1 hK1 hD1 hk1 hz1 hvm ht hFc
        obtain ⟨rfl, hs1_34⟩ := w_30
        have hVv_32 : mV v_32 := sm0_V (sm1_0 hs1_34) gV
        have hAv_32 : mA fa_33 := sm0_A (sm1_0 hs1_34) gA
        have g_35 : (v_32 46).toInt = (v 46).toInt := congrArg Int32.toInt (congrFun hs1_34.1 46)
        have hRv_32 : mX [0, 44, 46] v fa v_32 fa_33 := mX.st mX.rf (mX.s0 (sm1_0 hs1_34)) (by decide)
        exact W.iret (v := (-6)) hx hb hr (fun t ht hW => ⟨⟨(-6), (v_32, fa_33), rfl, ⟨hVv_32, hAv_32, hRv_32, ⟨(by unfold gfd; dsimp only; have e1 := (sm1_0 hs1_34).2 44 (by decide); dsimp only at e1; rw [e1]; have h0 : ((-6) : Int32).toInt = -6 := (by decide); first | exact Or.inl ⟨by omega, by omega, by omega, rfl⟩ | exact Or.inr (Or.inl ⟨by omega, by omega, by omega, by omega, rfl⟩)), (Or.inl ⟨by have rc : ((-6) : Int32).toInt = -6 := (by decide); omega, sm2_1 hs1_34⟩)⟩⟩, ⟨by rw [ht]; exact hP, va_K.moved hW.alike hK, hD⟩⟩, hS.F ht⟩) hS.2.2 dX11_feed_35
  · have dc_2 := c_nle (a := 1) (b := x1.toInt) (by decide) rfl c_2
    refine lv_aload_n hx hb dX11_feed_5 rfl (lv_at hl 0 rfl) ?_
    refine lv_bipush (v := (-4)) hx hb dX11_feed_6 (by decide) ?_
    have hFc := va_free (wc := (mW g0 pq cp v fa)) hD hS hA (List.range 48) rfl
    refine va_calli (va_runV (As := [.int (-4)]) (rest := []) ⟨hx, hb, hml, hown, hts⟩ (c_X11_refuse_f l dC dI s.heap.size g0 pq cp v fa (-4) (by unfold vp_in; decide)) (cwV 1 hts gX11_feed_X11_refuse rfl rfl rfl (by decide +kernel) ⟨(Nat.le_of_ble_eq_true rfl), (Nat.le_of_ble_eq_true rfl)⟩) (pr_V (r := (RX11, TX11, 63)) hP hK hD 0 11 rfl rfl) rfl rfl hl.1 rfl (lv_room (Nat.le_of_ble_eq_true rfl)) dX11_feed_8 ⟨(Nat.le_of_ble_eq_true rfl), (Nat.le_of_ble_eq_true rfl)⟩) hS (fun q _ h => hFc q h) hFc (fun r_37 u t H locs ht hvm w_36 hB hz1 hk1 hS => ?_)
    obtain ⟨v_38, fa_39⟩ := u
    obtain ⟨hP1, hK1, hD1⟩ := hB
    rw [ht] at hP1
    have hP : va_P (dC, dI) vwCl (mW g0 pq cp v_38 fa_39) H := hP1
    have hD : va_D A (mW g0 pq cp v_38 fa_39) := hD1.weaken (fun _ _ _ h => hFc _ h)
    clear hP1 hK1 hD1 hk1 hz1 hvm ht hFc
    obtain ⟨rfl, hs1_40⟩ := w_36
    have hVv_38 : mV v_38 := sm0_V (sm1_0 hs1_40) gV
    have hAv_38 : mA fa_39 := sm0_A (sm1_0 hs1_40) gA
    have g_41 : (v_38 46).toInt = (v 46).toInt := congrArg Int32.toInt (congrFun hs1_40.1 46)
    have hRv_38 : mX [0, 44, 46] v fa v_38 fa_39 := mX.st mX.rf (mX.s0 (sm1_0 hs1_40)) (by decide)
    exact W.iret (v := (-4)) hx hb hr (fun t ht hW => ⟨⟨(-4), (v_38, fa_39), rfl, ⟨hVv_38, hAv_38, hRv_38, ⟨(by unfold gfd; dsimp only; have e1 := (sm1_0 hs1_40).2 44 (by decide); dsimp only at e1; rw [e1]; have h0 : ((-4) : Int32).toInt = -4 := (by decide); first | exact Or.inl ⟨by omega, by omega, by omega, rfl⟩ | exact Or.inr (Or.inl ⟨by omega, by omega, by omega, by omega, rfl⟩)), (Or.inl ⟨by have rc : ((-4) : Int32).toInt = -4 := (by decide); omega, sm2_1 hs1_40⟩)⟩⟩, ⟨by rw [ht]; exact hP, va_K.moved hW.alike hK, hD⟩⟩, hS.F ht⟩) hS.2.2 dX11_feed_11
set_option maxHeartbeats 4000000 in
set_option maxRecDepth 100000 in
theorem c_X11_act_r (l : Launch) (dC : Nat → ClassId) (dI : Nat → Nat → Nat) (sz : Nat) (g0 : Nat) (pq : Nat → Nat) (cp : Nat → ClassId) (v : Nat → Int32) (fa : Nat → Nat → Int32) (gV : mV v) (gA : mA fa) (x1 : Int32) (x2 : Int32) : Met l yX11_act wsX11_act ({ frames := 20, cells := 0, slots := 0, locals := 463 }) (va_Pc [.ref g0, .int x1, .int x2] (pcW (dC, dI) (mT cp) (mW g0 pq cp v fa) sz)) (va_Qi (fun (r : Int32) (u : (Nat → Int32) × (Nat → Nat → Int32)) => mV u.1 ∧ mA u.2 ∧ mX [0, 16, 17, 18, 19, 42, 45, 46, 47, 48, 49, 50, 51, 52, 53, 54, 55, 56, 57, 58, 59, 60] v fa u.1 u.2 ∧ ((gac (v 38).toInt (v 42).toInt (v 46).toInt x1.toInt x2.toInt ((mvS (mL fa) (cI (fa 44) (v 46).toNatClampNeg) 5 0).1 : Int) (bI (mvS (mL fa) (cI (fa 44) (v 46).toNatClampNeg) 5 0).2.1) r.toInt (u.1 42).toInt (u.1 46).toInt ∧ (1 ≤ r.toInt → acM v fa x1 x2 u) ∧ (r.toInt < 1 → ∀ k ∈ [19, 16, 17, 18], u.2 k = fa k)) ∧ rZr v fa u r (-7 < r.toInt ∧ r.toInt < 0))) (fun u t => va_P (dC, dI) vwCl (mW g0 pq cp u.1 u.2) t.heap ∧ va_K (dC, dI) vwCl (mT cp) t ∧ va_D (va_A (mW g0 pq cp v fa) sz) (mW g0 pq cp u.1 u.2)) (va_A (mW g0 pq cp v fa) sz)) 0 0 (va_A (mW g0 pq cp v fa) sz) := by
  refine Met.ofW (cc := cX11_act) (maxL := 7) (ret := (some .int)) (by decide) rfl ?_
  intro p e s m args below meth c s₁ B hml hv
  obtain ⟨rfl, hsz, hP, hK, hD0⟩ := hv
  have hx := B.exec
  have hb := B.bytes
  have hr := B.returns
  have hts := atoms_spec (ws := wsX11_act) B.pre
  have hown : s.vm.findClass RX11 = some m.cls := findClass_of_methodNamed B.named
  have hlocks := B.notSynchronized
  subst hsz
  have hD := hD0.self (sz := s.heap.size)
  generalize hAe : va_A (mW g0 pq cp v fa) s.heap.size = A at hD ⊢
  have hA : ∀ q : Nat, s.heap.size ≤ q → A q := fun q h => by rw [← hAe]; exact Or.inr h
  have hS : va_S A s.heap s.heap [] := va_S.rf
  have hP : va_P (dC, dI) vwCl (mW g0 pq cp v fa) s.heap := hP
  have hl := lv_entry ([.ref g0, .int x1, .int x2]) (n := 7) (Nat.le_of_ble_eq_true rfl)
  rw [lg_entry_eq]
  generalize (lg_sl ([.ref g0, .int x1, .int x2]) ++ List.replicate (7 - (lg_sl ([.ref g0, .int x1, .int x2])).length) Slot.unset).toArray = ls at hl ⊢
  have hl : lv_has ls 7 [(0, .ref g0), (1, .int x1), (2, .int x2)] := hl
  have iv_1 : 0 ≤ (v 38).toInt ∧ (v 38).toInt ≤ 3000 := gV 38
  have iv_2 : 0 ≤ (v 42).toInt ∧ (v 42).toInt ≤ 30 := gV 42
  have iv_3 : 0 ≤ (v 46).toInt ∧ (v 46).toInt ≤ 60 := gV 46
  refine lv_iload_n hx hb dX11_act_0 rfl (lv_at hl 1 rfl) ?_
  refine lv_iconst (v := 5) hx hb dX11_act_1 (by decide) ?_
  have hFc : ∀ q, va_A [] s.heap.size q → A q := pu_free hS hA
  have hPc := hP.sub (ws' := []) [] rfl
  have hDc := hD.sub (ws' := []) [] (by decide) rfl
  have hKc := hK.sub (tys' := []) [] rfl
  refine va_calli (va_runS (As := [.int x1, .int 5]) (rest := []) ⟨hx, hb, hml, hown, hts⟩ (c_X11_isIn l dC dI s.heap.size x1 5) (va_cwS 2 hts gX11_act_X11_isIn rfl rfl rfl (by decide +kernel) ⟨(Nat.le_of_ble_eq_true rfl), (Nat.le_of_ble_eq_true rfl)⟩) (pr_S hPc hKc hDc) rfl rfl hl.1 rfl (lv_room (Nat.le_of_ble_eq_true rfl)) dX11_act_2 ⟨(Nat.le_of_ble_eq_true rfl), (Nat.le_of_ble_eq_true rfl)⟩) hS (fun q _ h => hFc q h) hFc (fun r_5 u t H locs ht hvm w_4 hB hz1 hk1 hS => ?_)
  have hP := pu_keep hP hk1
  clear hk1 hz1 hvm hB ht hFc hPc hDc hKc
  have hbr_5 : 0 ≤ r_5.toInt ∧ r_5.toInt ≤ 1 := iv_of w_4 (isI_i _ _)
  refine lv_if_ne (tgt := 15) hx hb dX11_act_5 (by decide) (fun c_6 => ?_) (fun c_6 => ?_)
  · have dc_6 := c_ne (a := r_5.toInt) (b := 0) rfl (by decide) c_6
    have hi_7 := isI_t w_4 (fun q => c_6 (Int32.toInt_inj.mp q))
    have khi_7 : (5 : Int32).toInt = 5 := by decide
    refine lv_iload_n hx hb dX11_act_15 rfl (lv_at hl 2 rfl) ?_
    refine lv_aload_n hx hb dX11_act_16 rfl (lv_at hl 0 rfl) ?_
    refine va_get (D := (dC, dI)) (ci := 11) (v := .int (v 38)) (C := RX11) (T := TX11) (N := 63) hx hb hts in_wsX11_act_X11 hown hK hP 0 rfl rfl 38 (by decide) (hts (.fieldLink RX11 171 "ShipOfficeModel" "now" "I") iw_X11_act_1) (fun _ h9 => h9) rfl dX11_act_17 ?_
    refine lv_topi (fun x_8 ex_8 => ?_)
    have hx_8 : 0 ≤ x_8.toInt ∧ x_8.toInt ≤ 3000 := iv_of ex_8 (gV 38)
    have gx_8 : x_8.toInt = (v 38).toInt := iv_to ex_8
    clear ex_8
    refine lv_icmp_ge (tgt := 30) hx hb dX11_act_20 (by decide) (fun c_9 => ?_) (fun c_9 => ?_)
    · have dc_9 := c_le (a := x_8.toInt) (b := x2.toInt) rfl rfl c_9
      refine lv_iload_n hx hb dX11_act_30 rfl (lv_at hl 2 rfl) ?_
      refine lv_sipush (v := 3000) hx hb dX11_act_31 (by decide) ?_
      refine lv_icmp_gt (tgt := 46) hx hb dX11_act_34 (by decide) (fun c_10 => ?_) (fun c_10 => ?_)
      · have dc_10 := c_lt (a := 3000) (b := x2.toInt) (by decide) rfl c_10
        refine lv_aload_n hx hb dX11_act_46 rfl (lv_at hl 0 rfl) ?_
        refine lv_bipush (v := (-6)) hx hb dX11_act_47 (by decide) ?_
        have hFc := va_free (wc := (mW g0 pq cp v fa)) hD hS hA (List.range 48) rfl
        refine va_calli (va_runV (As := [.int (-6)]) (rest := []) ⟨hx, hb, hml, hown, hts⟩ (c_X11_refuse_f l dC dI H.size g0 pq cp v fa (-6) (by unfold vp_in; decide)) (cwV 1 hts gX11_act_X11_refuse rfl rfl rfl (by decide +kernel) ⟨(Nat.le_of_ble_eq_true rfl), (Nat.le_of_ble_eq_true rfl)⟩) (pr_V (r := (RX11, TX11, 63)) hP hK hD 0 11 rfl rfl) rfl rfl hl.1 rfl (lv_room (Nat.le_of_ble_eq_true rfl)) dX11_act_49 ⟨(Nat.le_of_ble_eq_true rfl), (Nat.le_of_ble_eq_true rfl)⟩) hS (fun q _ h => hFc q h) hFc (fun r_12 u t H locs ht hvm w_11 hB hz1 hk1 hS => ?_)
        obtain ⟨v_13, fa_14⟩ := u
        obtain ⟨hP1, hK1, hD1⟩ := hB
        rw [ht] at hP1
        have hP : va_P (dC, dI) vwCl (mW g0 pq cp v_13 fa_14) H := hP1
        have hD : va_D A (mW g0 pq cp v_13 fa_14) := hD1.weaken (fun _ _ _ h => hFc _ h)
        clear hP1 hK1 hD1 hk1 hz1 hvm ht hFc
        obtain ⟨rfl, hs1_15⟩ := w_11
        have hVv_13 : mV v_13 := sm0_V (sm1_0 hs1_15) gV
        have hAv_13 : mA fa_14 := sm0_A (sm1_0 hs1_15) gA
        have g_16 : (v_13 38).toInt = (v 38).toInt := congrArg Int32.toInt (congrFun hs1_15.1 38)
        have g_17 : (v_13 42).toInt = (v 42).toInt := congrArg Int32.toInt (congrFun hs1_15.1 42)
        have g_18 : (v_13 46).toInt = (v 46).toInt := congrArg Int32.toInt (congrFun hs1_15.1 46)
        have g_19 : (v_13 47).toInt = (v 47).toInt := congrArg Int32.toInt (congrFun hs1_15.1 47)
        have g_20 : (v_13 51).toInt = (v 51).toInt := congrArg Int32.toInt (congrFun hs1_15.1 51)
        have hRv_13 : mX [0, 16, 17, 18, 19, 42, 45, 46, 47, 48, 49, 50, 51, 52, 53, 54, 55, 56, 57, 58, 59, 60] v fa v_13 fa_14 := mX.st mX.rf (mX.s0 (sm1_0 hs1_15)) (by decide)
        exact W.iret (v := (-6)) hx hb hr (fun t ht hW => ⟨⟨(-6), (v_13, fa_14), rfl, ⟨hVv_13, hAv_13, hRv_13, ⟨⟨(by unfold gac; dsimp only; have n0 : (v 46).toNatClampNeg = (v 46).toInt.toNat := rfl; have h0 : ((-6) : Int32).toInt = -6 := (by decide); refine Or.inr (Or.inr (Or.inl ?_)); omega), fun h => by have h0 : ((-6) : Int32).toInt = -6 := (by decide); exfalso; omega, (fun _ k hk => (sm1_0 hs1_15).2 k (by revert k; decide))⟩, (Or.inl ⟨by have rc : ((-6) : Int32).toInt = -6 := (by decide); omega, sm2_1 hs1_15⟩)⟩⟩, ⟨by rw [ht]; exact hP, va_K.moved hW.alike hK, hD⟩⟩, hS.F ht⟩) hS.2.2 dX11_act_52
      · have dc_10 := c_nlt (a := 3000) (b := x2.toInt) (by decide) rfl c_10
        refine lv_aload_n hx hb dX11_act_37 rfl (lv_at hl 0 rfl) ?_
        refine va_get (D := (dC, dI)) (ci := 11) (v := .int (v 42)) (C := RX11) (T := TX11) (N := 63) hx hb hts in_wsX11_act_X11 hown hK hP 0 rfl rfl 42 (by decide) (hts (.fieldLink RX11 256 "ShipOfficeModel" "acts" "I") iw_X11_act_2) (fun _ h9 => h9) rfl dX11_act_38 ?_
        refine lv_topi (fun x_21 ex_21 => ?_)
        have hx_21 : 0 ≤ x_21.toInt ∧ x_21.toInt ≤ 30 := iv_of ex_21 (gV 42)
        have gx_21 : x_21.toInt = (v 42).toInt := iv_to ex_21
        clear ex_21
        refine lv_bipush (v := 30) hx hb dX11_act_41 (by decide) ?_
        refine lv_icmp_ne (tgt := 53) hx hb dX11_act_43 (by decide) (fun c_22 => ?_) (fun c_22 => ?_)
        · have dc_22 := c_ne (a := x_21.toInt) (b := 30) rfl (by decide) c_22
          refine lv_aload_n hx hb dX11_act_53 rfl (lv_at hl 0 rfl) ?_
          refine lv_iconst (v := (-1)) hx hb dX11_act_54 (by decide) ?_
          refine lv_aload_n hx hb dX11_act_55 rfl (lv_at hl 0 rfl) ?_
          refine va_get (D := (dC, dI)) (ci := 11) (v := .int (v 46)) (C := RX11) (T := TX11) (N := 63) hx hb hts in_wsX11_act_X11 hown hK hP 0 rfl rfl 46 (by decide) (hts (.fieldLink RX11 205 "ShipOfficeModel" "taped" "I") iw_X11_act_3) (fun _ h9 => h9) rfl dX11_act_56 ?_
          refine lv_topi (fun x_23 ex_23 => ?_)
          have hx_23 : 0 ≤ x_23.toInt ∧ x_23.toInt ≤ 60 := iv_of ex_23 (gV 46)
          have gx_23 : x_23.toInt = (v 46).toInt := iv_to ex_23
          clear ex_23
          have hFc := va_free (wc := (mW g0 pq cp v fa)) hD hS hA (List.range 48) rfl
          refine va_calli (va_runV (As := [.int (-1), .int x_23]) (rest := []) ⟨hx, hb, hml, hown, hts⟩ (c_X11_goesThrough_f l dC dI H.size g0 pq cp v fa (-1) x_23 x_23.toNatClampNeg (cn_le (n := 60) (by omega)) (cn_eq (n := 60) (by omega)) (fa 44) (Or.inl ⟨by decide, fun _ _ => rfl⟩)) (cwV 2 hts gX11_act_X11_goesThrough rfl rfl rfl (by decide +kernel) ⟨(Nat.le_of_ble_eq_true rfl), (Nat.le_of_ble_eq_true rfl)⟩) (pr_V (r := (RX11, TX11, 63)) hP hK hD 0 11 rfl rfl) rfl rfl hl.1 rfl (lv_room (Nat.le_of_ble_eq_true rfl)) dX11_act_59 ⟨(Nat.le_of_ble_eq_true rfl), (Nat.le_of_ble_eq_true rfl)⟩) hS (fun q _ h => hFc q h) hFc (fun r_25 u t H locs ht hvm w_24 hB hz1 hk1 hS => ?_)
          obtain ⟨v_26, fa_27⟩ := u
          obtain ⟨hP1, hK1, hD1⟩ := hB
          rw [ht] at hP1
          have hP : va_P (dC, dI) vwCl (mW g0 pq cp v_26 fa_27) H := hP1
          have hD : va_D A (mW g0 pq cp v_26 fa_27) := hD1.weaken (fun _ _ _ h => hFc _ h)
          clear hP1 hK1 hD1 hk1 hz1 hvm ht hFc
          obtain ⟨w_24, hrv⟩ := w_24
          dsimp only at hrv
          rw [show x_23 = v 46 from Int32.toInt_inj.mp (by omega)] at hrv
          obtain ⟨hrv0, hrv1, hrv2, -⟩ := hrv
          have hrv3 := bI_01 (mvS (mL fa) (cI (fa 44) (v 46).toNatClampNeg) 5 0).2.1
          have hrv4 : (v 46).toNatClampNeg = (v 46).toInt.toNat := rfl
          obtain ⟨hr_28, efhr_28⟩ := w_24
          dsimp only at hr_28 efhr_28
          have hVv_26 : mV v_26 := rd_V gV hr_28
          have hAfa_27 : mA fa_27 := by rw [efhr_28]; exact gA
          have hr_28 := rd_R hr_28 efhr_28
          have g_29 : (v_26 38).toInt = (v 38).toInt := congrArg Int32.toInt (hr_28.1 38 rfl)
          have g_30 : (v_26 42).toInt = (v 42).toInt := congrArg Int32.toInt (hr_28.1 42 rfl)
          have g_31 : (v_26 46).toInt = (v 46).toInt := congrArg Int32.toInt (hr_28.1 46 rfl)
          have R_32 : mX [0, 16, 17, 18, 19, 42, 45, 46, 47, 48, 49, 50, 51, 52, 53, 54, 55, 56, 57, 58, 59, 60] v fa v_26 fa_27 := mX.st mX.rf (mX.scr hr_28) (by decide)
          refine lv_istore_n (lv' := [(3, .int r_25), (0, .ref g0), (1, .int x1), (2, .int x2)]) hx hb dX11_act_62 rfl hl (by decide) rfl (fun ls hl => ?_)
          refine lv_aload_n hx hb dX11_act_63 rfl (lv_at hl 1 rfl) ?_
          refine va_get (D := (dC, dI)) (ci := 11) (v := .int (v_26 51)) (C := RX11) (T := TX11) (N := 63) hx hb hts in_wsX11_act_X11 hown hK hP 0 rfl rfl 51 (by decide) (hts (.fieldLink RX11 223 "ShipOfficeModel" "isWell" "Z") iw_X11_act_4) (fun _ h9 => h9) rfl dX11_act_64 ?_
          refine lv_topi (fun x_33 ex_33 => ?_)
          have gx_33 : x_33.toInt = (v_26 51).toInt := iv_to ex_33
          clear ex_33
          refine lv_if_eq (tgt := 85) hx hb dX11_act_67 (by decide) (fun c_34 => ?_) (fun c_34 => ?_)
          · have dc_34 := c_eq (a := x_33.toInt) (b := 0) rfl (by decide) c_34
            refine lv_iconst (v := 0) hx hb dX11_act_85 (by decide) ?_
            refine lv_istore (lv' := [(4, .int 0), (3, .int r_25), (0, .ref g0), (1, .int x1), (2, .int x2)]) hx hb dX11_act_86 hl (by decide) rfl (fun ls hl => ?_)
            refine lv_aload_n hx hb dX11_act_88 rfl (lv_at hl 2 rfl) ?_
            refine va_get (D := (dC, dI)) (ci := 11) (v := .int (v_26 46)) (C := RX11) (T := TX11) (N := 63) hx hb hts in_wsX11_act_X11 hown hK hP 0 rfl rfl 46 (by decide) (hts (.fieldLink RX11 205 "ShipOfficeModel" "taped" "I") iw_X11_act_3) (fun _ h9 => h9) rfl dX11_act_89 ?_
            refine lv_topi (fun x_35 ex_35 => ?_)
            have hx_35 : 0 ≤ x_35.toInt ∧ x_35.toInt ≤ 60 := iv_of ex_35 (hVv_26 46)
            have gx_35 : x_35.toInt = (v_26 46).toInt := iv_to ex_35
            clear ex_35
            refine lv_istore (lv' := [(5, .int x_35), (4, .int 0), (3, .int r_25), (0, .ref g0), (1, .int x1), (2, .int x2)]) hx hb dX11_act_92 hl (by decide) rfl (fun ls hl => ?_)
            refine lv_aload_n hx hb dX11_act_94 rfl (lv_at hl 3 rfl) ?_
            refine lv_iconst (v := 0) hx hb dX11_act_95 (by decide) ?_
            refine va_put (D := (dC, dI)) (ci := 11) (v := .int 0) (ty := .int) (C := RX11) (T := TX11) (N := 63) hx hb hts in_wsX11_act_X11 tyX11 tyX11_ok nmX11 hown hK hP hD hS 0 rfl rfl 46 (by decide) (hts (.fieldLink RX11 205 "ShipOfficeModel" "taped" "I") iw_X11_act_3) (fun _ h9 => h9) rfl (by decide +kernel) rfl rfl (Nat.le_of_ble_eq_true rfl) dX11_act_96 (fun H locs hP hD hS => ?_)
            have hP : va_P (dC, dI) vwCl (mW g0 pq cp (upd v_26 46 0) fa_27) H := hP
            have hD : va_D A (mW g0 pq cp (upd v_26 46 0) fa_27) := hD
            obtain ⟨z_36, ez_36⟩ : ∃ zq, zq = (upd v_26 46 0) := ⟨_, rfl⟩
            rw [← ez_36] at hP hD
            have hVz_36 : mV z_36 := by rw [ez_36]; exact mV_upd (lo := 0) (hi := 60) hVv_26 rfl rfl (by decide)
            have hRz_36 : mX [0, 16, 17, 18, 19, 42, 45, 46, 47, 48, 49, 50, 51, 52, 53, 54, 55, 56, 57, 58, 59, 60] v fa z_36 fa_27 := by rw [ez_36]; exact mX.up R_32 (by decide)
            have g_37 : (z_36 38).toInt = (v_26 38).toInt := by rw [ez_36]; exact congrArg Int32.toInt (if_neg (by decide))
            have g_38 : (z_36 42).toInt = (v_26 42).toInt := by rw [ez_36]; exact congrArg Int32.toInt (if_neg (by decide))
            have g_39 : (z_36 46).toInt = 0 := by rw [ez_36, show upd v_26 46 0 46 = 0 from if_pos rfl]; decide
            have g_40 : (z_36 47).toInt = (v_26 47).toInt := by rw [ez_36]; exact congrArg Int32.toInt (if_neg (by decide))
            have g_41 : (z_36 51).toInt = (v_26 51).toInt := by rw [ez_36]; exact congrArg Int32.toInt (if_neg (by decide))
            refine lv_iload hx hb dX11_act_99 (lv_at hl 1 rfl) ?_
            refine lv_if_ne (tgt := 112) hx hb dX11_act_101 (by decide) (fun c_42 => absurd c_42 (by decide)) (fun _ => ?_)
            refine lv_bipush (v := (-20)) hx hb dX11_act_104 (by decide) ?_
            refine lv_aload_n hx hb dX11_act_106 rfl (lv_at hl 3 rfl) ?_
            refine va_get (D := (dC, dI)) (ci := 11) (v := .int (z_36 47)) (C := RX11) (T := TX11) (N := 63) hx hb hts in_wsX11_act_X11 hown hK hP 0 rfl rfl 47 (by decide) (hts (.fieldLink RX11 210 "ShipOfficeModel" "at" "I") iw_X11_act_5) (fun _ h9 => h9) rfl dX11_act_107 ?_
            refine lv_topi (fun x_43 ex_43 => ?_)
            have hx_43 : 0 ≤ x_43.toInt ∧ x_43.toInt ≤ 60 := iv_of ex_43 (by omega)
            have gx_43 : x_43.toInt = (z_36 47).toInt := iv_to ex_43
            clear ex_43
            refine lv_isub hx hb dX11_act_110 ?_
            refine lv_topi (fun x_44 ex_44 => ?_)
            have hx_44 : x_44.toInt = (-20) - x_43.toInt := (iv_to ex_44).trans (sb_i (by decide) rfl (by omega) (by omega))
            clear ex_44
            exact W.iret (v := x_44) hx hb hr (fun t ht hW => ⟨⟨x_44, (z_36, fa_27), rfl, ⟨hVz_36, hAfa_27, hRz_36, ⟨⟨(by unfold gac; dsimp only; have n0 : (v 46).toNatClampNeg = (v 46).toInt.toNat := rfl; refine Or.inr (Or.inr (Or.inr (Or.inl ?_))); omega), fun h => by exfalso; omega, (fun _ k _ => by dsimp only; rw [efhr_28])⟩, (Or.inr ⟨by omega, by first | exact (by rw [efhr_28]) | (dsimp only; exact (by rw [efhr_28]))⟩)⟩⟩, ⟨by rw [ht]; exact hP, va_K.moved hW.alike hK, hD⟩⟩, hS.F ht⟩) hS.2.2 dX11_act_111
          · have dc_34 := c_ne (a := x_33.toInt) (b := 0) rfl (by decide) c_34
            refine lv_aload_n hx hb dX11_act_70 rfl (lv_at hl 1 rfl) ?_
            refine va_get (D := (dC, dI)) (ci := 11) (v := .int (v_26 47)) (C := RX11) (T := TX11) (N := 63) hx hb hts in_wsX11_act_X11 hown hK hP 0 rfl rfl 47 (by decide) (hts (.fieldLink RX11 210 "ShipOfficeModel" "at" "I") iw_X11_act_5) (fun _ h9 => h9) rfl dX11_act_71 ?_
            refine lv_topi (fun x_45 ex_45 => ?_)
            have hx_45 : 0 ≤ x_45.toInt ∧ x_45.toInt ≤ 60 := iv_of ex_45 (by omega)
            have gx_45 : x_45.toInt = (v_26 47).toInt := iv_to ex_45
            clear ex_45
            refine lv_aload_n hx hb dX11_act_74 rfl (lv_at hl 1 rfl) ?_
            refine va_get (D := (dC, dI)) (ci := 11) (v := .int (v_26 46)) (C := RX11) (T := TX11) (N := 63) hx hb hts in_wsX11_act_X11 hown hK hP 0 rfl rfl 46 (by decide) (hts (.fieldLink RX11 205 "ShipOfficeModel" "taped" "I") iw_X11_act_3) (fun _ h9 => h9) rfl dX11_act_75 ?_
            refine lv_topi (fun x_46 ex_46 => ?_)
            have hx_46 : 0 ≤ x_46.toInt ∧ x_46.toInt ≤ 60 := iv_of ex_46 (hVv_26 46)
            have gx_46 : x_46.toInt = (v_26 46).toInt := iv_to ex_46
            clear ex_46
            refine lv_icmp_ne (tgt := 85) hx hb dX11_act_78 (by decide) (fun c_47 => ?_) (fun c_47 => ?_)
            · have dc_47 := c_ne (a := x_45.toInt) (b := x_46.toInt) rfl rfl c_47
              refine lv_iconst (v := 0) hx hb dX11_act_85 (by decide) ?_
              refine lv_istore (lv' := [(4, .int 0), (3, .int r_25), (0, .ref g0), (1, .int x1), (2, .int x2)]) hx hb dX11_act_86 hl (by decide) rfl (fun ls hl => ?_)
              refine lv_aload_n hx hb dX11_act_88 rfl (lv_at hl 2 rfl) ?_
              refine va_get (D := (dC, dI)) (ci := 11) (v := .int (v_26 46)) (C := RX11) (T := TX11) (N := 63) hx hb hts in_wsX11_act_X11 hown hK hP 0 rfl rfl 46 (by decide) (hts (.fieldLink RX11 205 "ShipOfficeModel" "taped" "I") iw_X11_act_3) (fun _ h9 => h9) rfl dX11_act_89 ?_
              refine lv_topi (fun x_48 ex_48 => ?_)
              have hx_48 : 0 ≤ x_48.toInt ∧ x_48.toInt ≤ 60 := iv_of ex_48 (hVv_26 46)
              have gx_48 : x_48.toInt = (v_26 46).toInt := iv_to ex_48
              clear ex_48
              refine lv_istore (lv' := [(5, .int x_48), (4, .int 0), (3, .int r_25), (0, .ref g0), (1, .int x1), (2, .int x2)]) hx hb dX11_act_92 hl (by decide) rfl (fun ls hl => ?_)
              refine lv_aload_n hx hb dX11_act_94 rfl (lv_at hl 3 rfl) ?_
              refine lv_iconst (v := 0) hx hb dX11_act_95 (by decide) ?_
              refine va_put (D := (dC, dI)) (ci := 11) (v := .int 0) (ty := .int) (C := RX11) (T := TX11) (N := 63) hx hb hts in_wsX11_act_X11 tyX11 tyX11_ok nmX11 hown hK hP hD hS 0 rfl rfl 46 (by decide) (hts (.fieldLink RX11 205 "ShipOfficeModel" "taped" "I") iw_X11_act_3) (fun _ h9 => h9) rfl (by decide +kernel) rfl rfl (Nat.le_of_ble_eq_true rfl) dX11_act_96 (fun H locs hP hD hS => ?_)
              have hP : va_P (dC, dI) vwCl (mW g0 pq cp (upd v_26 46 0) fa_27) H := hP
              have hD : va_D A (mW g0 pq cp (upd v_26 46 0) fa_27) := hD
              obtain ⟨z_49, ez_49⟩ : ∃ zq, zq = (upd v_26 46 0) := ⟨_, rfl⟩
              rw [← ez_49] at hP hD
              have hVz_49 : mV z_49 := by rw [ez_49]; exact mV_upd (lo := 0) (hi := 60) hVv_26 rfl rfl (by decide)
              have hRz_49 : mX [0, 16, 17, 18, 19, 42, 45, 46, 47, 48, 49, 50, 51, 52, 53, 54, 55, 56, 57, 58, 59, 60] v fa z_49 fa_27 := by rw [ez_49]; exact mX.up R_32 (by decide)
              have g_50 : (z_49 38).toInt = (v_26 38).toInt := by rw [ez_49]; exact congrArg Int32.toInt (if_neg (by decide))
              have g_51 : (z_49 42).toInt = (v_26 42).toInt := by rw [ez_49]; exact congrArg Int32.toInt (if_neg (by decide))
              have g_52 : (z_49 46).toInt = 0 := by rw [ez_49, show upd v_26 46 0 46 = 0 from if_pos rfl]; decide
              have g_53 : (z_49 47).toInt = (v_26 47).toInt := by rw [ez_49]; exact congrArg Int32.toInt (if_neg (by decide))
              have g_54 : (z_49 51).toInt = (v_26 51).toInt := by rw [ez_49]; exact congrArg Int32.toInt (if_neg (by decide))
              refine lv_iload hx hb dX11_act_99 (lv_at hl 1 rfl) ?_
              refine lv_if_ne (tgt := 112) hx hb dX11_act_101 (by decide) (fun c_55 => absurd c_55 (by decide)) (fun _ => ?_)
              refine lv_bipush (v := (-20)) hx hb dX11_act_104 (by decide) ?_
              refine lv_aload_n hx hb dX11_act_106 rfl (lv_at hl 3 rfl) ?_
              refine va_get (D := (dC, dI)) (ci := 11) (v := .int (z_49 47)) (C := RX11) (T := TX11) (N := 63) hx hb hts in_wsX11_act_X11 hown hK hP 0 rfl rfl 47 (by decide) (hts (.fieldLink RX11 210 "ShipOfficeModel" "at" "I") iw_X11_act_5) (fun _ h9 => h9) rfl dX11_act_107 ?_
              refine lv_topi (fun x_56 ex_56 => ?_)
              have hx_56 : 0 ≤ x_56.toInt ∧ x_56.toInt ≤ 60 := iv_of ex_56 (by omega)
              have gx_56 : x_56.toInt = (z_49 47).toInt := iv_to ex_56
              clear ex_56
              refine lv_isub hx hb dX11_act_110 ?_
              refine lv_topi (fun x_57 ex_57 => ?_)
              have hx_57 : x_57.toInt = (-20) - x_56.toInt := (iv_to ex_57).trans (sb_i (by decide) rfl (by omega) (by omega))
              clear ex_57
              exact W.iret (v := x_57) hx hb hr (fun t ht hW => ⟨⟨x_57, (z_49, fa_27), rfl, ⟨hVz_49, hAfa_27, hRz_49, ⟨⟨(by unfold gac; dsimp only; have n0 : (v 46).toNatClampNeg = (v 46).toInt.toNat := rfl; refine Or.inr (Or.inr (Or.inr (Or.inl ?_))); omega), fun h => by exfalso; omega, (fun _ k _ => by dsimp only; rw [efhr_28])⟩, (Or.inr ⟨by omega, by first | exact (by rw [efhr_28]) | (dsimp only; exact (by rw [efhr_28]))⟩)⟩⟩, ⟨by rw [ht]; exact hP, va_K.moved hW.alike hK, hD⟩⟩, hS.F ht⟩) hS.2.2 dX11_act_111
            · have dc_47 := c_eq (a := x_45.toInt) (b := x_46.toInt) rfl rfl c_47
              refine lv_iconst (v := 1) hx hb dX11_act_81 (by decide) ?_
              refine lv_goto (tgt := 86) hx hb dX11_act_82 (by decide) ?_
              refine lv_istore (lv' := [(4, .int 1), (3, .int r_25), (0, .ref g0), (1, .int x1), (2, .int x2)]) hx hb dX11_act_86 hl (by decide) rfl (fun ls hl => ?_)
              refine lv_aload_n hx hb dX11_act_88 rfl (lv_at hl 2 rfl) ?_
              refine va_get (D := (dC, dI)) (ci := 11) (v := .int (v_26 46)) (C := RX11) (T := TX11) (N := 63) hx hb hts in_wsX11_act_X11 hown hK hP 0 rfl rfl 46 (by decide) (hts (.fieldLink RX11 205 "ShipOfficeModel" "taped" "I") iw_X11_act_3) (fun _ h9 => h9) rfl dX11_act_89 ?_
              refine lv_topi (fun x_58 ex_58 => ?_)
              have hx_58 : 0 ≤ x_58.toInt ∧ x_58.toInt ≤ 60 := iv_of ex_58 (hVv_26 46)
              have gx_58 : x_58.toInt = (v_26 46).toInt := iv_to ex_58
              clear ex_58
              refine lv_istore (lv' := [(5, .int x_58), (4, .int 1), (3, .int r_25), (0, .ref g0), (1, .int x1), (2, .int x2)]) hx hb dX11_act_92 hl (by decide) rfl (fun ls hl => ?_)
              refine lv_aload_n hx hb dX11_act_94 rfl (lv_at hl 3 rfl) ?_
              refine lv_iconst (v := 0) hx hb dX11_act_95 (by decide) ?_
              refine va_put (D := (dC, dI)) (ci := 11) (v := .int 0) (ty := .int) (C := RX11) (T := TX11) (N := 63) hx hb hts in_wsX11_act_X11 tyX11 tyX11_ok nmX11 hown hK hP hD hS 0 rfl rfl 46 (by decide) (hts (.fieldLink RX11 205 "ShipOfficeModel" "taped" "I") iw_X11_act_3) (fun _ h9 => h9) rfl (by decide +kernel) rfl rfl (Nat.le_of_ble_eq_true rfl) dX11_act_96 (fun H locs hP hD hS => ?_)
              have hP : va_P (dC, dI) vwCl (mW g0 pq cp (upd v_26 46 0) fa_27) H := hP
              have hD : va_D A (mW g0 pq cp (upd v_26 46 0) fa_27) := hD
              obtain ⟨z_59, ez_59⟩ : ∃ zq, zq = (upd v_26 46 0) := ⟨_, rfl⟩
              rw [← ez_59] at hP hD
              have hVz_59 : mV z_59 := by rw [ez_59]; exact mV_upd (lo := 0) (hi := 60) hVv_26 rfl rfl (by decide)
              have hRz_59 : mX [0, 16, 17, 18, 19, 42, 45, 46, 47, 48, 49, 50, 51, 52, 53, 54, 55, 56, 57, 58, 59, 60] v fa z_59 fa_27 := by rw [ez_59]; exact mX.up R_32 (by decide)
              have g_60 : (z_59 38).toInt = (v_26 38).toInt := by rw [ez_59]; exact congrArg Int32.toInt (if_neg (by decide))
              have g_61 : (z_59 42).toInt = (v_26 42).toInt := by rw [ez_59]; exact congrArg Int32.toInt (if_neg (by decide))
              have g_62 : (z_59 46).toInt = 0 := by rw [ez_59, show upd v_26 46 0 46 = 0 from if_pos rfl]; decide
              have g_63 : (z_59 47).toInt = (v_26 47).toInt := by rw [ez_59]; exact congrArg Int32.toInt (if_neg (by decide))
              have g_64 : (z_59 51).toInt = (v_26 51).toInt := by rw [ez_59]; exact congrArg Int32.toInt (if_neg (by decide))
              refine lv_iload hx hb dX11_act_99 (lv_at hl 1 rfl) ?_
              refine lv_if_ne (tgt := 112) hx hb dX11_act_101 (by decide) (fun _ => ?_) (fun c_65 => absurd c_65 (by decide))
              refine lv_iconst (v := 0) hx hb dX11_act_112 (by decide) ?_
              refine lv_istore (lv' := [(6, .int 0), (5, .int x_58), (4, .int 1), (3, .int r_25), (0, .ref g0), (1, .int x1), (2, .int x2)]) hx hb dX11_act_113 hl (by decide) rfl (fun ls hl => ?_)
              have cut_66 : ∀ (n : Nat) (y_67 : Int32) (z_68 : Nat → Int32) (fz_69 : Nat → Nat → Int32) (H : Heap) (locs : List Loc) (ls : Array Slot), 60 - y_67.toInt ≤ (n : Int) → (0 ≤ y_67.toInt ∧ y_67.toInt ≤ 60) → txI fa fz_69 (v 42).toNatClampNeg y_67.toNatClampNeg → smT fa fz_69 → y_67.toInt ≤ (v 46).toInt → fz_69 0 = fa 0 → mV z_68 → mA fz_69 → mX [0, 16, 17, 18, 19, 42, 45, 46, 47, 48, 49, 50, 51, 52, 53, 54, 55, 56, 57, 58, 59, 60] v fa z_68 fz_69 → va_P (dC, dI) vwCl (mW g0 pq cp z_68 fz_69) H → va_D A (mW g0 pq cp z_68 fz_69) → va_S A s.heap H locs → (z_68 38).toInt = (z_59 38).toInt → (z_68 42).toInt = (z_59 42).toInt → (z_68 46).toInt = (z_59 46).toInt → (z_68 47).toInt = (z_59 47).toInt → (z_68 51).toInt = (z_59 51).toInt → lv_has ls 7 [(6, .int y_67), (5, .int x_58), (4, .int 1), (3, .int r_25), (0, .ref g0), (1, .int x1), (2, .int x2)] → W p l e (headSpec wsX11_act { frames := 20, cells := 0, slots := 0, locals := 463 }).room s m #[Value.ref g0, Value.int x1, Value.int x2] below meth c H locs 0 0 (MQ below (va_Qi (fun (r : Int32) (u : (Nat → Int32) × (Nat → Nat → Int32)) => mV u.1 ∧ mA u.2 ∧ mX [0, 16, 17, 18, 19, 42, 45, 46, 47, 48, 49, 50, 51, 52, 53, 54, 55, 56, 57, 58, 59, 60] v fa u.1 u.2 ∧ ((gac (v 38).toInt (v 42).toInt (v 46).toInt x1.toInt x2.toInt ((mvS (mL fa) (cI (fa 44) (v 46).toNatClampNeg) 5 0).1 : Int) (bI (mvS (mL fa) (cI (fa 44) (v 46).toNatClampNeg) 5 0).2.1) r.toInt (u.1 42).toInt (u.1 46).toInt ∧ (1 ≤ r.toInt → acM v fa x1 x2 u) ∧ (r.toInt < 1 → ∀ k ∈ [19, 16, 17, 18], u.2 k = fa k)) ∧ rZr v fa u r (-7 < r.toInt ∧ r.toInt < 0))) (fun u t => va_P (dC, dI) vwCl (mW g0 pq cp u.1 u.2) t.heap ∧ va_K (dC, dI) vwCl (mT cp) t ∧ va_D A (mW g0 pq cp u.1 u.2)) A) #[Value.ref g0, Value.int x1, Value.int x2] s 0 0 A) (F0 m 115 ls []) := by
                intro n
                induction n using Nat.strongRecOn with
                | ind n ih =>
                  intro y_67 z_68 fz_69 H locs ls hm hy_67 hq0_cut_66 hq1_cut_66 hq2_cut_66 hq3_cut_66 hVz_68 hAz_68 hRz_68 hP hD hS g_70 g_71 g_72 g_73 g_74 hl
                  refine lv_iload hx hb dX11_act_115 (lv_at hl 0 rfl) ?_
                  refine lv_iload hx hb dX11_act_117 (lv_at hl 1 rfl) ?_
                  refine lv_icmp_ge (tgt := 150) hx hb dX11_act_119 (by decide) (fun c_75 => ?_) (fun c_75 => ?_)
                  · have dc_75 := c_le (a := x_58.toInt) (b := y_67.toInt) rfl rfl c_75
                    refine lv_aload_n hx hb dX11_act_150 rfl (lv_at hl 4 rfl) ?_
                    refine va_get (D := (dC, dI)) (ci := 11) (v := .ref (pq 16)) (C := RX11) (T := TX11) (N := 63) hx hb hts in_wsX11_act_X11 hown hK hP 0 rfl rfl 16 (by decide) (hts (.fieldLink RX11 58 "ShipOfficeModel" "textSize" "[I") iw_X11_act_6) (fun _ h9 => h9) rfl dX11_act_151 ?_
                    refine lv_aload_n hx hb dX11_act_154 rfl (lv_at hl 4 rfl) ?_
                    refine va_get (D := (dC, dI)) (ci := 11) (v := .int (z_68 42)) (C := RX11) (T := TX11) (N := 63) hx hb hts in_wsX11_act_X11 hown hK hP 0 rfl rfl 42 (by decide) (hts (.fieldLink RX11 256 "ShipOfficeModel" "acts" "I") iw_X11_act_2) (fun _ h9 => h9) rfl dX11_act_155 ?_
                    refine lv_topi (fun x_76 ex_76 => ?_)
                    have hx_76 : 0 ≤ x_76.toInt ∧ x_76.toInt ≤ 30 := iv_of ex_76 (hVz_68 42)
                    have gx_76 : x_76.toInt = (z_68 42).toInt := iv_to ex_76
                    clear ex_76
                    refine lv_iload hx hb dX11_act_158 (lv_at hl 1 rfl) ?_
                    refine va_iast hx hb hK hP hD hS 17 16 rfl rfl (vp_in_iff.mpr (by omega)) dX11_act_160 (fun H locs hP hD hS => ?_)
                    have hP : va_P (dC, dI) vwCl (mW g0 pq cp z_68 (upF fz_69 16 (x_76 : Int32).toNatClampNeg x_58)) H := hP
                    have hD : va_D A (mW g0 pq cp z_68 (upF fz_69 16 (x_76 : Int32).toNatClampNeg x_58)) := hD
                    obtain ⟨fz_77, efz_77⟩ : ∃ zq, zq = (upF fz_69 16 (x_76 : Int32).toNatClampNeg x_58) := ⟨_, rfl⟩
                    rw [← efz_77] at hP hD
                    have hAfz_77 : mA fz_77 := by rw [efz_77]; exact mA_upF (lo := 0) (hi := 60) hAz_68 rfl rfl (by omega)
                    have hRfz_77 : mX [0, 16, 17, 18, 19, 42, 45, 46, 47, 48, 49, 50, 51, 52, 53, 54, 55, 56, 57, 58, 59, 60] v fa z_68 fz_77 := by rw [efz_77]; exact mX.uF hRz_68 (by decide)
                    have q0_78 : fz_77 0 = fa 0 := by rw [efz_77]; exact (if_neg (by decide)).trans hq3_cut_66
                    refine lv_aload_n hx hb dX11_act_161 rfl (lv_at hl 4 rfl) ?_
                    refine va_get (D := (dC, dI)) (ci := 11) (v := .ref (pq 17)) (C := RX11) (T := TX11) (N := 63) hx hb hts in_wsX11_act_X11 hown hK hP 0 rfl rfl 17 (by decide) (hts (.fieldLink RX11 61 "ShipOfficeModel" "purpose" "[I") iw_X11_act_7) (fun _ h9 => h9) rfl dX11_act_162 ?_
                    refine lv_aload_n hx hb dX11_act_165 rfl (lv_at hl 4 rfl) ?_
                    refine va_get (D := (dC, dI)) (ci := 11) (v := .int (z_68 42)) (C := RX11) (T := TX11) (N := 63) hx hb hts in_wsX11_act_X11 hown hK hP 0 rfl rfl 42 (by decide) (hts (.fieldLink RX11 256 "ShipOfficeModel" "acts" "I") iw_X11_act_2) (fun _ h9 => h9) rfl dX11_act_166 ?_
                    refine lv_topi (fun x_79 ex_79 => ?_)
                    have hx_79 : 0 ≤ x_79.toInt ∧ x_79.toInt ≤ 30 := iv_of ex_79 (hVz_68 42)
                    have gx_79 : x_79.toInt = (z_68 42).toInt := iv_to ex_79
                    clear ex_79
                    refine lv_iload_n hx hb dX11_act_169 rfl (lv_at hl 5 rfl) ?_
                    refine va_iast hx hb hK hP hD hS 18 17 rfl rfl (vp_in_iff.mpr (by omega)) dX11_act_170 (fun H locs hP hD hS => ?_)
                    have hP : va_P (dC, dI) vwCl (mW g0 pq cp z_68 (upF fz_77 17 (x_79 : Int32).toNatClampNeg x1)) H := hP
                    have hD : va_D A (mW g0 pq cp z_68 (upF fz_77 17 (x_79 : Int32).toNatClampNeg x1)) := hD
                    obtain ⟨fz_80, efz_80⟩ : ∃ zq, zq = (upF fz_77 17 (x_79 : Int32).toNatClampNeg x1) := ⟨_, rfl⟩
                    rw [← efz_80] at hP hD
                    have hAfz_80 : mA fz_80 := by rw [efz_80]; exact mA_upF (lo := -2147483648) (hi := 2147483647) hAfz_77 rfl rfl (iv_all _)
                    have hRfz_80 : mX [0, 16, 17, 18, 19, 42, 45, 46, 47, 48, 49, 50, 51, 52, 53, 54, 55, 56, 57, 58, 59, 60] v fa z_68 fz_80 := by rw [efz_80]; exact mX.uF hRfz_77 (by decide)
                    have q0_81 : fz_80 0 = fa 0 := by rw [efz_80]; exact (if_neg (by decide)).trans q0_78
                    refine lv_aload_n hx hb dX11_act_171 rfl (lv_at hl 4 rfl) ?_
                    refine va_get (D := (dC, dI)) (ci := 11) (v := .ref (pq 18)) (C := RX11) (T := TX11) (N := 63) hx hb hts in_wsX11_act_X11 hown hK hP 0 rfl rfl 18 (by decide) (hts (.fieldLink RX11 64 "ShipOfficeModel" "from" "[I") iw_X11_act_8) (fun _ h9 => h9) rfl dX11_act_172 ?_
                    refine lv_aload_n hx hb dX11_act_175 rfl (lv_at hl 4 rfl) ?_
                    refine va_get (D := (dC, dI)) (ci := 11) (v := .int (z_68 42)) (C := RX11) (T := TX11) (N := 63) hx hb hts in_wsX11_act_X11 hown hK hP 0 rfl rfl 42 (by decide) (hts (.fieldLink RX11 256 "ShipOfficeModel" "acts" "I") iw_X11_act_2) (fun _ h9 => h9) rfl dX11_act_176 ?_
                    refine lv_topi (fun x_82 ex_82 => ?_)
                    have hx_82 : 0 ≤ x_82.toInt ∧ x_82.toInt ≤ 30 := iv_of ex_82 (hVz_68 42)
                    have gx_82 : x_82.toInt = (z_68 42).toInt := iv_to ex_82
                    clear ex_82
                    refine lv_iload_n hx hb dX11_act_179 rfl (lv_at hl 6 rfl) ?_
                    refine va_iast hx hb hK hP hD hS 19 18 rfl rfl (vp_in_iff.mpr (by omega)) dX11_act_180 (fun H locs hP hD hS => ?_)
                    have hP : va_P (dC, dI) vwCl (mW g0 pq cp z_68 (upF fz_80 18 (x_82 : Int32).toNatClampNeg x2)) H := hP
                    have hD : va_D A (mW g0 pq cp z_68 (upF fz_80 18 (x_82 : Int32).toNatClampNeg x2)) := hD
                    obtain ⟨fz_83, efz_83⟩ : ∃ zq, zq = (upF fz_80 18 (x_82 : Int32).toNatClampNeg x2) := ⟨_, rfl⟩
                    rw [← efz_83] at hP hD
                    have hAfz_83 : mA fz_83 := by rw [efz_83]; exact mA_upF (lo := -2147483648) (hi := 2147483647) hAfz_80 rfl rfl (iv_all _)
                    have hRfz_83 : mX [0, 16, 17, 18, 19, 42, 45, 46, 47, 48, 49, 50, 51, 52, 53, 54, 55, 56, 57, 58, 59, 60] v fa z_68 fz_83 := by rw [efz_83]; exact mX.uF hRfz_80 (by decide)
                    have q0_84 : fz_83 0 = fa 0 := by rw [efz_83]; exact (if_neg (by decide)).trans q0_81
                    refine lv_aload_n hx hb dX11_act_181 rfl (lv_at hl 4 rfl) ?_
                    refine lv_dup hx hb dX11_act_182 rfl ?_
                    refine va_get (D := (dC, dI)) (ci := 11) (v := .int (z_68 42)) (C := RX11) (T := TX11) (N := 63) hx hb hts in_wsX11_act_X11 hown hK hP 0 rfl rfl 42 (by decide) (hts (.fieldLink RX11 256 "ShipOfficeModel" "acts" "I") iw_X11_act_2) (fun _ h9 => h9) rfl dX11_act_183 ?_
                    refine lv_topi (fun x_85 ex_85 => ?_)
                    have hx_85 : 0 ≤ x_85.toInt ∧ x_85.toInt ≤ 30 := iv_of ex_85 (hVz_68 42)
                    have gx_85 : x_85.toInt = (z_68 42).toInt := iv_to ex_85
                    clear ex_85
                    refine lv_iconst (v := 1) hx hb dX11_act_186 (by decide) ?_
                    refine lv_iadd hx hb dX11_act_187 ?_
                    refine lv_topi (fun x_86 ex_86 => ?_)
                    have hx_86 : x_86.toInt = x_85.toInt + 1 := (iv_to ex_86).trans (ad_i rfl (by decide) (by omega) (by omega))
                    clear ex_86
                    refine va_put (D := (dC, dI)) (ci := 11) (v := .int x_86) (ty := .int) (C := RX11) (T := TX11) (N := 63) hx hb hts in_wsX11_act_X11 tyX11 tyX11_ok nmX11 hown hK hP hD hS 0 rfl rfl 42 (by decide) (hts (.fieldLink RX11 256 "ShipOfficeModel" "acts" "I") iw_X11_act_2) (fun _ h9 => h9) rfl (by decide +kernel) rfl rfl (Nat.le_of_ble_eq_true rfl) dX11_act_188 (fun H locs hP hD hS => ?_)
                    have hP : va_P (dC, dI) vwCl (mW g0 pq cp (upd z_68 42 x_86) fz_83) H := hP
                    have hD : va_D A (mW g0 pq cp (upd z_68 42 x_86) fz_83) := hD
                    obtain ⟨z_87, ez_87⟩ : ∃ zq, zq = (upd z_68 42 x_86) := ⟨_, rfl⟩
                    rw [← ez_87] at hP hD
                    have hVz_87 : mV z_87 := by rw [ez_87]; exact mV_upd (lo := 0) (hi := 30) hVz_68 rfl rfl (by omega)
                    have hRz_87 : mX [0, 16, 17, 18, 19, 42, 45, 46, 47, 48, 49, 50, 51, 52, 53, 54, 55, 56, 57, 58, 59, 60] v fa z_87 fz_83 := by rw [ez_87]; exact mX.up hRfz_83 (by decide)
                    have g_88 : (z_87 38).toInt = (z_68 38).toInt := by rw [ez_87]; exact congrArg Int32.toInt (if_neg (by decide))
                    have g_89 : (z_87 42).toInt = x_86.toInt := by rw [ez_87, show upd z_68 42 x_86 42 = x_86 from if_pos rfl]
                    have g_90 : (z_87 46).toInt = (z_68 46).toInt := by rw [ez_87]; exact congrArg Int32.toInt (if_neg (by decide))
                    have g_91 : (z_87 47).toInt = (z_68 47).toInt := by rw [ez_87]; exact congrArg Int32.toInt (if_neg (by decide))
                    have g_92 : (z_87 51).toInt = (z_68 51).toInt := by rw [ez_87]; exact congrArg Int32.toInt (if_neg (by decide))
                    refine lv_aload_n hx hb dX11_act_191 rfl (lv_at hl 4 rfl) ?_
                    refine va_get (D := (dC, dI)) (ci := 11) (v := .int (z_87 42)) (C := RX11) (T := TX11) (N := 63) hx hb hts in_wsX11_act_X11 hown hK hP 0 rfl rfl 42 (by decide) (hts (.fieldLink RX11 256 "ShipOfficeModel" "acts" "I") iw_X11_act_2) (fun _ h9 => h9) rfl dX11_act_192 ?_
                    refine lv_topi (fun x_93 ex_93 => ?_)
                    have hx_93 : 0 ≤ x_93.toInt ∧ x_93.toInt ≤ 30 := iv_of ex_93 (hVz_87 42)
                    have gx_93 : x_93.toInt = (z_87 42).toInt := iv_to ex_93
                    clear ex_93
                    exact W.iret (v := x_93) hx hb hr (fun t ht hW => ⟨⟨x_93, (z_87, fz_83), rfl, ⟨hVz_87, hAfz_83, hRz_87, ⟨⟨(by unfold gac; dsimp only; have n0 : (v 46).toNatClampNeg = (v 46).toInt.toNat := rfl; refine Or.inr (Or.inr (Or.inr (Or.inr ?_))); omega), fun _ => ⟨(by dsimp only; rw [efz_83, efz_80, efz_77, show x_76 = v 42 from Int32.toInt_inj.mp (by omega), show x_58 = v 46 from Int32.toInt_inj.mp (by omega)]; exact congrArg (fun f => upd f _ _) hq1_cut_66.1), (by dsimp only; rw [efz_83, efz_80, efz_77, show x_79 = v 42 from Int32.toInt_inj.mp (by omega)]; exact congrArg (fun f => upd f _ _) hq1_cut_66.2.1), (by dsimp only; rw [efz_83, efz_80, efz_77, show x_82 = v 42 from Int32.toInt_inj.mp (by omega)]; exact congrArg (fun f => upd f _ _) hq1_cut_66.2.2.1), (by dsimp only; have g := hq0_cut_66; rw [show y_67.toNatClampNeg = (v 46).toNatClampNeg from (show y_67.toInt.toNat = (v 46).toInt.toNat by omega)] at g; rw [efz_83, efz_80, efz_77]; exact g)⟩, fun h => by exfalso; omega⟩, (Or.inr ⟨by omega, by first | exact q0_84 | (dsimp only; exact q0_84)⟩)⟩⟩, ⟨by rw [ht]; exact hP, va_K.moved hW.alike hK, hD⟩⟩, hS.F ht⟩) hS.2.2 dX11_act_195
                  · have dc_75 := c_nle (a := x_58.toInt) (b := y_67.toInt) rfl rfl c_75
                    refine lv_aload_n hx hb dX11_act_122 rfl (lv_at hl 4 rfl) ?_
                    refine va_get (D := (dC, dI)) (ci := 11) (v := .ref (pq 19)) (C := RX11) (T := TX11) (N := 63) hx hb hts in_wsX11_act_X11 hown hK hP 0 rfl rfl 19 (by decide) (hts (.fieldLink RX11 67 "ShipOfficeModel" "text" "[I") iw_X11_act_9) (fun _ h9 => h9) rfl dX11_act_123 ?_
                    refine lv_bipush (v := 60) hx hb dX11_act_126 (by decide) ?_
                    refine lv_aload_n hx hb dX11_act_128 rfl (lv_at hl 4 rfl) ?_
                    refine va_get (D := (dC, dI)) (ci := 11) (v := .int (z_68 42)) (C := RX11) (T := TX11) (N := 63) hx hb hts in_wsX11_act_X11 hown hK hP 0 rfl rfl 42 (by decide) (hts (.fieldLink RX11 256 "ShipOfficeModel" "acts" "I") iw_X11_act_2) (fun _ h9 => h9) rfl dX11_act_129 ?_
                    refine lv_topi (fun x_94 ex_94 => ?_)
                    have hx_94 : 0 ≤ x_94.toInt ∧ x_94.toInt ≤ 30 := iv_of ex_94 (hVz_68 42)
                    have gx_94 : x_94.toInt = (z_68 42).toInt := iv_to ex_94
                    clear ex_94
                    refine lv_imul hx hb dX11_act_132 ?_
                    refine lv_topi (fun x_95 ex_95 => ?_)
                    have hx_95 : x_95.toInt = 60 * x_94.toInt := (iv_to ex_95).trans (mu_i (by decide) rfl (by omega) (by omega))
                    clear ex_95
                    refine lv_iload hx hb dX11_act_133 (lv_at hl 0 rfl) ?_
                    refine lv_iadd hx hb dX11_act_135 ?_
                    refine lv_topi (fun x_96 ex_96 => ?_)
                    have hx_96 : x_96.toInt = x_95.toInt + y_67.toInt := (iv_to ex_96).trans (ad_i rfl rfl (by omega) (by omega))
                    clear ex_96
                    refine lv_aload_n hx hb dX11_act_136 rfl (lv_at hl 4 rfl) ?_
                    refine va_get (D := (dC, dI)) (ci := 11) (v := .ref (pq 44)) (C := RX11) (T := TX11) (N := 63) hx hb hts in_wsX11_act_X11 hown hK hP 0 rfl rfl 44 (by decide) (hts (.fieldLink RX11 125 "ShipOfficeModel" "tape" "[I") iw_X11_act_10) (fun _ h9 => h9) rfl dX11_act_137 ?_
                    refine lv_iload hx hb dX11_act_140 (lv_at hl 0 rfl) ?_
                    refine va_iald hx hb hK hP 39 38 rfl rfl (vp_in_iff.mpr (by omega)) dX11_act_142 ?_
                    refine lv_topi (fun x_97 ex_97 => ?_)
                    have gx_97 : x_97.toInt = (fz_69 44 (y_67 : Int32).toNatClampNeg).toInt := iv_to ex_97
                    clear ex_97
                    refine va_iast hx hb hK hP hD hS 20 19 rfl rfl (vp_in_iff.mpr (by omega)) dX11_act_143 (fun H locs hP hD hS => ?_)
                    have hP : va_P (dC, dI) vwCl (mW g0 pq cp z_68 (upF fz_69 19 (x_96 : Int32).toNatClampNeg x_97)) H := hP
                    have hD : va_D A (mW g0 pq cp z_68 (upF fz_69 19 (x_96 : Int32).toNatClampNeg x_97)) := hD
                    obtain ⟨fz_98, efz_98⟩ : ∃ zq, zq = (upF fz_69 19 (x_96 : Int32).toNatClampNeg x_97) := ⟨_, rfl⟩
                    rw [← efz_98] at hP hD
                    have hAfz_98 : mA fz_98 := by rw [efz_98]; exact mA_upF (lo := -2147483648) (hi := 2147483647) hAz_68 rfl rfl (iv_all _)
                    have hRfz_98 : mX [0, 16, 17, 18, 19, 42, 45, 46, 47, 48, 49, 50, 51, 52, 53, 54, 55, 56, 57, 58, 59, 60] v fa z_68 fz_98 := by rw [efz_98]; exact mX.uF hRz_68 (by decide)
                    have g_99 : (fz_98 44 (y_67 : Int32).toNatClampNeg).toInt = (fz_69 44 (y_67 : Int32).toNatClampNeg).toInt := by rw [efz_98]; exact uF_ne (by decide)
                    have q0_100 : fz_98 0 = fa 0 := by rw [efz_98]; exact (if_neg (by decide)).trans hq3_cut_66
                    obtain ⟨x_101, ex_101⟩ : ∃ zq : Int32, y_67 + 1 = zq := ⟨_, rfl⟩
                    have hx_101 : x_101.toInt = y_67.toInt + 1 := (iv_to ex_101).symm.trans (ad_i rfl (by decide) (by omega) (by omega))
                    refine lv_iinc (v := x_101) (lv' := [(6, .int x_101), (5, .int x_58), (4, .int 1), (3, .int r_25), (0, .ref g0), (1, .int x1), (2, .int x2)]) hx hb dX11_act_144 hl (k := 0) rfl ex_101 (by decide) rfl (fun ls hl => ?_)
                    clear ex_101
                    refine lv_goto (tgt := 115) hx hb dX11_act_147 (by decide) ?_
                    exact ih (n - 1) (by omega) x_101 z_68 fz_98 _ _ ls (by omega) (by omega) (txI_s hq0_cut_66 (by rw [efz_98]; exact if_pos rfl) (by have n5 := tn_i (x := v 42) (by omega); omega) ((Int32.toInt_inj.mp gx_97).trans (congrFun hq1_cut_66.2.2.2 _)) (by omega) (by omega)) (smT_s hq1_cut_66 efz_98) (by omega) q0_100 hVz_68 hAfz_98 hRfz_98 hP hD hS (by omega) (by omega) (by omega) (by omega) (by omega) (lv_sub hl [0, 1, 2, 3, 4, 5, 6] rfl)
              have kc_102 : (0 : Int32).toInt = 0 := by decide
              exact cut_66 61 0 z_59 fa_27 _ _ ls (by omega) (by decide) (txI_0 efhr_28 (by decide)) (by rw [efhr_28]; exact ⟨rfl, rfl, rfl, rfl⟩) (by have rc : (0 : Int32).toInt = 0 := (by decide); omega) (by rw [efhr_28]) hVz_59 hAfa_27 hRz_59 hP hD hS (by omega) (by omega) (by omega) (by omega) (by omega) (lv_sub hl [0, 1, 2, 3, 4, 5, 6] rfl)
        · have dc_22 := c_eq (a := x_21.toInt) (b := 30) rfl (by decide) c_22
          refine lv_aload_n hx hb dX11_act_46 rfl (lv_at hl 0 rfl) ?_
          refine lv_bipush (v := (-6)) hx hb dX11_act_47 (by decide) ?_
          have hFc := va_free (wc := (mW g0 pq cp v fa)) hD hS hA (List.range 48) rfl
          refine va_calli (va_runV (As := [.int (-6)]) (rest := []) ⟨hx, hb, hml, hown, hts⟩ (c_X11_refuse_f l dC dI H.size g0 pq cp v fa (-6) (by unfold vp_in; decide)) (cwV 1 hts gX11_act_X11_refuse rfl rfl rfl (by decide +kernel) ⟨(Nat.le_of_ble_eq_true rfl), (Nat.le_of_ble_eq_true rfl)⟩) (pr_V (r := (RX11, TX11, 63)) hP hK hD 0 11 rfl rfl) rfl rfl hl.1 rfl (lv_room (Nat.le_of_ble_eq_true rfl)) dX11_act_49 ⟨(Nat.le_of_ble_eq_true rfl), (Nat.le_of_ble_eq_true rfl)⟩) hS (fun q _ h => hFc q h) hFc (fun r_104 u t H locs ht hvm w_103 hB hz1 hk1 hS => ?_)
          obtain ⟨v_105, fa_106⟩ := u
          obtain ⟨hP1, hK1, hD1⟩ := hB
          rw [ht] at hP1
          have hP : va_P (dC, dI) vwCl (mW g0 pq cp v_105 fa_106) H := hP1
          have hD : va_D A (mW g0 pq cp v_105 fa_106) := hD1.weaken (fun _ _ _ h => hFc _ h)
          clear hP1 hK1 hD1 hk1 hz1 hvm ht hFc
          obtain ⟨rfl, hs1_107⟩ := w_103
          have hVv_105 : mV v_105 := sm0_V (sm1_0 hs1_107) gV
          have hAv_105 : mA fa_106 := sm0_A (sm1_0 hs1_107) gA
          have g_108 : (v_105 38).toInt = (v 38).toInt := congrArg Int32.toInt (congrFun hs1_107.1 38)
          have g_109 : (v_105 42).toInt = (v 42).toInt := congrArg Int32.toInt (congrFun hs1_107.1 42)
          have g_110 : (v_105 46).toInt = (v 46).toInt := congrArg Int32.toInt (congrFun hs1_107.1 46)
          have g_111 : (v_105 47).toInt = (v 47).toInt := congrArg Int32.toInt (congrFun hs1_107.1 47)
          have g_112 : (v_105 51).toInt = (v 51).toInt := congrArg Int32.toInt (congrFun hs1_107.1 51)
          have hRv_105 : mX [0, 16, 17, 18, 19, 42, 45, 46, 47, 48, 49, 50, 51, 52, 53, 54, 55, 56, 57, 58, 59, 60] v fa v_105 fa_106 := mX.st mX.rf (mX.s0 (sm1_0 hs1_107)) (by decide)
          exact W.iret (v := (-6)) hx hb hr (fun t ht hW => ⟨⟨(-6), (v_105, fa_106), rfl, ⟨hVv_105, hAv_105, hRv_105, ⟨⟨(by unfold gac; dsimp only; have n0 : (v 46).toNatClampNeg = (v 46).toInt.toNat := rfl; have h0 : ((-6) : Int32).toInt = -6 := (by decide); refine Or.inr (Or.inr (Or.inl ?_)); omega), fun h => by have h0 : ((-6) : Int32).toInt = -6 := (by decide); exfalso; omega, (fun _ k hk => (sm1_0 hs1_107).2 k (by revert k; decide))⟩, (Or.inl ⟨by have rc : ((-6) : Int32).toInt = -6 := (by decide); omega, sm2_1 hs1_107⟩)⟩⟩, ⟨by rw [ht]; exact hP, va_K.moved hW.alike hK, hD⟩⟩, hS.F ht⟩) hS.2.2 dX11_act_52
    · have dc_9 := c_nle (a := x_8.toInt) (b := x2.toInt) rfl rfl c_9
      refine lv_aload_n hx hb dX11_act_23 rfl (lv_at hl 0 rfl) ?_
      refine lv_bipush (v := (-4)) hx hb dX11_act_24 (by decide) ?_
      have hFc := va_free (wc := (mW g0 pq cp v fa)) hD hS hA (List.range 48) rfl
      refine va_calli (va_runV (As := [.int (-4)]) (rest := []) ⟨hx, hb, hml, hown, hts⟩ (c_X11_refuse_f l dC dI H.size g0 pq cp v fa (-4) (by unfold vp_in; decide)) (cwV 1 hts gX11_act_X11_refuse rfl rfl rfl (by decide +kernel) ⟨(Nat.le_of_ble_eq_true rfl), (Nat.le_of_ble_eq_true rfl)⟩) (pr_V (r := (RX11, TX11, 63)) hP hK hD 0 11 rfl rfl) rfl rfl hl.1 rfl (lv_room (Nat.le_of_ble_eq_true rfl)) dX11_act_26 ⟨(Nat.le_of_ble_eq_true rfl), (Nat.le_of_ble_eq_true rfl)⟩) hS (fun q _ h => hFc q h) hFc (fun r_114 u t H locs ht hvm w_113 hB hz1 hk1 hS => ?_)
      obtain ⟨v_115, fa_116⟩ := u
      obtain ⟨hP1, hK1, hD1⟩ := hB
      rw [ht] at hP1
      have hP : va_P (dC, dI) vwCl (mW g0 pq cp v_115 fa_116) H := hP1
      have hD : va_D A (mW g0 pq cp v_115 fa_116) := hD1.weaken (fun _ _ _ h => hFc _ h)
      clear hP1 hK1 hD1 hk1 hz1 hvm ht hFc
      obtain ⟨rfl, hs1_117⟩ := w_113
      have hVv_115 : mV v_115 := sm0_V (sm1_0 hs1_117) gV
      have hAv_115 : mA fa_116 := sm0_A (sm1_0 hs1_117) gA
      have g_118 : (v_115 38).toInt = (v 38).toInt := congrArg Int32.toInt (congrFun hs1_117.1 38)
      have g_119 : (v_115 42).toInt = (v 42).toInt := congrArg Int32.toInt (congrFun hs1_117.1 42)
      have g_120 : (v_115 46).toInt = (v 46).toInt := congrArg Int32.toInt (congrFun hs1_117.1 46)
      have g_121 : (v_115 47).toInt = (v 47).toInt := congrArg Int32.toInt (congrFun hs1_117.1 47)
      have g_122 : (v_115 51).toInt = (v 51).toInt := congrArg Int32.toInt (congrFun hs1_117.1 51)
      have hRv_115 : mX [0, 16, 17, 18, 19, 42, 45, 46, 47, 48, 49, 50, 51, 52, 53, 54, 55, 56, 57, 58, 59, 60] v fa v_115 fa_116 := mX.st mX.rf (mX.s0 (sm1_0 hs1_117)) (by decide)
      exact W.iret (v := (-4)) hx hb hr (fun t ht hW => ⟨⟨(-4), (v_115, fa_116), rfl, ⟨hVv_115, hAv_115, hRv_115, ⟨⟨(by unfold gac; dsimp only; have n0 : (v 46).toNatClampNeg = (v 46).toInt.toNat := rfl; have h0 : ((-4) : Int32).toInt = -4 := (by decide); refine Or.inr (Or.inl ?_); omega), fun h => by have h0 : ((-4) : Int32).toInt = -4 := (by decide); exfalso; omega, (fun _ k hk => (sm1_0 hs1_117).2 k (by revert k; decide))⟩, (Or.inl ⟨by have rc : ((-4) : Int32).toInt = -4 := (by decide); omega, sm2_1 hs1_117⟩)⟩⟩, ⟨by rw [ht]; exact hP, va_K.moved hW.alike hK, hD⟩⟩, hS.F ht⟩) hS.2.2 dX11_act_29
  · have dc_6 := c_eq (a := r_5.toInt) (b := 0) rfl (by decide) c_6
    have hz_123 := isI_0 (w_4.symm.trans c_6)
    have kc_124 : (5 : Int32).toInt = 5 := by decide
    refine lv_aload_n hx hb dX11_act_8 rfl (lv_at hl 0 rfl) ?_
    refine lv_bipush (v := (-2)) hx hb dX11_act_9 (by decide) ?_
    have hFc := va_free (wc := (mW g0 pq cp v fa)) hD hS hA (List.range 48) rfl
    refine va_calli (va_runV (As := [.int (-2)]) (rest := []) ⟨hx, hb, hml, hown, hts⟩ (c_X11_refuse_f l dC dI H.size g0 pq cp v fa (-2) (by unfold vp_in; decide)) (cwV 1 hts gX11_act_X11_refuse rfl rfl rfl (by decide +kernel) ⟨(Nat.le_of_ble_eq_true rfl), (Nat.le_of_ble_eq_true rfl)⟩) (pr_V (r := (RX11, TX11, 63)) hP hK hD 0 11 rfl rfl) rfl rfl hl.1 rfl (lv_room (Nat.le_of_ble_eq_true rfl)) dX11_act_11 ⟨(Nat.le_of_ble_eq_true rfl), (Nat.le_of_ble_eq_true rfl)⟩) hS (fun q _ h => hFc q h) hFc (fun r_126 u t H locs ht hvm w_125 hB hz1 hk1 hS => ?_)
    obtain ⟨v_127, fa_128⟩ := u
    obtain ⟨hP1, hK1, hD1⟩ := hB
    rw [ht] at hP1
    have hP : va_P (dC, dI) vwCl (mW g0 pq cp v_127 fa_128) H := hP1
    have hD : va_D A (mW g0 pq cp v_127 fa_128) := hD1.weaken (fun _ _ _ h => hFc _ h)
    clear hP1 hK1 hD1 hk1 hz1 hvm ht hFc
    obtain ⟨rfl, hs1_129⟩ := w_125
    have hVv_127 : mV v_127 := sm0_V (sm1_0 hs1_129) gV
    have hAv_127 : mA fa_128 := sm0_A (sm1_0 hs1_129) gA
    have g_130 : (v_127 38).toInt = (v 38).toInt := congrArg Int32.toInt (congrFun hs1_129.1 38)
    have g_131 : (v_127 42).toInt = (v 42).toInt := congrArg Int32.toInt (congrFun hs1_129.1 42)
    have g_132 : (v_127 46).toInt = (v 46).toInt := congrArg Int32.toInt (congrFun hs1_129.1 46)
    have g_133 : (v_127 47).toInt = (v 47).toInt := congrArg Int32.toInt (congrFun hs1_129.1 47)
    have g_134 : (v_127 51).toInt = (v 51).toInt := congrArg Int32.toInt (congrFun hs1_129.1 51)
    have hRv_127 : mX [0, 16, 17, 18, 19, 42, 45, 46, 47, 48, 49, 50, 51, 52, 53, 54, 55, 56, 57, 58, 59, 60] v fa v_127 fa_128 := mX.st mX.rf (mX.s0 (sm1_0 hs1_129)) (by decide)
    exact W.iret (v := (-2)) hx hb hr (fun t ht hW => ⟨⟨(-2), (v_127, fa_128), rfl, ⟨hVv_127, hAv_127, hRv_127, ⟨⟨(by unfold gac; dsimp only; have n0 : (v 46).toNatClampNeg = (v 46).toInt.toNat := rfl; have h0 : ((-2) : Int32).toInt = -2 := (by decide); refine Or.inl ?_; omega), fun h => by have h0 : ((-2) : Int32).toInt = -2 := (by decide); exfalso; omega, (fun _ k hk => (sm1_0 hs1_129).2 k (by revert k; decide))⟩, (Or.inl ⟨by have rc : ((-2) : Int32).toInt = -2 := (by decide); omega, sm2_1 hs1_129⟩)⟩⟩, ⟨by rw [ht]; exact hP, va_K.moved hW.alike hK, hD⟩⟩, hS.F ht⟩) hS.2.2 dX11_act_14
