


set_option maxHeartbeats 4000000 in
set_option maxRecDepth 100000 in
theorem c_X11_check_f (l : Launch) (dC : Nat → ClassId) (dI : Nat → Nat → Nat) (sz : Nat) (g0 : Nat) (pq : Nat → Nat) (cp : Nat → ClassId) (v : Nat → Int32) (fa : Nat → Nat → Int32) (gV : mV v) (gA : mA fa) (x1 : Int32) (x2 : Int32) (x3 : Int32) (hWl : wlA v fa) (hOB : ∀ a, a < (v 43).toNatClampNeg → owB fa a) : Met l yX11_check wsX11_check ({ frames := 27, cells := 0, slots := 0, locals := 638 }) (va_Pc [.ref g0, .int x1, .int x2, .int x3] (pcW (dC, dI) (mT cp) (mW g0 pq cp v fa) sz)) (va_Qi (fun (r : Int32) (u : (Nat → Int32) × (Nat → Nat → Int32)) => mV u.1 ∧ mA u.2 ∧ mX [0, 45, 47, 48, 49, 50, 51, 52, 53, 54, 55, 56, 57, 58, 59, 60, 62] v fa u.1 u.2 ∧ (aSt (v 40).toInt (v 38).toInt x1.toInt x2.toInt x3.toInt r.toInt r.toInt ∧ (¬ bSt (v 40).toInt (v 38).toInt x1.toInt x2.toInt x3.toInt → ckA (fun a => (fa 21 a).toInt) (fun i => (fa 61 i).toInt) (fun a => owF v fa a x2 x3.toInt) x1.toInt (v 62).toInt (v 43).toNatClampNeg r.toInt) ∧ ((bSt (v 40).toInt (v 38).toInt x1.toInt x2.toInt x3.toInt ∧ sm1 v fa u r) ∨ (¬ bSt (v 40).toInt (v 38).toInt x1.toInt x2.toInt x3.toInt ∧ (u.1 62).toInt = 0 ∧ u.2 0 = fa 0)))) (fun u t => va_P (dC, dI) vwCl (mW g0 pq cp u.1 u.2) t.heap ∧ va_K (dC, dI) vwCl (mT cp) t ∧ va_D (va_A (mW g0 pq cp v fa) sz) (mW g0 pq cp u.1 u.2)) (va_A (mW g0 pq cp v fa) sz)) 0 0 (va_A (mW g0 pq cp v fa) sz) := by
  refine Met.ofW (cc := cX11_check) (maxL := 8) (ret := (some .int)) (by decide) rfl ?_
  intro p e s m args below meth c s₁ B hml hv
  obtain ⟨rfl, hsz, hP, hK, hD0⟩ := hv
  have hx := B.exec
  have hb := B.bytes
  have hr := B.returns
  have hts := atoms_spec (ws := wsX11_check) B.pre
  have hown : s.vm.findClass RX11 = some m.cls := findClass_of_methodNamed B.named
  have hlocks := B.notSynchronized
  subst hsz
  have hD := hD0.self (sz := s.heap.size)
  generalize hAe : va_A (mW g0 pq cp v fa) s.heap.size = A at hD ⊢
  have hA : ∀ q : Nat, s.heap.size ≤ q → A q := fun q h => by rw [← hAe]; exact Or.inr h
  have hS : va_S A s.heap s.heap [] := va_S.rf
  have hP : va_P (dC, dI) vwCl (mW g0 pq cp v fa) s.heap := hP
  have hl := lv_entry ([.ref g0, .int x1, .int x2, .int x3]) (n := 8) (Nat.le_of_ble_eq_true rfl)
  rw [lg_entry_eq]
  generalize (lg_sl ([.ref g0, .int x1, .int x2, .int x3]) ++ List.replicate (8 - (lg_sl ([.ref g0, .int x1, .int x2, .int x3])).length) Slot.unset).toArray = ls at hl ⊢
  have hl : lv_has ls 8 [(0, .ref g0), (1, .int x1), (2, .int x2), (3, .int x3)] := hl
  have iv_1 : 0 ≤ (v 38).toInt ∧ (v 38).toInt ≤ 3000 := gV 38
  have iv_2 : 0 ≤ (v 40).toInt ∧ (v 40).toInt ≤ 20 := gV 40
  have iv_3 : 0 ≤ (v 43).toInt ∧ (v 43).toInt ≤ 60 := gV 43
  have iv_4 : 0 ≤ (v 62).toInt ∧ (v 62).toInt ≤ 12 := gV 62
  refine lv_aload_n hx hb dX11_check_0 rfl (lv_at hl 0 rfl) ?_
  refine lv_iload_n hx hb dX11_check_1 rfl (lv_at hl 1 rfl) ?_
  have hFc : ∀ q, va_A [] s.heap.size q → A q := pu_free hS hA
  refine va_calli (va_runV (As := [.int x1]) (rest := []) ⟨hx, hb, hml, hown, hts⟩ (c_X11_isVoyage l dC dI s.heap.size g0 pq cp v fa x1) (cwV 1 hts gX11_check_X11_isVoyage rfl rfl rfl (by decide +kernel) ⟨(Nat.le_of_ble_eq_true rfl), (Nat.le_of_ble_eq_true rfl)⟩) (pr_V (r := (RX11, TX11, 63)) hP hK hD 0 11 rfl rfl) rfl rfl hl.1 rfl (lv_room (Nat.le_of_ble_eq_true rfl)) dX11_check_2 ⟨(Nat.le_of_ble_eq_true rfl), (Nat.le_of_ble_eq_true rfl)⟩) hS (fun q _ h => hFc q h) hFc (fun r_6 u t H locs ht hvm w_5 hB hz1 hk1 hS => ?_)
  have hP := pu_keep hP hk1
  clear hk1 hz1 hvm hB ht hFc
  have hbr_6 : 0 ≤ r_6.toInt ∧ r_6.toInt ≤ 1 := iv_of w_5 (isI_i _ _)
  refine lv_if_eq (tgt := 17) hx hb dX11_check_5 (by decide) (fun c_7 => ?_) (fun c_7 => ?_)
  · have dc_7 := c_eq (a := r_6.toInt) (b := 0) rfl (by decide) c_7
    have hz_8 := isI_0 (w_5.symm.trans c_7)
    refine lv_iconst (v := (-1)) hx hb dX11_check_17 (by decide) ?_
    refine lv_istore (lv' := [(4, .int (-1)), (0, .ref g0), (1, .int x1), (2, .int x2), (3, .int x3)]) hx hb dX11_check_18 hl (by decide) rfl (fun ls hl => ?_)
    refine lv_iload hx hb dX11_check_20 (lv_at hl 0 rfl) ?_
    refine lv_if_eq (tgt := 32) hx hb dX11_check_22 (by decide) (fun c_9 => absurd c_9 (by decide)) (fun _ => ?_)
    refine lv_aload_n hx hb dX11_check_25 rfl (lv_at hl 1 rfl) ?_
    refine lv_iload hx hb dX11_check_26 (lv_at hl 0 rfl) ?_
    have hFc := va_free (wc := (mW g0 pq cp v fa)) hD hS hA (List.range 48) rfl
    refine va_calli (va_runV (As := [.int (-1)]) (rest := []) ⟨hx, hb, hml, hown, hts⟩ (c_X11_refuse_f l dC dI H.size g0 pq cp v fa (-1) (by unfold vp_in; decide)) (cwV 1 hts gX11_check_X11_refuse rfl rfl rfl (by decide +kernel) ⟨(Nat.le_of_ble_eq_true rfl), (Nat.le_of_ble_eq_true rfl)⟩) (pr_V (r := (RX11, TX11, 63)) hP hK hD 0 11 rfl rfl) rfl rfl hl.1 rfl (lv_room (Nat.le_of_ble_eq_true rfl)) dX11_check_28 ⟨(Nat.le_of_ble_eq_true rfl), (Nat.le_of_ble_eq_true rfl)⟩) hS (fun q _ h => hFc q h) hFc (fun r_11 u t H locs ht hvm w_10 hB hz1 hk1 hS => ?_)
    obtain ⟨v_12, fa_13⟩ := u
    obtain ⟨hP1, hK1, hD1⟩ := hB
    rw [ht] at hP1
    have hP : va_P (dC, dI) vwCl (mW g0 pq cp v_12 fa_13) H := hP1
    have hD : va_D A (mW g0 pq cp v_12 fa_13) := hD1.weaken (fun _ _ _ h => hFc _ h)
    clear hP1 hK1 hD1 hk1 hz1 hvm ht hFc
    obtain ⟨rfl, hs1_14⟩ := w_10
    have hVv_12 : mV v_12 := sm0_V (sm1_0 hs1_14) gV
    have hAv_12 : mA fa_13 := sm0_A (sm1_0 hs1_14) gA
    have g_15 : (v_12 38).toInt = (v 38).toInt := congrArg Int32.toInt (congrFun hs1_14.1 38)
    have g_16 : (v_12 40).toInt = (v 40).toInt := congrArg Int32.toInt (congrFun hs1_14.1 40)
    have g_17 : (v_12 43).toInt = (v 43).toInt := congrArg Int32.toInt (congrFun hs1_14.1 43)
    have g_18 : (v_12 62).toInt = (v 62).toInt := congrArg Int32.toInt (congrFun hs1_14.1 62)
    have hRv_12 : mX [0, 45, 47, 48, 49, 50, 51, 52, 53, 54, 55, 56, 57, 58, 59, 60, 62] v fa v_12 fa_13 := mX.st mX.rf (mX.s0 (sm1_0 hs1_14)) (by decide)
    exact W.iret (v := (-1)) hx hb hr (fun t ht hW => ⟨⟨(-1), (v_12, fa_13), rfl, ⟨hVv_12, hAv_12, hRv_12, ⟨by have rc : ((-1) : Int32).toInt = -1 := (by decide); unfold aSt; omega, fun q => absurd (by unfold bSt; omega) q, Or.inl ⟨by unfold bSt; omega, hs1_14⟩⟩⟩, ⟨by rw [ht]; exact hP, va_K.moved hW.alike hK, hD⟩⟩, hS.F ht⟩) hS.2.2 dX11_check_31
  · have dc_7 := c_ne (a := r_6.toInt) (b := 0) rfl (by decide) c_7
    have hi_19 := isI_t w_5 (fun q => c_7 (Int32.toInt_inj.mp q))
    have khi_19 : (v 40).toInt ≤ 20 := (gV 40).2
    refine lv_aload_n hx hb dX11_check_8 rfl (lv_at hl 0 rfl) ?_
    refine lv_iload_n hx hb dX11_check_9 rfl (lv_at hl 2 rfl) ?_
    refine lv_iload_n hx hb dX11_check_10 rfl (lv_at hl 3 rfl) ?_
    have hFc : ∀ q, va_A [] H.size q → A q := pu_free hS hA
    refine va_calli (va_runV (As := [.int x2, .int x3]) (rest := []) ⟨hx, hb, hml, hown, hts⟩ (c_X11_wrongTimes_f l dC dI H.size g0 pq cp v fa gV gA x2 x3) (cwV 2 hts gX11_check_X11_wrongTimes rfl rfl rfl (by decide +kernel) ⟨(Nat.le_of_ble_eq_true rfl), (Nat.le_of_ble_eq_true rfl)⟩) (pr_V (r := (RX11, TX11, 63)) hP hK hD 0 11 rfl rfl) rfl rfl hl.1 rfl (lv_room (Nat.le_of_ble_eq_true rfl)) dX11_check_11 ⟨(Nat.le_of_ble_eq_true rfl), (Nat.le_of_ble_eq_true rfl)⟩) hS (fun q _ h => hFc q h) hFc (fun r_21 u t H locs ht hvm w_20 hB hz1 hk1 hS => ?_)
    have hP := pu_keep hP hk1
    clear hk1 hz1 hvm hB ht hFc
    obtain ⟨hb_22, hx_23⟩ := w_20
    refine lv_goto (tgt := 18) hx hb dX11_check_14 (by decide) ?_
    refine lv_istore (lv' := [(4, .int r_21), (0, .ref g0), (1, .int x1), (2, .int x2), (3, .int x3)]) hx hb dX11_check_18 hl (by decide) rfl (fun ls hl => ?_)
    refine lv_iload hx hb dX11_check_20 (lv_at hl 0 rfl) ?_
    refine lv_if_eq (tgt := 32) hx hb dX11_check_22 (by decide) (fun c_24 => ?_) (fun c_24 => ?_)
    · have dc_24 := c_eq (a := r_21.toInt) (b := 0) rfl (by decide) c_24
      refine lv_aload_n hx hb dX11_check_32 rfl (lv_at hl 1 rfl) ?_
      refine va_get (D := (dC, dI)) (ci := 11) (v := .int (v 62)) (C := RX11) (T := TX11) (N := 63) hx hb hts in_wsX11_check_X11 hown hK hP 0 rfl rfl 62 (by decide) (hts (.fieldLink RX11 357 "ShipOfficeModel" "rowed" "I") iw_X11_check_1) (fun _ h9 => h9) rfl dX11_check_33 ?_
      refine lv_topi (fun x_25 ex_25 => ?_)
      have hx_25 : 0 ≤ x_25.toInt ∧ x_25.toInt ≤ 12 := iv_of ex_25 (gV 62)
      have gx_25 : x_25.toInt = (v 62).toInt := iv_to ex_25
      clear ex_25
      refine lv_istore (lv' := [(5, .int x_25), (4, .int r_21), (0, .ref g0), (1, .int x1), (2, .int x2), (3, .int x3)]) hx hb dX11_check_36 hl (by decide) rfl (fun ls hl => ?_)
      refine lv_aload_n hx hb dX11_check_38 rfl (lv_at hl 2 rfl) ?_
      refine lv_iconst (v := 0) hx hb dX11_check_39 (by decide) ?_
      refine va_put (D := (dC, dI)) (ci := 11) (v := .int 0) (ty := .int) (C := RX11) (T := TX11) (N := 63) hx hb hts in_wsX11_check_X11 tyX11 tyX11_ok nmX11 hown hK hP hD hS 0 rfl rfl 62 (by decide) (hts (.fieldLink RX11 357 "ShipOfficeModel" "rowed" "I") iw_X11_check_1) (fun _ h9 => h9) rfl (by decide +kernel) rfl rfl (Nat.le_of_ble_eq_true rfl) dX11_check_40 (fun H locs hP hD hS => ?_)
      have hP : va_P (dC, dI) vwCl (mW g0 pq cp (upd v 62 0) fa) H := hP
      have hD : va_D A (mW g0 pq cp (upd v 62 0) fa) := hD
      obtain ⟨z_26, ez_26⟩ : ∃ zq, zq = (upd v 62 0) := ⟨_, rfl⟩
      rw [← ez_26] at hP hD
      have hVz_26 : mV z_26 := by rw [ez_26]; exact mV_upd (lo := 0) (hi := 12) gV rfl rfl (by decide)
      have hRz_26 : mX [0, 45, 47, 48, 49, 50, 51, 52, 53, 54, 55, 56, 57, 58, 59, 60, 62] v fa z_26 fa := by rw [ez_26]; exact mX.up mX.rf (by decide)
      have g_27 : (z_26 38).toInt = (v 38).toInt := by rw [ez_26]; exact congrArg Int32.toInt (if_neg (by decide))
      have g_28 : (z_26 40).toInt = (v 40).toInt := by rw [ez_26]; exact congrArg Int32.toInt (if_neg (by decide))
      have g_29 : (z_26 43).toInt = (v 43).toInt := by rw [ez_26]; exact congrArg Int32.toInt (if_neg (by decide))
      have g_30 : (z_26 62).toInt = 0 := by rw [ez_26, show upd v 62 0 62 = 0 from if_pos rfl]; decide
      refine lv_iconst (v := 0) hx hb dX11_check_43 (by decide) ?_
      refine lv_istore (lv' := [(6, .int 0), (5, .int x_25), (4, .int r_21), (0, .ref g0), (1, .int x1), (2, .int x2), (3, .int x3)]) hx hb dX11_check_44 hl (by decide) rfl (fun ls hl => ?_)
      refine lv_iconst (v := 0) hx hb dX11_check_46 (by decide) ?_
      refine lv_istore (lv' := [(7, .int 0), (6, .int 0), (5, .int x_25), (4, .int r_21), (0, .ref g0), (1, .int x1), (2, .int x2), (3, .int x3)]) hx hb dX11_check_47 hl (by decide) rfl (fun ls hl => ?_)
      have cut_31 : ∀ (n : Nat) (y_32 : Int32) (y_33 : Int32) (z_34 : Nat → Int32) (fz_35 : Nat → Nat → Int32) (H : Heap) (locs : List Loc) (ls : Array Slot), 60 - y_33.toInt ≤ (n : Int) → (0 ≤ y_32.toInt ∧ y_32.toInt ≤ 60) → (0 ≤ y_33.toInt ∧ y_33.toInt ≤ 60) → y_32.toInt ≤ y_33.toInt → fz_35 0 = fa 0 → y_32.toInt = ckC (fun a => (fa 21 a).toInt) x1.toInt y_33.toNatClampNeg → (∀ b, b < y_33.toNatClampNeg → ¬ ckD (fun a => (fa 21 a).toInt) (fun i => (fa 61 i).toInt) (fun a => owF v fa a x2 x3.toInt) x1.toInt (v 62).toInt b) → scr (upd v 62 0) fa z_34 fz_35 → y_33.toInt ≤ (v 43).toInt → mV z_34 → mA fz_35 → mX [0, 45, 47, 48, 49, 50, 51, 52, 53, 54, 55, 56, 57, 58, 59, 60, 62] v fa z_34 fz_35 → va_P (dC, dI) vwCl (mW g0 pq cp z_34 fz_35) H → va_D A (mW g0 pq cp z_34 fz_35) → va_S A s.heap H locs → (z_34 38).toInt = (z_26 38).toInt → (z_34 40).toInt = (z_26 40).toInt → (z_34 43).toInt = (z_26 43).toInt → (z_34 62).toInt = (z_26 62).toInt → lv_has ls 8 [(6, .int y_32), (7, .int y_33), (5, .int x_25), (4, .int r_21), (0, .ref g0), (1, .int x1), (2, .int x2), (3, .int x3)] → W p l e (headSpec wsX11_check { frames := 27, cells := 0, slots := 0, locals := 638 }).room s m #[Value.ref g0, Value.int x1, Value.int x2, Value.int x3] below meth c H locs 0 0 (MQ below (va_Qi (fun (r : Int32) (u : (Nat → Int32) × (Nat → Nat → Int32)) => mV u.1 ∧ mA u.2 ∧ mX [0, 45, 47, 48, 49, 50, 51, 52, 53, 54, 55, 56, 57, 58, 59, 60, 62] v fa u.1 u.2 ∧ (aSt (v 40).toInt (v 38).toInt x1.toInt x2.toInt x3.toInt r.toInt r.toInt ∧ (¬ bSt (v 40).toInt (v 38).toInt x1.toInt x2.toInt x3.toInt → ckA (fun a => (fa 21 a).toInt) (fun i => (fa 61 i).toInt) (fun a => owF v fa a x2 x3.toInt) x1.toInt (v 62).toInt (v 43).toNatClampNeg r.toInt) ∧ ((bSt (v 40).toInt (v 38).toInt x1.toInt x2.toInt x3.toInt ∧ sm1 v fa u r) ∨ (¬ bSt (v 40).toInt (v 38).toInt x1.toInt x2.toInt x3.toInt ∧ (u.1 62).toInt = 0 ∧ u.2 0 = fa 0)))) (fun u t => va_P (dC, dI) vwCl (mW g0 pq cp u.1 u.2) t.heap ∧ va_K (dC, dI) vwCl (mT cp) t ∧ va_D A (mW g0 pq cp u.1 u.2)) A) #[Value.ref g0, Value.int x1, Value.int x2, Value.int x3] s 0 0 A) (F0 m 49 ls []) := by
        intro n
        induction n using Nat.strongRecOn with
        | ind n ih =>
          intro y_32 y_33 z_34 fz_35 H locs ls hm hy_32 hy_33 hq0_cut_31 hq1_cut_31 hq2_cut_31 hq3_cut_31 hq4_cut_31 hq5_cut_31 hVz_34 hAz_34 hRz_34 hP hD hS g_36 g_37 g_38 g_39 hl
          refine lv_iload hx hb dX11_check_49 (lv_at hl 1 rfl) ?_
          refine lv_aload_n hx hb dX11_check_51 rfl (lv_at hl 4 rfl) ?_
          refine va_get (D := (dC, dI)) (ci := 11) (v := .int (z_34 43)) (C := RX11) (T := TX11) (N := 63) hx hb hts in_wsX11_check_X11 hown hK hP 0 rfl rfl 43 (by decide) (hts (.fieldLink RX11 168 "ShipOfficeModel" "agreements" "I") iw_X11_check_2) (fun _ h9 => h9) rfl dX11_check_52 ?_
          refine lv_topi (fun x_40 ex_40 => ?_)
          have hx_40 : 0 ≤ x_40.toInt ∧ x_40.toInt ≤ 60 := iv_of ex_40 (hVz_34 43)
          have gx_40 : x_40.toInt = (z_34 43).toInt := iv_to ex_40
          clear ex_40
          refine lv_icmp_ge (tgt := 109) hx hb dX11_check_55 (by decide) (fun c_41 => ?_) (fun c_41 => ?_)
          · have dc_41 := c_le (a := x_40.toInt) (b := y_33.toInt) rfl rfl c_41
            refine lv_iload hx hb dX11_check_109 (lv_at hl 0 rfl) ?_
            refine lv_iload hx hb dX11_check_111 (lv_at hl 2 rfl) ?_
            refine lv_icmp_ge (tgt := 121) hx hb dX11_check_113 (by decide) (fun c_42 => ?_) (fun c_42 => ?_)
            · have dc_42 := c_le (a := x_25.toInt) (b := y_32.toInt) rfl rfl c_42
              refine lv_bipush (v := (-9)) hx hb dX11_check_121 (by decide) ?_
              exact W.iret (v := (-9)) hx hb hr (fun t ht hW => ⟨⟨(-9), (z_34, fz_35), rfl, ⟨hVz_34, hAz_34, hRz_34, ⟨by have rc : ((-9) : Int32).toInt = -9 := (by decide); unfold aSt; omega, fun _ => by have eN : y_33.toNatClampNeg = (v 43).toNatClampNeg := (show y_33.toInt.toNat = (v 43).toInt.toNat by omega); exact Or.inr ⟨fun b hb => hq3_cut_31 b (by rw [eN]; exact hb), by have rc : ((-9) : Int32).toInt = -9 := (by decide); rw [← eN, ← hq2_cut_31]; (repeat (first | rw [if_pos (by omega)] | rw [if_neg (by omega)])); (first | done | omega)⟩, Or.inr ⟨by unfold bSt; omega, by dsimp only; omega, (by first | exact hq1_cut_31 | (dsimp only; exact hq1_cut_31))⟩⟩⟩, ⟨by rw [ht]; exact hP, va_K.moved hW.alike hK, hD⟩⟩, hS.F ht⟩) hS.2.2 dX11_check_123
            · have dc_42 := c_nle (a := x_25.toInt) (b := y_32.toInt) rfl rfl c_42
              refine lv_iload hx hb dX11_check_116 (lv_at hl 0 rfl) ?_
              refine lv_goto (tgt := 123) hx hb dX11_check_118 (by decide) ?_
              exact W.iret (v := y_32) hx hb hr (fun t ht hW => ⟨⟨y_32, (z_34, fz_35), rfl, ⟨hVz_34, hAz_34, hRz_34, ⟨by unfold aSt; omega, fun _ => by have eN : y_33.toNatClampNeg = (v 43).toNatClampNeg := (show y_33.toInt.toNat = (v 43).toInt.toNat by omega); exact Or.inr ⟨fun b hb => hq3_cut_31 b (by rw [eN]; exact hb), by rw [← eN, ← hq2_cut_31]; (repeat (first | rw [if_pos (by omega)] | rw [if_neg (by omega)])); (first | done | omega)⟩, Or.inr ⟨by unfold bSt; omega, by dsimp only; omega, (by first | exact hq1_cut_31 | (dsimp only; exact hq1_cut_31))⟩⟩⟩, ⟨by rw [ht]; exact hP, va_K.moved hW.alike hK, hD⟩⟩, hS.F ht⟩) hS.2.2 dX11_check_123
          · have dc_41 := c_nle (a := x_40.toInt) (b := y_33.toInt) rfl rfl c_41
            refine lv_aload_n hx hb dX11_check_58 rfl (lv_at hl 4 rfl) ?_
            refine va_get (D := (dC, dI)) (ci := 11) (v := .ref (pq 21)) (C := RX11) (T := TX11) (N := 63) hx hb hts in_wsX11_check_X11 hown hK hP 0 rfl rfl 21 (by decide) (hts (.fieldLink RX11 73 "ShipOfficeModel" "voyage" "[I") iw_X11_check_3) (fun _ h9 => h9) rfl dX11_check_59 ?_
            refine lv_iload hx hb dX11_check_62 (lv_at hl 1 rfl) ?_
            refine va_iald hx hb hK hP 22 21 rfl rfl (vp_in_iff.mpr (by omega)) dX11_check_64 ?_
            refine lv_topi (fun x_43 ex_43 => ?_)
            have hx_43 : 0 ≤ x_43.toInt ∧ x_43.toInt ≤ 19 := iv_of ex_43 (hAz_34 21 _)
            have gx_43 : x_43.toInt = (fz_35 21 (y_33 : Int32).toNatClampNeg).toInt := iv_to ex_43
            clear ex_43
            rw [show fz_35 21 = fa 21 from hq4_cut_31.2 21 rfl] at gx_43
            refine lv_iload_n hx hb dX11_check_65 rfl (lv_at hl 5 rfl) ?_
            refine lv_icmp_eq (tgt := 72) hx hb dX11_check_66 (by decide) (fun c_44 => ?_) (fun c_44 => ?_)
            · have dc_44 := c_eq (a := x_43.toInt) (b := x1.toInt) rfl rfl c_44
              refine lv_iload hx hb dX11_check_72 (lv_at hl 0 rfl) ?_
              refine lv_iload hx hb dX11_check_74 (lv_at hl 2 rfl) ?_
              refine lv_icmp_ge (tgt := 97) hx hb dX11_check_76 (by decide) (fun c_45 => ?_) (fun c_45 => ?_)
              · have dc_45 := c_le (a := x_25.toInt) (b := y_32.toInt) rfl rfl c_45
                refine lv_iload hx hb dX11_check_97 (lv_at hl 0 rfl) ?_
                exact W.iret (v := y_32) hx hb hr (fun t ht hW => ⟨⟨y_32, (z_34, fz_35), rfl, ⟨hVz_34, hAz_34, hRz_34, ⟨by unfold aSt; omega, fun _ => Or.inl ⟨y_33.toNatClampNeg, ni_lt (by omega) (by omega), ckD_y hq2_cut_31 (by (try dsimp only); omega) (by (try dsimp only); omega), hq3_cut_31, hq2_cut_31⟩, Or.inr ⟨by unfold bSt; omega, by dsimp only; omega, (by first | exact hq1_cut_31 | (dsimp only; exact hq1_cut_31))⟩⟩⟩, ⟨by rw [ht]; exact hP, va_K.moved hW.alike hK, hD⟩⟩, hS.F ht⟩) hS.2.2 dX11_check_99
              · have dc_45 := c_nle (a := x_25.toInt) (b := y_32.toInt) rfl rfl c_45
                refine lv_aload_n hx hb dX11_check_79 rfl (lv_at hl 4 rfl) ?_
                refine va_get (D := (dC, dI)) (ci := 11) (v := .ref (pq 61)) (C := RX11) (T := TX11) (N := 63) hx hb hts in_wsX11_check_X11 hown hK hP 0 rfl rfl 61 (by decide) (hts (.fieldLink RX11 149 "ShipOfficeModel" "row" "[I") iw_X11_check_4) (fun _ h9 => h9) rfl dX11_check_80 ?_
                refine lv_iload hx hb dX11_check_83 (lv_at hl 0 rfl) ?_
                refine va_iald hx hb hK hP 47 46 rfl rfl (vp_in_iff.mpr (by omega)) dX11_check_85 ?_
                refine lv_topi (fun x_46 ex_46 => ?_)
                have gx_46 : x_46.toInt = (fz_35 61 (y_32 : Int32).toNatClampNeg).toInt := iv_to ex_46
                clear ex_46
                rw [show fz_35 61 = fa 61 from hq4_cut_31.2 61 rfl] at gx_46
                refine lv_aload_n hx hb dX11_check_86 rfl (lv_at hl 4 rfl) ?_
                refine lv_iload hx hb dX11_check_87 (lv_at hl 1 rfl) ?_
                refine lv_iload_n hx hb dX11_check_89 rfl (lv_at hl 6 rfl) ?_
                refine lv_iload_n hx hb dX11_check_90 rfl (lv_at hl 7 rfl) ?_
                have hFc := va_free (wc := (mW g0 pq cp z_34 fz_35)) hD hS hA (List.range 48) rfl
                refine va_calli (va_runV (As := [.int y_33, .int x2, .int x3]) (rest := [.int x_46]) ⟨hx, hb, hml, hown, hts⟩ (c_X11_owedOf_f l dC dI H.size g0 pq cp z_34 fz_35 hVz_34 hAz_34 y_33 (by omega) x2 (by omega) x3 (wlA_fr hWl (hq4_cut_31.1 42 rfl) (hq4_cut_31.2 19 rfl) (hq4_cut_31.2 16 rfl)) (owB_s hq4_cut_31 (hOB y_33.toNatClampNeg (ni_lt (by omega) (by omega))))) (cwV 3 hts gX11_check_X11_owedOf rfl rfl rfl (by decide +kernel) ⟨(Nat.le_of_ble_eq_true rfl), (Nat.le_of_ble_eq_true rfl)⟩) (pr_V (r := (RX11, TX11, 63)) hP hK hD 0 11 rfl rfl) rfl rfl hl.1 rfl (lv_room (Nat.le_of_ble_eq_true rfl)) dX11_check_91 ⟨(Nat.le_of_ble_eq_true rfl), (Nat.le_of_ble_eq_true rfl)⟩) hS (fun q _ h => hFc q h) hFc (fun r_48 u t H locs ht hvm w_47 hB hz1 hk1 hS => ?_)
                obtain ⟨v_49, fa_50⟩ := u
                obtain ⟨hP1, hK1, hD1⟩ := hB
                rw [ht] at hP1
                have hP : va_P (dC, dI) vwCl (mW g0 pq cp v_49 fa_50) H := hP1
                have hD : va_D A (mW g0 pq cp v_49 fa_50) := hD1.weaken (fun _ _ _ h => hFc _ h)
                clear hP1 hK1 hD1 hk1 hz1 hvm ht hFc
                obtain ⟨hV_51, hA_52, hR_53, hx_54⟩ := w_47
                dsimp only at hV_51 hA_52 hR_53 hx_54
                have g_55 : (v_49 38).toInt = (z_34 38).toInt := congrArg Int32.toInt (hR_53.1 38 rfl)
                have g_56 : (v_49 40).toInt = (z_34 40).toInt := congrArg Int32.toInt (hR_53.1 40 rfl)
                have g_57 : (v_49 43).toInt = (z_34 43).toInt := congrArg Int32.toInt (hR_53.1 43 rfl)
                have g_58 : (v_49 62).toInt = (z_34 62).toInt := congrArg Int32.toInt (hR_53.1 62 rfl)
                have g_59 : (fa_50 21 (y_33 : Int32).toNatClampNeg).toInt = (fz_35 21 (y_33 : Int32).toNatClampNeg).toInt := congrArg (fun h : Nat → Int32 => Int32.toInt (h (y_33 : Int32).toNatClampNeg)) (hR_53.2 21 rfl)
                have g_60 : (fa_50 61 (y_32 : Int32).toNatClampNeg).toInt = (fz_35 61 (y_32 : Int32).toNatClampNeg).toInt := congrArg (fun h : Nat → Int32 => Int32.toInt (h (y_32 : Int32).toNatClampNeg)) (hR_53.2 61 rfl)
                have R_61 : mX [0, 45, 47, 48, 49, 50, 51, 52, 53, 54, 55, 56, 57, 58, 59, 60, 62] v fa v_49 fa_50 := mX.st hRz_34 (mX.scr hR_53) (by decide)
                have q0_62 : fa_50 0 = fa 0 := (hR_53.2 0 rfl).trans hq1_cut_31
                rw [owF_s (v := (upd v 62 0)) (fa := fa) hWl hq4_cut_31, owF_rd] at hx_54
                have sk_63 := scr.tr hq4_cut_31 hR_53
                refine lv_icmp_eq (tgt := 100) hx hb dX11_check_94 (by decide) (fun c_64 => ?_) (fun c_64 => ?_)
                · have dc_64 := c_eq (a := x_46.toInt) (b := r_48.toInt) rfl rfl c_64
                  obtain ⟨x_65, ex_65⟩ : ∃ zq : Int32, y_32 + 1 = zq := ⟨_, rfl⟩
                  have hx_65 : x_65.toInt = y_32.toInt + 1 := (iv_to ex_65).symm.trans (ad_i rfl (by decide) (by omega) (by omega))
                  refine lv_iinc (v := x_65) (lv' := [(6, .int x_65), (7, .int y_33), (5, .int x_25), (4, .int r_21), (0, .ref g0), (1, .int x1), (2, .int x2), (3, .int x3)]) hx hb dX11_check_100 hl (k := 0) rfl ex_65 (by decide) rfl (fun ls hl => ?_)
                  clear ex_65
                  obtain ⟨x_66, ex_66⟩ : ∃ zq : Int32, y_33 + 1 = zq := ⟨_, rfl⟩
                  have hx_66 : x_66.toInt = y_33.toInt + 1 := (iv_to ex_66).symm.trans (ad_i rfl (by decide) (by omega) (by omega))
                  refine lv_iinc (v := x_66) (lv' := [(7, .int x_66), (6, .int x_65), (5, .int x_25), (4, .int r_21), (0, .ref g0), (1, .int x1), (2, .int x2), (3, .int x3)]) hx hb dX11_check_103 hl (k := 1) rfl ex_66 (by decide) rfl (fun ls hl => ?_)
                  clear ex_66
                  refine lv_goto (tgt := 49) hx hb dX11_check_106 (by decide) ?_
                  exact ih (n - 1) (by omega) x_65 x_66 v_49 fa_50 _ _ ls (by omega) (by omega) (by omega) (by omega) q0_62 (ckC_n hq2_cut_31 (by omega) (by omega) (by (try dsimp only); omega)) (al_s hq3_cut_31 (ckD_n hq2_cut_31 (by (try dsimp only); omega)) (by omega) (by omega)) sk_63 (by omega) hV_51 hA_52 R_61 hP hD hS (by omega) (by omega) (by omega) (by omega) (lv_sub hl [1, 0, 2, 3, 4, 5, 6, 7] rfl)
                · have dc_64 := c_ne (a := x_46.toInt) (b := r_48.toInt) rfl rfl c_64
                  refine lv_iload hx hb dX11_check_97 (lv_at hl 0 rfl) ?_
                  exact W.iret (v := y_32) hx hb hr (fun t ht hW => ⟨⟨y_32, (v_49, fa_50), rfl, ⟨hV_51, hA_52, R_61, ⟨by unfold aSt; omega, fun _ => Or.inl ⟨y_33.toNatClampNeg, ni_lt (by omega) (by omega), ckD_y hq2_cut_31 (by (try dsimp only); omega) (by (try dsimp only); omega), hq3_cut_31, hq2_cut_31⟩, Or.inr ⟨by unfold bSt; omega, by dsimp only; omega, (by first | exact q0_62 | (dsimp only; exact q0_62))⟩⟩⟩, ⟨by rw [ht]; exact hP, va_K.moved hW.alike hK, hD⟩⟩, hS.F ht⟩) hS.2.2 dX11_check_99
            · have dc_44 := c_ne (a := x_43.toInt) (b := x1.toInt) rfl rfl c_44
              refine lv_goto (tgt := 103) hx hb dX11_check_69 (by decide) ?_
              obtain ⟨x_67, ex_67⟩ : ∃ zq : Int32, y_33 + 1 = zq := ⟨_, rfl⟩
              have hx_67 : x_67.toInt = y_33.toInt + 1 := (iv_to ex_67).symm.trans (ad_i rfl (by decide) (by omega) (by omega))
              refine lv_iinc (v := x_67) (lv' := [(7, .int x_67), (6, .int y_32), (5, .int x_25), (4, .int r_21), (0, .ref g0), (1, .int x1), (2, .int x2), (3, .int x3)]) hx hb dX11_check_103 hl (k := 1) rfl ex_67 (by decide) rfl (fun ls hl => ?_)
              clear ex_67
              refine lv_goto (tgt := 49) hx hb dX11_check_106 (by decide) ?_
              exact ih (n - 1) (by omega) y_32 x_67 z_34 fz_35 _ _ ls (by omega) (by omega) (by omega) (by omega) hq1_cut_31 (ckC_n hq2_cut_31 (by omega) (by omega) (by (try dsimp only); omega)) (al_s hq3_cut_31 (ckD_n hq2_cut_31 (by (try dsimp only); omega)) (by omega) (by omega)) hq4_cut_31 (by omega) hVz_34 hAz_34 hRz_34 hP hD hS (by omega) (by omega) (by omega) (by omega) (lv_sub hl [1, 0, 2, 3, 4, 5, 6, 7] rfl)
      have kc_68 : (0 : Int32).toInt = 0 := by decide
      exact cut_31 61 0 0 z_26 fa _ _ ls (by omega) (by decide) (by decide) (by decide) rfl (ckC_0 (by decide) (by decide)) (al_0 (by decide)) (by rw [ez_26]; exact scr.rf) (by have rc : (0 : Int32).toInt = 0 := (by decide); omega) hVz_26 gA hRz_26 hP hD hS (by omega) (by omega) (by omega) (by omega) (lv_sub hl [1, 0, 2, 3, 4, 5, 6, 7] rfl)
    · have dc_24 := c_ne (a := r_21.toInt) (b := 0) rfl (by decide) c_24
      refine lv_aload_n hx hb dX11_check_25 rfl (lv_at hl 1 rfl) ?_
      refine lv_iload hx hb dX11_check_26 (lv_at hl 0 rfl) ?_
      have hFc := va_free (wc := (mW g0 pq cp v fa)) hD hS hA (List.range 48) rfl
      refine va_calli (va_runV (As := [.int r_21]) (rest := []) ⟨hx, hb, hml, hown, hts⟩ (c_X11_refuse_f l dC dI H.size g0 pq cp v fa r_21 (by apply vp_in_iff.mpr; rw [ng_i (x := r_21) rfl (by omega) (by omega)]; omega)) (cwV 1 hts gX11_check_X11_refuse rfl rfl rfl (by decide +kernel) ⟨(Nat.le_of_ble_eq_true rfl), (Nat.le_of_ble_eq_true rfl)⟩) (pr_V (r := (RX11, TX11, 63)) hP hK hD 0 11 rfl rfl) rfl rfl hl.1 rfl (lv_room (Nat.le_of_ble_eq_true rfl)) dX11_check_28 ⟨(Nat.le_of_ble_eq_true rfl), (Nat.le_of_ble_eq_true rfl)⟩) hS (fun q _ h => hFc q h) hFc (fun r_70 u t H locs ht hvm w_69 hB hz1 hk1 hS => ?_)
      obtain ⟨v_71, fa_72⟩ := u
      obtain ⟨hP1, hK1, hD1⟩ := hB
      rw [ht] at hP1
      have hP : va_P (dC, dI) vwCl (mW g0 pq cp v_71 fa_72) H := hP1
      have hD : va_D A (mW g0 pq cp v_71 fa_72) := hD1.weaken (fun _ _ _ h => hFc _ h)
      clear hP1 hK1 hD1 hk1 hz1 hvm ht hFc
      obtain ⟨err_70, hs1_73⟩ := w_69
      have hVv_71 : mV v_71 := sm0_V (sm1_0 hs1_73) gV
      have hAv_71 : mA fa_72 := sm0_A (sm1_0 hs1_73) gA
      have g_74 : (v_71 38).toInt = (v 38).toInt := congrArg Int32.toInt (congrFun hs1_73.1 38)
      have g_75 : (v_71 40).toInt = (v 40).toInt := congrArg Int32.toInt (congrFun hs1_73.1 40)
      have g_76 : (v_71 43).toInt = (v 43).toInt := congrArg Int32.toInt (congrFun hs1_73.1 43)
      have g_77 : (v_71 62).toInt = (v 62).toInt := congrArg Int32.toInt (congrFun hs1_73.1 62)
      have hRv_71 : mX [0, 45, 47, 48, 49, 50, 51, 52, 53, 54, 55, 56, 57, 58, 59, 60, 62] v fa v_71 fa_72 := mX.st mX.rf (mX.s0 (sm1_0 hs1_73)) (by decide)
      exact W.iret (v := r_70) hx hb hr (fun t ht hW => ⟨⟨r_70, (v_71, fa_72), rfl, ⟨hVv_71, hAv_71, hRv_71, ⟨by have e9 := congrArg Int32.toInt err_70; unfold aSt; omega, fun q => absurd (by have e9 := congrArg Int32.toInt err_70; unfold bSt; omega) q, Or.inl ⟨by have e9 := congrArg Int32.toInt err_70; unfold bSt; omega, by rw [err_70]; exact hs1_73⟩⟩⟩, ⟨by rw [ht]; exact hP, va_K.moved hW.alike hK, hD⟩⟩, hS.F ht⟩) hS.2.2 dX11_check_31
