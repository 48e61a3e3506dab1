


set_option maxHeartbeats 4000000 in
set_option maxRecDepth 100000 in
theorem c_X11_unit_3f (l : Launch) (dC : Nat → ClassId) (dI : Nat → Nat → Nat) (sz : Nat) (g0 : Nat) (pq : Nat → Nat) (cp : Nat → ClassId) (v : Nat → Int32) (fa : Nat → Nat → Int32) (k n : Nat) (hk : k ≤ n) (hn : n ≤ 60) (ea : v 47 = nI k) (es : v 50 = nI n) (f : Nat → Int32) (hb0 : hbF (v 49) fa f n) (hwe : v 51 = 1) (hde : v 48 = nI 3) : Met l yX11_unit wsX11_unit ({ frames := 7, cells := 0, slots := 0, locals := 161 }) (va_Pc [.ref g0] (pcW (dC, dI) (mT cp) (mW g0 pq cp v fa) sz)) (va_Qi (fun (r : Int32) (u : (Nat → Int32) × (Nat → Nat → Int32)) => pzf (mvU (mL fa) (cI f n) 2 k) v k n 3 u.1 r ∧ u.2 = fa) (fun u t => va_P (dC, dI) vwCl (mW g0 pq cp u.1 u.2) t.heap ∧ va_K (dC, dI) vwCl (mT cp) t ∧ va_D (va_A (mW g0 pq cp v fa) sz) (mW g0 pq cp u.1 u.2)) (va_A (mW g0 pq cp v fa) sz)) 0 0 (va_A (mW g0 pq cp v fa) sz) := by
  refine Met.ofW (cc := cX11_unit) (maxL := 5) (ret := (some .int)) (by decide +kernel) rfl ?_
  intro p e s m args below meth c s₁ B hml hv
  obtain ⟨rfl, hsz, hP, hK, hD0⟩ := hv
  have hx := B.exec
  have hb := B.bytes
  have hr := B.returns
  have hts := atoms_spec (ws := wsX11_unit) B.pre
  have hown : s.vm.findClass RX11 = some m.cls := findClass_of_methodNamed B.named
  have hlocks := B.notSynchronized
  subst hsz
  have hD := hD0.self (sz := s.heap.size)
  generalize hAe : va_A (mW g0 pq cp v fa) s.heap.size = A at hD ⊢
  have hA : ∀ q : Nat, s.heap.size ≤ q → A q := fun q h => by rw [← hAe]; exact Or.inr h
  have hS : va_S A s.heap s.heap [] := va_S.rf
  have hP : va_P (dC, dI) vwCl (mW g0 pq cp v fa) s.heap := hP
  have hl := lv_entry ([.ref g0]) (n := 5) (Nat.le_of_ble_eq_true rfl)
  rw [lg_entry_eq]
  generalize (lg_sl ([.ref g0]) ++ List.replicate (5 - (lg_sl ([.ref g0])).length) Slot.unset).toArray = ls at hl ⊢
  have hl : lv_has ls 5 [(0, .ref g0)] := hl
  refine lv_aload_n hx hb dX11_unit_0 rfl (lv_at hl 0 rfl) ?_
  refine va_get (D := (dC, dI)) (ci := 11) (v := .int (v 51)) (C := RX11) (T := TX11) (N := 63) hx hb hts in_wsX11_unit_X11 hown hK hP 0 rfl rfl 51 (by decide +kernel) (hts (.fieldLink RX11 223 "ShipOfficeModel" "isWell" "Z") iw_X11_unit_1) (fun _ h9 => h9) rfl dX11_unit_1 ?_
  refine lv_topi (fun y ey => ?_)
  obtain rfl : y = 1 := ey.trans (hwe.trans (by decide +kernel))
  refine lv_if_ne (tgt := 9) hx hb dX11_unit_4 (by decide +kernel) (fun _ => ?_) (fun c_1 => absurd c_1 (by decide +kernel))
  refine lv_aload_n hx hb dX11_unit_9 rfl (lv_at hl 0 rfl) ?_
  have hFc : ∀ q, va_A [] s.heap.size q → A q := pu_free hS hA
  refine va_calli (va_runV (As := []) (rest := []) ⟨hx, hb, hml, hown, hts⟩ (c_X11_sign_f l dC dI s.heap.size g0 pq cp v fa k n hk hn ea es f hb0) (cwV 0 hts gX11_unit_X11_sign rfl rfl rfl (by decide +kernel) ⟨(Nat.le_of_ble_eq_true rfl), (Nat.le_of_ble_eq_true rfl)⟩) (pr_V (r := (RX11, TX11, 63)) hP hK hD 0 11 rfl rfl) rfl rfl hl.1 rfl (lv_room (Nat.le_of_ble_eq_true rfl)) dX11_unit_10 ⟨(Nat.le_of_ble_eq_true rfl), (Nat.le_of_ble_eq_true rfl)⟩) hS (fun q _ h => hFc q h) hFc (fun r_3 u t H locs ht hvm w_2 hB hz1 hk1 hS => ?_)
  have hP := pu_keep hP hk1
  clear hk1 hz1 hvm hB ht hFc
  subst w_2
  refine lv_istore_n (lv' := [(1, .int (cI f n k)), (0, .ref g0)]) hx hb dX11_unit_13 rfl hl (by decide +kernel) rfl (fun ls hl => ?_)
  refine lv_iload_n hx hb dX11_unit_14 rfl (lv_at hl 0 rfl) ?_
  have hFc : ∀ q, va_A [] H.size q → A q := pu_free hS hA
  have hPc := hP.sub (ws' := []) [] rfl
  have hDc := hD.sub (ws' := []) [] (by decide +kernel) rfl
  have hKc := hK.sub (tys' := []) [] rfl
  refine va_calli (va_runS (As := [.int (cI f n k)]) (rest := []) ⟨hx, hb, hml, hown, hts⟩ (c_X11_isLetter_f l dC dI H.size (cI f n k)) (va_cwS 1 hts gX11_unit_X11_isLetter rfl rfl rfl (by decide +kernel) ⟨(Nat.le_of_ble_eq_true rfl), (Nat.le_of_ble_eq_true rfl)⟩) (pr_S hPc hKc hDc) rfl rfl hl.1 rfl (lv_room (Nat.le_of_ble_eq_true rfl)) dX11_unit_15 ⟨(Nat.le_of_ble_eq_true rfl), (Nat.le_of_ble_eq_true rfl)⟩) hS (fun q _ h => hFc q h) hFc (fun r_5 u t H locs ht hvm w_4 hB hz1 hk1 hS => ?_)
  have hP := pu_keep hP hk1
  clear hk1 hz1 hvm hB ht hFc hPc hDc hKc
  rcases w_4 with ⟨rfl, hl_6⟩ | ⟨rfl, hl_6⟩
  · refine lv_if_eq (tgt := 42) hx hb dX11_unit_18 (by decide +kernel) (fun c_7 => absurd c_7 (by decide +kernel)) (fun _ => ?_)
    refine lv_aload_n hx hb dX11_unit_21 rfl (lv_at hl 1 rfl) ?_
    refine lv_dup hx hb dX11_unit_22 rfl ?_
    refine va_get (D := (dC, dI)) (ci := 11) (v := .int (v 47)) (C := RX11) (T := TX11) (N := 63) hx hb hts in_wsX11_unit_X11 hown hK hP 0 rfl rfl 47 (by decide +kernel) (hts (.fieldLink RX11 210 "ShipOfficeModel" "at" "I") iw_X11_unit_2) (fun _ h9 => h9) rfl dX11_unit_23 ?_
    refine lv_iconst (v := 1) hx hb dX11_unit_26 (by decide +kernel) ?_
    refine lv_iadd hx hb dX11_unit_27 ?_
    refine lv_topi (fun y ey => ?_)
    obtain rfl : y = nI (k + 1) := ey.trans (by rw [ea]; exact nI_1 _)
    refine va_put (D := (dC, dI)) (ci := 11) (v := .int (nI (k + 1))) (ty := .int) (C := RX11) (T := TX11) (N := 63) hx hb hts in_wsX11_unit_X11 tyX11 tyX11_ok nmX11 hown hK hP hD hS 0 rfl rfl 47 (by decide +kernel) (hts (.fieldLink RX11 210 "ShipOfficeModel" "at" "I") iw_X11_unit_2) (fun _ h9 => h9) rfl (by decide +kernel) rfl rfl (Nat.le_of_ble_eq_true rfl) dX11_unit_28 (fun H locs hP hD hS => ?_)
    have hP : va_P (dC, dI) vwCl (mW g0 pq cp (upd v 47 (nI (k + 1))) fa) H := hP
    have hD : va_D A (mW g0 pq cp (upd v 47 (nI (k + 1))) fa) := hD
    obtain ⟨z_8, ez_8⟩ : ∃ zq, zq = (upd v 47 (nI (k + 1))) := ⟨_, rfl⟩
    rw [← ez_8] at hP hD
    have ea_z_8 : z_8 47 = nI (k + 1) := by rw [ez_8]; rfl
    have es_z_8 : z_8 50 = nI n := by rw [ez_8]; exact es
    have hb_z_8 : hbF (z_8 49) fa f n := by rw [ez_8]; exact hb0
    have we_z_8 : z_8 51 = 1 := by rw [ez_8]; exact hwe
    have de_z_8 : z_8 48 = nI 3 := by rw [ez_8]; exact hde
    have sm_z_8 : ∀ i, i ≠ 47 → i ≠ 48 → i ≠ 51 → z_8 i = v i := by intro i h1 h2 h3; rw [ez_8]; exact (if_neg h1).trans ((fun i _ _ _ => rfl) i h1 h2 h3)
    have hkn_z_8 : (k + 1) ≤ n := (isLt_in hl_6)
    have hk0_z_8 : k ≤ (k + 1) := by omega
    refine lv_aload_n hx hb dX11_unit_31 rfl (lv_at hl 1 rfl) ?_
    refine va_get (D := (dC, dI)) (ci := 11) (v := .ref (pq 45)) (C := RX11) (T := TX11) (N := 63) hx hb hts in_wsX11_unit_X11 hown hK hP 0 rfl rfl 45 (by decide +kernel) (hts (.fieldLink RX11 128 "ShipOfficeModel" "letters" "[I") iw_X11_unit_4) (fun _ h9 => h9) rfl dX11_unit_32 ?_
    refine lv_iload_n hx hb dX11_unit_35 rfl (lv_at hl 0 rfl) ?_
    refine va_iald hx hb hK hP 40 39 rfl rfl (isLt_128 hl_6) dX11_unit_36 ?_
    refine lv_i2l (v := (fa 45 (cI f n k : Int32).toNatClampNeg : Int32).toInt64) hx hb dX11_unit_37 rfl ?_
    have hFc : ∀ q, va_A [] H.size q → A q := pu_free hS hA
    have hPc := hP.sub (ws' := []) [] rfl
    have hDc := hD.sub (ws' := []) [] (by decide +kernel) rfl
    have hKc := hK.sub (tys' := []) [] rfl
    refine va_calli (va_runS (As := [.long ((fa 45 (cI f n k : Int32).toNatClampNeg : Int32).toInt64)]) (rest := []) ⟨hx, hb, hml, hown, hts⟩ (c_X11_held_f l dC dI H.size ((fa 45 (cI f n k : Int32).toNatClampNeg : Int32).toInt64)) (va_cwS 1 hts gX11_unit_X11_held rfl rfl rfl (by decide +kernel) ⟨(Nat.le_of_ble_eq_true rfl), (Nat.le_of_ble_eq_true rfl)⟩) (pr_S hPc hKc hDc) rfl rfl hl.1 rfl (lv_room (Nat.le_of_ble_eq_true rfl)) dX11_unit_38 ⟨(Nat.le_of_ble_eq_true rfl), (Nat.le_of_ble_eq_true rfl)⟩) hS (fun q _ h => hFc q h) hFc (fun r_10 u t H locs ht hvm w_9 hB hz1 hk1 hS => ?_)
    have hP := pu_keep hP hk1
    clear hk1 hz1 hvm hB ht hFc hPc hDc hKc
    subst w_9
    exact W.iret (v := (hld ((fa 45 (cI f n k : Int32).toNatClampNeg : Int32).toInt64))) hx hb hr (fun t ht hW => ⟨⟨(hld ((fa 45 (cI f n k : Int32).toNatClampNeg : Int32).toInt64)), (z_8, fa), rfl, ⟨⟨(k + 1), true, _, (congrFun pU_s _).trans (uX_l hl_6), by omega, hkn_z_8, ea_z_8, (Or.inr ⟨rfl, we_z_8, de_z_8, rfl⟩), sm_z_8⟩, rfl⟩, ⟨by rw [ht]; exact hP, va_K.moved hW.alike hK, hD⟩⟩, hS.F ht⟩) hS.2.2 dX11_unit_41
  · refine lv_if_eq (tgt := 42) hx hb dX11_unit_18 (by decide +kernel) (fun _ => ?_) (fun c_11 => absurd c_11 (by decide +kernel))
    refine lv_iload_n hx hb dX11_unit_42 rfl (lv_at hl 0 rfl) ?_
    refine lv_bipush (v := 40) hx hb dX11_unit_43 (by decide +kernel) ?_
    refine lv_icmp_ne (tgt := 210) hx hb dX11_unit_45 (by decide +kernel) (fun c_12 => ?_) (fun c_12 => ?_)
    · refine lv_iconst (v := 0) hx hb dX11_unit_210 (by decide +kernel) ?_
      refine lv_istore_n (lv' := [(2, .int 0), (1, .int (cI f n k)), (0, .ref g0)]) hx hb dX11_unit_211 rfl hl (by decide +kernel) rfl (fun ls hl => ?_)
      refine lv_iconst (v := 0) hx hb dX11_unit_212 (by decide +kernel) ?_
      refine lv_istore_n (lv' := [(3, .int 0), (2, .int 0), (1, .int (cI f n k)), (0, .ref g0)]) hx hb dX11_unit_213 rfl hl (by decide +kernel) rfl (fun ls hl => ?_)
      refine lv_iload_n hx hb dX11_unit_214 rfl (lv_at hl 0 rfl) ?_
      refine lv_iconst (v := 5) hx hb dX11_unit_215 (by decide +kernel) ?_
      refine lv_icmp_ge (tgt := 266) hx hb dX11_unit_216 (by decide +kernel) (fun c_13 => absurd c_13 (by decide +kernel)) (fun _ => ?_)
      refine lv_aload_n hx hb dX11_unit_219 rfl (lv_at hl 3 rfl) ?_
      have hFc : ∀ q, va_A [] H.size q → A q := pu_free hS hA
      refine va_calli (va_runV (As := []) (rest := []) ⟨hx, hb, hml, hown, hts⟩ (c_X11_sign_f l dC dI H.size g0 pq cp v fa k n hk hn ea es f hb0) (cwV 0 hts gX11_unit_X11_sign rfl rfl rfl (by decide +kernel) ⟨(Nat.le_of_ble_eq_true rfl), (Nat.le_of_ble_eq_true rfl)⟩) (pr_V (r := (RX11, TX11, 63)) hP hK hD 0 11 rfl rfl) rfl rfl hl.1 rfl (lv_room (Nat.le_of_ble_eq_true rfl)) dX11_unit_220 ⟨(Nat.le_of_ble_eq_true rfl), (Nat.le_of_ble_eq_true rfl)⟩) hS (fun q _ h => hFc q h) hFc (fun r_15 u t H locs ht hvm w_14 hB hz1 hk1 hS => ?_)
      have hP := pu_keep hP hk1
      clear hk1 hz1 hvm hB ht hFc
      subst w_14
      refine lv_bipush (v := 48) hx hb dX11_unit_223 (by decide +kernel) ?_
      refine lv_icmp_lt (tgt := 266) hx hb dX11_unit_225 (by decide +kernel) (fun c_16 => ?_) (fun c_16 => ?_)
      · refine lv_iload_n hx hb dX11_unit_266 rfl (lv_at hl 0 rfl) ?_
        refine lv_if_ne (tgt := 277) hx hb dX11_unit_267 (by decide +kernel) (fun c_17 => absurd c_17 (by decide +kernel)) (fun _ => ?_)
        refine lv_aload_n hx hb dX11_unit_270 rfl (lv_at hl 3 rfl) ?_
        have hFc := va_free (wc := (mW g0 pq cp v fa)) hD hS hA (List.range 48) rfl
        refine va_calli (va_runV (As := []) (rest := []) ⟨hx, hb, hml, hown, hts⟩ (c_X11_breaks l dC dI H.size g0 pq cp v fa) (cwV 0 hts gX11_unit_X11_breaks rfl rfl rfl (by decide +kernel) ⟨(Nat.le_of_ble_eq_true rfl), (Nat.le_of_ble_eq_true rfl)⟩) (pr_V (r := (RX11, TX11, 63)) hP hK hD 0 11 rfl rfl) rfl rfl hl.1 rfl (lv_room (Nat.le_of_ble_eq_true rfl)) dX11_unit_271 ⟨(Nat.le_of_ble_eq_true rfl), (Nat.le_of_ble_eq_true rfl)⟩) hS (fun q _ h => hFc q h) hFc (fun r_19 u t H locs ht hvm w_18 hB hz1 hk1 hS => ?_)
        obtain ⟨v_20, fa_21⟩ := u
        obtain ⟨hP1, hK1, hD1⟩ := hB
        rw [ht] at hP1
        have hP : va_P (dC, dI) vwCl (mW g0 pq cp v_20 fa_21) H := hP1
        have hD : va_D A (mW g0 pq cp v_20 fa_21) := hD1.weaken (fun _ _ _ h => hFc _ h)
        clear hP1 hK1 hD1 hk1 hz1 hvm ht hFc
        obtain ⟨rfl, ev_22, ef_23⟩ := w_18
        dsimp only at ev_22 ef_23
        have ef2 := ef_23.symm
        subst ef2
        have ea_v_20 : v_20 47 = nI k := by rw [ev_22]; exact ea
        have es_v_20 : v_20 50 = nI n := by rw [ev_22]; exact es
        have hb_v_20 : hbF (v_20 49) fa f n := by rw [ev_22]; exact hb0
        have we_v_20 : v_20 51 = 0 := by rw [ev_22]; rfl
        have de_v_20 : v_20 48 = nI 3 := by rw [ev_22]; exact hde
        have sm_v_20 : ∀ i, i ≠ 47 → i ≠ 48 → i ≠ 51 → v_20 i = v i := by intro i h1 h2 h3; rw [ev_22]; exact (if_neg h3).trans ((fun i _ _ _ => rfl) i h1 h2 h3)
        refine lv_goto (tgt := 278) hx hb dX11_unit_274 (by decide +kernel) ?_
        exact W.iret (v := 0) hx hb hr (fun t ht hW => ⟨⟨0, (v_20, fa), rfl, ⟨⟨k, false, _, (congrFun pU_s _).trans (uX_e hl_6 c_12 (pNum_e (fun h => absurd c_16 (Int32.not_lt.mpr h.1)))), by omega, hk, ea_v_20, (Or.inl ⟨rfl, we_v_20⟩), sm_v_20⟩, rfl⟩, ⟨by rw [ht]; exact hP, va_K.moved hW.alike hK, hD⟩⟩, hS.F ht⟩) hS.2.2 dX11_unit_278
      · refine lv_aload_n hx hb dX11_unit_228 rfl (lv_at hl 3 rfl) ?_
        have hFc : ∀ q, va_A [] H.size q → A q := pu_free hS hA
        refine va_calli (va_runV (As := []) (rest := []) ⟨hx, hb, hml, hown, hts⟩ (c_X11_sign_f l dC dI H.size g0 pq cp v fa k n hk hn ea es f hb0) (cwV 0 hts gX11_unit_X11_sign rfl rfl rfl (by decide +kernel) ⟨(Nat.le_of_ble_eq_true rfl), (Nat.le_of_ble_eq_true rfl)⟩) (pr_V (r := (RX11, TX11, 63)) hP hK hD 0 11 rfl rfl) rfl rfl hl.1 rfl (lv_room (Nat.le_of_ble_eq_true rfl)) dX11_unit_229 ⟨(Nat.le_of_ble_eq_true rfl), (Nat.le_of_ble_eq_true rfl)⟩) hS (fun q _ h => hFc q h) hFc (fun r_25 u t H locs ht hvm w_24 hB hz1 hk1 hS => ?_)
        have hP := pu_keep hP hk1
        clear hk1 hz1 hvm hB ht hFc
        subst w_24
        refine lv_bipush (v := 57) hx hb dX11_unit_232 (by decide +kernel) ?_
        refine lv_icmp_gt (tgt := 266) hx hb dX11_unit_234 (by decide +kernel) (fun c_26 => ?_) (fun c_26 => ?_)
        · refine lv_iload_n hx hb dX11_unit_266 rfl (lv_at hl 0 rfl) ?_
          refine lv_if_ne (tgt := 277) hx hb dX11_unit_267 (by decide +kernel) (fun c_27 => absurd c_27 (by decide +kernel)) (fun _ => ?_)
          refine lv_aload_n hx hb dX11_unit_270 rfl (lv_at hl 3 rfl) ?_
          have hFc := va_free (wc := (mW g0 pq cp v fa)) hD hS hA (List.range 48) rfl
          refine va_calli (va_runV (As := []) (rest := []) ⟨hx, hb, hml, hown, hts⟩ (c_X11_breaks l dC dI H.size g0 pq cp v fa) (cwV 0 hts gX11_unit_X11_breaks rfl rfl rfl (by decide +kernel) ⟨(Nat.le_of_ble_eq_true rfl), (Nat.le_of_ble_eq_true rfl)⟩) (pr_V (r := (RX11, TX11, 63)) hP hK hD 0 11 rfl rfl) rfl rfl hl.1 rfl (lv_room (Nat.le_of_ble_eq_true rfl)) dX11_unit_271 ⟨(Nat.le_of_ble_eq_true rfl), (Nat.le_of_ble_eq_true rfl)⟩) hS (fun q _ h => hFc q h) hFc (fun r_29 u t H locs ht hvm w_28 hB hz1 hk1 hS => ?_)
          obtain ⟨v_30, fa_31⟩ := u
          obtain ⟨hP1, hK1, hD1⟩ := hB
          rw [ht] at hP1
          have hP : va_P (dC, dI) vwCl (mW g0 pq cp v_30 fa_31) H := hP1
          have hD : va_D A (mW g0 pq cp v_30 fa_31) := hD1.weaken (fun _ _ _ h => hFc _ h)
          clear hP1 hK1 hD1 hk1 hz1 hvm ht hFc
          obtain ⟨rfl, ev_32, ef_33⟩ := w_28
          dsimp only at ev_32 ef_33
          have ef2 := ef_33.symm
          subst ef2
          have ea_v_30 : v_30 47 = nI k := by rw [ev_32]; exact ea
          have es_v_30 : v_30 50 = nI n := by rw [ev_32]; exact es
          have hb_v_30 : hbF (v_30 49) fa f n := by rw [ev_32]; exact hb0
          have we_v_30 : v_30 51 = 0 := by rw [ev_32]; rfl
          have de_v_30 : v_30 48 = nI 3 := by rw [ev_32]; exact hde
          have sm_v_30 : ∀ i, i ≠ 47 → i ≠ 48 → i ≠ 51 → v_30 i = v i := by intro i h1 h2 h3; rw [ev_32]; exact (if_neg h3).trans ((fun i _ _ _ => rfl) i h1 h2 h3)
          refine lv_goto (tgt := 278) hx hb dX11_unit_274 (by decide +kernel) ?_
          exact W.iret (v := 0) hx hb hr (fun t ht hW => ⟨⟨0, (v_30, fa), rfl, ⟨⟨k, false, _, (congrFun pU_s _).trans (uX_e hl_6 c_12 (pNum_e (fun h => absurd c_26 (Int32.not_lt.mpr h.2)))), by omega, hk, ea_v_30, (Or.inl ⟨rfl, we_v_30⟩), sm_v_30⟩, rfl⟩, ⟨by rw [ht]; exact hP, va_K.moved hW.alike hK, hD⟩⟩, hS.F ht⟩) hS.2.2 dX11_unit_278
        · refine lv_bipush (v := 10) hx hb dX11_unit_237 (by decide +kernel) ?_
          refine lv_iload_n hx hb dX11_unit_239 rfl (lv_at hl 1 rfl) ?_
          refine lv_imul hx hb dX11_unit_240 ?_
          refine lv_topi (fun y ey => ?_)
          obtain rfl : y = 0 := ey.trans (by decide +kernel)
          refine lv_aload_n hx hb dX11_unit_241 rfl (lv_at hl 3 rfl) ?_
          have hFc : ∀ q, va_A [] H.size q → A q := pu_free hS hA
          refine va_calli (va_runV (As := []) (rest := [.int 0]) ⟨hx, hb, hml, hown, hts⟩ (c_X11_sign_f l dC dI H.size g0 pq cp v fa k n hk hn ea es f hb0) (cwV 0 hts gX11_unit_X11_sign rfl rfl rfl (by decide +kernel) ⟨(Nat.le_of_ble_eq_true rfl), (Nat.le_of_ble_eq_true rfl)⟩) (pr_V (r := (RX11, TX11, 63)) hP hK hD 0 11 rfl rfl) rfl rfl hl.1 rfl (lv_room (Nat.le_of_ble_eq_true rfl)) dX11_unit_242 ⟨(Nat.le_of_ble_eq_true rfl), (Nat.le_of_ble_eq_true rfl)⟩) hS (fun q _ h => hFc q h) hFc (fun r_35 u t H locs ht hvm w_34 hB hz1 hk1 hS => ?_)
          have hP := pu_keep hP hk1
          clear hk1 hz1 hvm hB ht hFc
          subst w_34
          refine lv_iadd hx hb dX11_unit_245 ?_
          refine lv_bipush (v := 48) hx hb dX11_unit_246 (by decide +kernel) ?_
          refine lv_isub hx hb dX11_unit_248 ?_
          refine lv_istore_n (lv' := [(2, .int ((0 + (cI f n k)) - 48)), (3, .int 0), (1, .int (cI f n k)), (0, .ref g0)]) hx hb dX11_unit_249 rfl hl (by decide +kernel) rfl (fun ls hl => ?_)
          refine lv_aload_n hx hb dX11_unit_250 rfl (lv_at hl 3 rfl) ?_
          refine lv_dup hx hb dX11_unit_251 rfl ?_
          refine va_get (D := (dC, dI)) (ci := 11) (v := .int (v 47)) (C := RX11) (T := TX11) (N := 63) hx hb hts in_wsX11_unit_X11 hown hK hP 0 rfl rfl 47 (by decide +kernel) (hts (.fieldLink RX11 210 "ShipOfficeModel" "at" "I") iw_X11_unit_2) (fun _ h9 => h9) rfl dX11_unit_252 ?_
          refine lv_iconst (v := 1) hx hb dX11_unit_255 (by decide +kernel) ?_
          refine lv_iadd hx hb dX11_unit_256 ?_
          refine lv_topi (fun y ey => ?_)
          obtain rfl : y = nI (k + 1) := ey.trans (by rw [ea]; exact nI_1 _)
          refine va_put (D := (dC, dI)) (ci := 11) (v := .int (nI (k + 1))) (ty := .int) (C := RX11) (T := TX11) (N := 63) hx hb hts in_wsX11_unit_X11 tyX11 tyX11_ok nmX11 hown hK hP hD hS 0 rfl rfl 47 (by decide +kernel) (hts (.fieldLink RX11 210 "ShipOfficeModel" "at" "I") iw_X11_unit_2) (fun _ h9 => h9) rfl (by decide +kernel) rfl rfl (Nat.le_of_ble_eq_true rfl) dX11_unit_257 (fun H locs hP hD hS => ?_)
          have hP : va_P (dC, dI) vwCl (mW g0 pq cp (upd v 47 (nI (k + 1))) fa) H := hP
          have hD : va_D A (mW g0 pq cp (upd v 47 (nI (k + 1))) fa) := hD
          obtain ⟨z_36, ez_36⟩ : ∃ zq, zq = (upd v 47 (nI (k + 1))) := ⟨_, rfl⟩
          rw [← ez_36] at hP hD
          have ea_z_36 : z_36 47 = nI (k + 1) := by rw [ez_36]; rfl
          have es_z_36 : z_36 50 = nI n := by rw [ez_36]; exact es
          have hb_z_36 : hbF (z_36 49) fa f n := by rw [ez_36]; exact hb0
          have we_z_36 : z_36 51 = 1 := by rw [ez_36]; exact hwe
          have de_z_36 : z_36 48 = nI 3 := by rw [ez_36]; exact hde
          have sm_z_36 : ∀ i, i ≠ 47 → i ≠ 48 → i ≠ 51 → z_36 i = v i := by intro i h1 h2 h3; rw [ez_36]; exact (if_neg h1).trans ((fun i _ _ _ => rfl) i h1 h2 h3)
          have hkn_z_36 : (k + 1) ≤ n := (cI_nl c_16)
          have hk0_z_36 : k ≤ (k + 1) := by omega
          refine lv_iinc (v := 1) (lv' := [(3, .int 1), (2, .int ((0 + (cI f n k)) - 48)), (1, .int (cI f n k)), (0, .ref g0)]) hx hb dX11_unit_260 hl (k := 1) rfl (by decide +kernel) (by decide +kernel) rfl (fun ls hl => ?_)
          refine lv_goto (tgt := 214) hx hb dX11_unit_263 (by decide +kernel) ?_
          refine lv_iload_n hx hb dX11_unit_214 rfl (lv_at hl 0 rfl) ?_
          refine lv_iconst (v := 5) hx hb dX11_unit_215 (by decide +kernel) ?_
          refine lv_icmp_ge (tgt := 266) hx hb dX11_unit_216 (by decide +kernel) (fun c_37 => absurd c_37 (by decide +kernel)) (fun _ => ?_)
          refine lv_aload_n hx hb dX11_unit_219 rfl (lv_at hl 3 rfl) ?_
          have hFc : ∀ q, va_A [] H.size q → A q := pu_free hS hA
          refine va_calli (va_runV (As := []) (rest := []) ⟨hx, hb, hml, hown, hts⟩ (c_X11_sign_f l dC dI H.size g0 pq cp z_36 fa (k + 1) n hkn_z_36 hn ea_z_36 es_z_36 f hb_z_36) (cwV 0 hts gX11_unit_X11_sign rfl rfl rfl (by decide +kernel) ⟨(Nat.le_of_ble_eq_true rfl), (Nat.le_of_ble_eq_true rfl)⟩) (pr_V (r := (RX11, TX11, 63)) hP hK hD 0 11 rfl rfl) rfl rfl hl.1 rfl (lv_room (Nat.le_of_ble_eq_true rfl)) dX11_unit_220 ⟨(Nat.le_of_ble_eq_true rfl), (Nat.le_of_ble_eq_true rfl)⟩) hS (fun q _ h => hFc q h) hFc (fun r_39 u t H locs ht hvm w_38 hB hz1 hk1 hS => ?_)
          have hP := pu_keep hP hk1
          clear hk1 hz1 hvm hB ht hFc
          subst w_38
          refine lv_bipush (v := 48) hx hb dX11_unit_223 (by decide +kernel) ?_
          refine lv_icmp_lt (tgt := 266) hx hb dX11_unit_225 (by decide +kernel) (fun c_40 => ?_) (fun c_40 => ?_)
          · refine lv_iload_n hx hb dX11_unit_266 rfl (lv_at hl 0 rfl) ?_
            refine lv_if_ne (tgt := 277) hx hb dX11_unit_267 (by decide +kernel) (fun _ => ?_) (fun c_41 => absurd c_41 (by decide +kernel))
            refine lv_iload_n hx hb dX11_unit_277 rfl (lv_at hl 1 rfl) ?_
            exact W.iret (v := ((0 + (cI f n k)) - 48)) hx hb hr (fun t ht hW => ⟨⟨((0 + (cI f n k)) - 48), (z_36, fa), rfl, ⟨⟨(k + 1), true, _, (congrFun pU_s _).trans (uX_n hl_6 c_12 ((pNum_s (Int32.not_lt.mp c_16) (Int32.not_lt.mp c_26)).trans (pNum_e (fun h => absurd c_40 (Int32.not_lt.mpr h.1)))) (by omega)), by omega, hkn_z_36, ea_z_36, (Or.inr ⟨rfl, we_z_36, de_z_36, rfl⟩), sm_z_36⟩, rfl⟩, ⟨by rw [ht]; exact hP, va_K.moved hW.alike hK, hD⟩⟩, hS.F ht⟩) hS.2.2 dX11_unit_278
          · refine lv_aload_n hx hb dX11_unit_228 rfl (lv_at hl 3 rfl) ?_
            have hFc : ∀ q, va_A [] H.size q → A q := pu_free hS hA
            refine va_calli (va_runV (As := []) (rest := []) ⟨hx, hb, hml, hown, hts⟩ (c_X11_sign_f l dC dI H.size g0 pq cp z_36 fa (k + 1) n hkn_z_36 hn ea_z_36 es_z_36 f hb_z_36) (cwV 0 hts gX11_unit_X11_sign rfl rfl rfl (by decide +kernel) ⟨(Nat.le_of_ble_eq_true rfl), (Nat.le_of_ble_eq_true rfl)⟩) (pr_V (r := (RX11, TX11, 63)) hP hK hD 0 11 rfl rfl) rfl rfl hl.1 rfl (lv_room (Nat.le_of_ble_eq_true rfl)) dX11_unit_229 ⟨(Nat.le_of_ble_eq_true rfl), (Nat.le_of_ble_eq_true rfl)⟩) hS (fun q _ h => hFc q h) hFc (fun r_43 u t H locs ht hvm w_42 hB hz1 hk1 hS => ?_)
            have hP := pu_keep hP hk1
            clear hk1 hz1 hvm hB ht hFc
            subst w_42
            refine lv_bipush (v := 57) hx hb dX11_unit_232 (by decide +kernel) ?_
            refine lv_icmp_gt (tgt := 266) hx hb dX11_unit_234 (by decide +kernel) (fun c_44 => ?_) (fun c_44 => ?_)
            · refine lv_iload_n hx hb dX11_unit_266 rfl (lv_at hl 0 rfl) ?_
              refine lv_if_ne (tgt := 277) hx hb dX11_unit_267 (by decide +kernel) (fun _ => ?_) (fun c_45 => absurd c_45 (by decide +kernel))
              refine lv_iload_n hx hb dX11_unit_277 rfl (lv_at hl 1 rfl) ?_
              exact W.iret (v := ((0 + (cI f n k)) - 48)) hx hb hr (fun t ht hW => ⟨⟨((0 + (cI f n k)) - 48), (z_36, fa), rfl, ⟨⟨(k + 1), true, _, (congrFun pU_s _).trans (uX_n hl_6 c_12 ((pNum_s (Int32.not_lt.mp c_16) (Int32.not_lt.mp c_26)).trans (pNum_e (fun h => absurd c_44 (Int32.not_lt.mpr h.2)))) (by omega)), by omega, hkn_z_36, ea_z_36, (Or.inr ⟨rfl, we_z_36, de_z_36, rfl⟩), sm_z_36⟩, rfl⟩, ⟨by rw [ht]; exact hP, va_K.moved hW.alike hK, hD⟩⟩, hS.F ht⟩) hS.2.2 dX11_unit_278
            · refine lv_bipush (v := 10) hx hb dX11_unit_237 (by decide +kernel) ?_
              refine lv_iload_n hx hb dX11_unit_239 rfl (lv_at hl 1 rfl) ?_
              refine lv_imul hx hb dX11_unit_240 ?_
              refine lv_aload_n hx hb dX11_unit_241 rfl (lv_at hl 3 rfl) ?_
              have hFc : ∀ q, va_A [] H.size q → A q := pu_free hS hA
              refine va_calli (va_runV (As := []) (rest := [.int (10 * ((0 + (cI f n k)) - 48))]) ⟨hx, hb, hml, hown, hts⟩ (c_X11_sign_f l dC dI H.size g0 pq cp z_36 fa (k + 1) n hkn_z_36 hn ea_z_36 es_z_36 f hb_z_36) (cwV 0 hts gX11_unit_X11_sign rfl rfl rfl (by decide +kernel) ⟨(Nat.le_of_ble_eq_true rfl), (Nat.le_of_ble_eq_true rfl)⟩) (pr_V (r := (RX11, TX11, 63)) hP hK hD 0 11 rfl rfl) rfl rfl hl.1 rfl (lv_room (Nat.le_of_ble_eq_true rfl)) dX11_unit_242 ⟨(Nat.le_of_ble_eq_true rfl), (Nat.le_of_ble_eq_true rfl)⟩) hS (fun q _ h => hFc q h) hFc (fun r_47 u t H locs ht hvm w_46 hB hz1 hk1 hS => ?_)
              have hP := pu_keep hP hk1
              clear hk1 hz1 hvm hB ht hFc
              subst w_46
              refine lv_iadd hx hb dX11_unit_245 ?_
              refine lv_bipush (v := 48) hx hb dX11_unit_246 (by decide +kernel) ?_
              refine lv_isub hx hb dX11_unit_248 ?_
              refine lv_istore_n (lv' := [(2, .int (((10 * ((0 + (cI f n k)) - 48)) + (cI f n (k + 1))) - 48)), (3, .int 1), (1, .int (cI f n k)), (0, .ref g0)]) hx hb dX11_unit_249 rfl hl (by decide +kernel) rfl (fun ls hl => ?_)
              refine lv_aload_n hx hb dX11_unit_250 rfl (lv_at hl 3 rfl) ?_
              refine lv_dup hx hb dX11_unit_251 rfl ?_
              refine va_get (D := (dC, dI)) (ci := 11) (v := .int (z_36 47)) (C := RX11) (T := TX11) (N := 63) hx hb hts in_wsX11_unit_X11 hown hK hP 0 rfl rfl 47 (by decide +kernel) (hts (.fieldLink RX11 210 "ShipOfficeModel" "at" "I") iw_X11_unit_2) (fun _ h9 => h9) rfl dX11_unit_252 ?_
              refine lv_iconst (v := 1) hx hb dX11_unit_255 (by decide +kernel) ?_
              refine lv_iadd hx hb dX11_unit_256 ?_
              refine lv_topi (fun y ey => ?_)
              obtain rfl : y = nI ((k + 1) + 1) := ey.trans (by rw [ea_z_36]; exact nI_1 _)
              refine va_put (D := (dC, dI)) (ci := 11) (v := .int (nI ((k + 1) + 1))) (ty := .int) (C := RX11) (T := TX11) (N := 63) hx hb hts in_wsX11_unit_X11 tyX11 tyX11_ok nmX11 hown hK hP hD hS 0 rfl rfl 47 (by decide +kernel) (hts (.fieldLink RX11 210 "ShipOfficeModel" "at" "I") iw_X11_unit_2) (fun _ h9 => h9) rfl (by decide +kernel) rfl rfl (Nat.le_of_ble_eq_true rfl) dX11_unit_257 (fun H locs hP hD hS => ?_)
              have hP : va_P (dC, dI) vwCl (mW g0 pq cp (upd z_36 47 (nI ((k + 1) + 1))) fa) H := hP
              have hD : va_D A (mW g0 pq cp (upd z_36 47 (nI ((k + 1) + 1))) fa) := hD
              obtain ⟨z_48, ez_48⟩ : ∃ zq, zq = (upd z_36 47 (nI ((k + 1) + 1))) := ⟨_, rfl⟩
              rw [← ez_48] at hP hD
              have ea_z_48 : z_48 47 = nI ((k + 1) + 1) := by rw [ez_48]; rfl
              have es_z_48 : z_48 50 = nI n := by rw [ez_48]; exact es_z_36
              have hb_z_48 : hbF (z_48 49) fa f n := by rw [ez_48]; exact hb_z_36
              have we_z_48 : z_48 51 = 1 := by rw [ez_48]; exact we_z_36
              have de_z_48 : z_48 48 = nI 3 := by rw [ez_48]; exact de_z_36
              have sm_z_48 : ∀ i, i ≠ 47 → i ≠ 48 → i ≠ 51 → z_48 i = v i := by intro i h1 h2 h3; rw [ez_48]; exact (if_neg h1).trans (sm_z_36 i h1 h2 h3)
              have hkn_z_48 : ((k + 1) + 1) ≤ n := (cI_nl c_40)
              have hk0_z_48 : k ≤ ((k + 1) + 1) := by omega
              refine lv_iinc (v := 2) (lv' := [(3, .int 2), (2, .int (((10 * ((0 + (cI f n k)) - 48)) + (cI f n (k + 1))) - 48)), (1, .int (cI f n k)), (0, .ref g0)]) hx hb dX11_unit_260 hl (k := 1) rfl (by decide +kernel) (by decide +kernel) rfl (fun ls hl => ?_)
              refine lv_goto (tgt := 214) hx hb dX11_unit_263 (by decide +kernel) ?_
              refine lv_iload_n hx hb dX11_unit_214 rfl (lv_at hl 0 rfl) ?_
              refine lv_iconst (v := 5) hx hb dX11_unit_215 (by decide +kernel) ?_
              refine lv_icmp_ge (tgt := 266) hx hb dX11_unit_216 (by decide +kernel) (fun c_49 => absurd c_49 (by decide +kernel)) (fun _ => ?_)
              refine lv_aload_n hx hb dX11_unit_219 rfl (lv_at hl 3 rfl) ?_
              have hFc : ∀ q, va_A [] H.size q → A q := pu_free hS hA
              refine va_calli (va_runV (As := []) (rest := []) ⟨hx, hb, hml, hown, hts⟩ (c_X11_sign_f l dC dI H.size g0 pq cp z_48 fa ((k + 1) + 1) n hkn_z_48 hn ea_z_48 es_z_48 f hb_z_48) (cwV 0 hts gX11_unit_X11_sign rfl rfl rfl (by decide +kernel) ⟨(Nat.le_of_ble_eq_true rfl), (Nat.le_of_ble_eq_true rfl)⟩) (pr_V (r := (RX11, TX11, 63)) hP hK hD 0 11 rfl rfl) rfl rfl hl.1 rfl (lv_room (Nat.le_of_ble_eq_true rfl)) dX11_unit_220 ⟨(Nat.le_of_ble_eq_true rfl), (Nat.le_of_ble_eq_true rfl)⟩) hS (fun q _ h => hFc q h) hFc (fun r_51 u t H locs ht hvm w_50 hB hz1 hk1 hS => ?_)
              have hP := pu_keep hP hk1
              clear hk1 hz1 hvm hB ht hFc
              subst w_50
              refine lv_bipush (v := 48) hx hb dX11_unit_223 (by decide +kernel) ?_
              refine lv_icmp_lt (tgt := 266) hx hb dX11_unit_225 (by decide +kernel) (fun c_52 => ?_) (fun c_52 => ?_)
              · refine lv_iload_n hx hb dX11_unit_266 rfl (lv_at hl 0 rfl) ?_
                refine lv_if_ne (tgt := 277) hx hb dX11_unit_267 (by decide +kernel) (fun _ => ?_) (fun c_53 => absurd c_53 (by decide +kernel))
                refine lv_iload_n hx hb dX11_unit_277 rfl (lv_at hl 1 rfl) ?_
                exact W.iret (v := (((10 * ((0 + (cI f n k)) - 48)) + (cI f n (k + 1))) - 48)) hx hb hr (fun t ht hW => ⟨⟨(((10 * ((0 + (cI f n k)) - 48)) + (cI f n (k + 1))) - 48), (z_48, fa), rfl, ⟨⟨((k + 1) + 1), true, _, (congrFun pU_s _).trans (uX_n hl_6 c_12 ((pNum_s (Int32.not_lt.mp c_16) (Int32.not_lt.mp c_26)).trans ((pNum_s (Int32.not_lt.mp c_40) (Int32.not_lt.mp c_44)).trans (pNum_e (fun h => absurd c_52 (Int32.not_lt.mpr h.1))))) (by omega)), by omega, hkn_z_48, ea_z_48, (Or.inr ⟨rfl, we_z_48, de_z_48, rfl⟩), sm_z_48⟩, rfl⟩, ⟨by rw [ht]; exact hP, va_K.moved hW.alike hK, hD⟩⟩, hS.F ht⟩) hS.2.2 dX11_unit_278
              · refine lv_aload_n hx hb dX11_unit_228 rfl (lv_at hl 3 rfl) ?_
                have hFc : ∀ q, va_A [] H.size q → A q := pu_free hS hA
                refine va_calli (va_runV (As := []) (rest := []) ⟨hx, hb, hml, hown, hts⟩ (c_X11_sign_f l dC dI H.size g0 pq cp z_48 fa ((k + 1) + 1) n hkn_z_48 hn ea_z_48 es_z_48 f hb_z_48) (cwV 0 hts gX11_unit_X11_sign rfl rfl rfl (by decide +kernel) ⟨(Nat.le_of_ble_eq_true rfl), (Nat.le_of_ble_eq_true rfl)⟩) (pr_V (r := (RX11, TX11, 63)) hP hK hD 0 11 rfl rfl) rfl rfl hl.1 rfl (lv_room (Nat.le_of_ble_eq_true rfl)) dX11_unit_229 ⟨(Nat.le_of_ble_eq_true rfl), (Nat.le_of_ble_eq_true rfl)⟩) hS (fun q _ h => hFc q h) hFc (fun r_55 u t H locs ht hvm w_54 hB hz1 hk1 hS => ?_)
                have hP := pu_keep hP hk1
                clear hk1 hz1 hvm hB ht hFc
                subst w_54
                refine lv_bipush (v := 57) hx hb dX11_unit_232 (by decide +kernel) ?_
                refine lv_icmp_gt (tgt := 266) hx hb dX11_unit_234 (by decide +kernel) (fun c_56 => ?_) (fun c_56 => ?_)
                · refine lv_iload_n hx hb dX11_unit_266 rfl (lv_at hl 0 rfl) ?_
                  refine lv_if_ne (tgt := 277) hx hb dX11_unit_267 (by decide +kernel) (fun _ => ?_) (fun c_57 => absurd c_57 (by decide +kernel))
                  refine lv_iload_n hx hb dX11_unit_277 rfl (lv_at hl 1 rfl) ?_
                  exact W.iret (v := (((10 * ((0 + (cI f n k)) - 48)) + (cI f n (k + 1))) - 48)) hx hb hr (fun t ht hW => ⟨⟨(((10 * ((0 + (cI f n k)) - 48)) + (cI f n (k + 1))) - 48), (z_48, fa), rfl, ⟨⟨((k + 1) + 1), true, _, (congrFun pU_s _).trans (uX_n hl_6 c_12 ((pNum_s (Int32.not_lt.mp c_16) (Int32.not_lt.mp c_26)).trans ((pNum_s (Int32.not_lt.mp c_40) (Int32.not_lt.mp c_44)).trans (pNum_e (fun h => absurd c_56 (Int32.not_lt.mpr h.2))))) (by omega)), by omega, hkn_z_48, ea_z_48, (Or.inr ⟨rfl, we_z_48, de_z_48, rfl⟩), sm_z_48⟩, rfl⟩, ⟨by rw [ht]; exact hP, va_K.moved hW.alike hK, hD⟩⟩, hS.F ht⟩) hS.2.2 dX11_unit_278
                · refine lv_bipush (v := 10) hx hb dX11_unit_237 (by decide +kernel) ?_
                  refine lv_iload_n hx hb dX11_unit_239 rfl (lv_at hl 1 rfl) ?_
                  refine lv_imul hx hb dX11_unit_240 ?_
                  refine lv_aload_n hx hb dX11_unit_241 rfl (lv_at hl 3 rfl) ?_
                  have hFc : ∀ q, va_A [] H.size q → A q := pu_free hS hA
                  refine va_calli (va_runV (As := []) (rest := [.int (10 * (((10 * ((0 + (cI f n k)) - 48)) + (cI f n (k + 1))) - 48))]) ⟨hx, hb, hml, hown, hts⟩ (c_X11_sign_f l dC dI H.size g0 pq cp z_48 fa ((k + 1) + 1) n hkn_z_48 hn ea_z_48 es_z_48 f hb_z_48) (cwV 0 hts gX11_unit_X11_sign rfl rfl rfl (by decide +kernel) ⟨(Nat.le_of_ble_eq_true rfl), (Nat.le_of_ble_eq_true rfl)⟩) (pr_V (r := (RX11, TX11, 63)) hP hK hD 0 11 rfl rfl) rfl rfl hl.1 rfl (lv_room (Nat.le_of_ble_eq_true rfl)) dX11_unit_242 ⟨(Nat.le_of_ble_eq_true rfl), (Nat.le_of_ble_eq_true rfl)⟩) hS (fun q _ h => hFc q h) hFc (fun r_59 u t H locs ht hvm w_58 hB hz1 hk1 hS => ?_)
                  have hP := pu_keep hP hk1
                  clear hk1 hz1 hvm hB ht hFc
                  subst w_58
                  refine lv_iadd hx hb dX11_unit_245 ?_
                  refine lv_bipush (v := 48) hx hb dX11_unit_246 (by decide +kernel) ?_
                  refine lv_isub hx hb dX11_unit_248 ?_
                  refine lv_istore_n (lv' := [(2, .int (((10 * (((10 * ((0 + (cI f n k)) - 48)) + (cI f n (k + 1))) - 48)) + (cI f n ((k + 1) + 1))) - 48)), (3, .int 2), (1, .int (cI f n k)), (0, .ref g0)]) hx hb dX11_unit_249 rfl hl (by decide +kernel) rfl (fun ls hl => ?_)
                  refine lv_aload_n hx hb dX11_unit_250 rfl (lv_at hl 3 rfl) ?_
                  refine lv_dup hx hb dX11_unit_251 rfl ?_
                  refine va_get (D := (dC, dI)) (ci := 11) (v := .int (z_48 47)) (C := RX11) (T := TX11) (N := 63) hx hb hts in_wsX11_unit_X11 hown hK hP 0 rfl rfl 47 (by decide +kernel) (hts (.fieldLink RX11 210 "ShipOfficeModel" "at" "I") iw_X11_unit_2) (fun _ h9 => h9) rfl dX11_unit_252 ?_
                  refine lv_iconst (v := 1) hx hb dX11_unit_255 (by decide +kernel) ?_
                  refine lv_iadd hx hb dX11_unit_256 ?_
                  refine lv_topi (fun y ey => ?_)
                  obtain rfl : y = nI (((k + 1) + 1) + 1) := ey.trans (by rw [ea_z_48]; exact nI_1 _)
                  refine va_put (D := (dC, dI)) (ci := 11) (v := .int (nI (((k + 1) + 1) + 1))) (ty := .int) (C := RX11) (T := TX11) (N := 63) hx hb hts in_wsX11_unit_X11 tyX11 tyX11_ok nmX11 hown hK hP hD hS 0 rfl rfl 47 (by decide +kernel) (hts (.fieldLink RX11 210 "ShipOfficeModel" "at" "I") iw_X11_unit_2) (fun _ h9 => h9) rfl (by decide +kernel) rfl rfl (Nat.le_of_ble_eq_true rfl) dX11_unit_257 (fun H locs hP hD hS => ?_)
                  have hP : va_P (dC, dI) vwCl (mW g0 pq cp (upd z_48 47 (nI (((k + 1) + 1) + 1))) fa) H := hP
                  have hD : va_D A (mW g0 pq cp (upd z_48 47 (nI (((k + 1) + 1) + 1))) fa) := hD
                  obtain ⟨z_60, ez_60⟩ : ∃ zq, zq = (upd z_48 47 (nI (((k + 1) + 1) + 1))) := ⟨_, rfl⟩
                  rw [← ez_60] at hP hD
                  have ea_z_60 : z_60 47 = nI (((k + 1) + 1) + 1) := by rw [ez_60]; rfl
                  have es_z_60 : z_60 50 = nI n := by rw [ez_60]; exact es_z_48
                  have hb_z_60 : hbF (z_60 49) fa f n := by rw [ez_60]; exact hb_z_48
                  have we_z_60 : z_60 51 = 1 := by rw [ez_60]; exact we_z_48
                  have de_z_60 : z_60 48 = nI 3 := by rw [ez_60]; exact de_z_48
                  have sm_z_60 : ∀ i, i ≠ 47 → i ≠ 48 → i ≠ 51 → z_60 i = v i := by intro i h1 h2 h3; rw [ez_60]; exact (if_neg h1).trans (sm_z_48 i h1 h2 h3)
                  have hkn_z_60 : (((k + 1) + 1) + 1) ≤ n := (cI_nl c_52)
                  have hk0_z_60 : k ≤ (((k + 1) + 1) + 1) := by omega
                  refine lv_iinc (v := 3) (lv' := [(3, .int 3), (2, .int (((10 * (((10 * ((0 + (cI f n k)) - 48)) + (cI f n (k + 1))) - 48)) + (cI f n ((k + 1) + 1))) - 48)), (1, .int (cI f n k)), (0, .ref g0)]) hx hb dX11_unit_260 hl (k := 1) rfl (by decide +kernel) (by decide +kernel) rfl (fun ls hl => ?_)
                  refine lv_goto (tgt := 214) hx hb dX11_unit_263 (by decide +kernel) ?_
                  refine lv_iload_n hx hb dX11_unit_214 rfl (lv_at hl 0 rfl) ?_
                  refine lv_iconst (v := 5) hx hb dX11_unit_215 (by decide +kernel) ?_
                  refine lv_icmp_ge (tgt := 266) hx hb dX11_unit_216 (by decide +kernel) (fun c_61 => absurd c_61 (by decide +kernel)) (fun _ => ?_)
                  refine lv_aload_n hx hb dX11_unit_219 rfl (lv_at hl 3 rfl) ?_
                  have hFc : ∀ q, va_A [] H.size q → A q := pu_free hS hA
                  refine va_calli (va_runV (As := []) (rest := []) ⟨hx, hb, hml, hown, hts⟩ (c_X11_sign_f l dC dI H.size g0 pq cp z_60 fa (((k + 1) + 1) + 1) n hkn_z_60 hn ea_z_60 es_z_60 f hb_z_60) (cwV 0 hts gX11_unit_X11_sign rfl rfl rfl (by decide +kernel) ⟨(Nat.le_of_ble_eq_true rfl), (Nat.le_of_ble_eq_true rfl)⟩) (pr_V (r := (RX11, TX11, 63)) hP hK hD 0 11 rfl rfl) rfl rfl hl.1 rfl (lv_room (Nat.le_of_ble_eq_true rfl)) dX11_unit_220 ⟨(Nat.le_of_ble_eq_true rfl), (Nat.le_of_ble_eq_true rfl)⟩) hS (fun q _ h => hFc q h) hFc (fun r_63 u t H locs ht hvm w_62 hB hz1 hk1 hS => ?_)
                  have hP := pu_keep hP hk1
                  clear hk1 hz1 hvm hB ht hFc
                  subst w_62
                  refine lv_bipush (v := 48) hx hb dX11_unit_223 (by decide +kernel) ?_
                  refine lv_icmp_lt (tgt := 266) hx hb dX11_unit_225 (by decide +kernel) (fun c_64 => ?_) (fun c_64 => ?_)
                  · refine lv_iload_n hx hb dX11_unit_266 rfl (lv_at hl 0 rfl) ?_
                    refine lv_if_ne (tgt := 277) hx hb dX11_unit_267 (by decide +kernel) (fun _ => ?_) (fun c_65 => absurd c_65 (by decide +kernel))
                    refine lv_iload_n hx hb dX11_unit_277 rfl (lv_at hl 1 rfl) ?_
                    exact W.iret (v := (((10 * (((10 * ((0 + (cI f n k)) - 48)) + (cI f n (k + 1))) - 48)) + (cI f n ((k + 1) + 1))) - 48)) hx hb hr (fun t ht hW => ⟨⟨(((10 * (((10 * ((0 + (cI f n k)) - 48)) + (cI f n (k + 1))) - 48)) + (cI f n ((k + 1) + 1))) - 48), (z_60, fa), rfl, ⟨⟨(((k + 1) + 1) + 1), true, _, (congrFun pU_s _).trans (uX_n hl_6 c_12 ((pNum_s (Int32.not_lt.mp c_16) (Int32.not_lt.mp c_26)).trans ((pNum_s (Int32.not_lt.mp c_40) (Int32.not_lt.mp c_44)).trans ((pNum_s (Int32.not_lt.mp c_52) (Int32.not_lt.mp c_56)).trans (pNum_e (fun h => absurd c_64 (Int32.not_lt.mpr h.1)))))) (by omega)), by omega, hkn_z_60, ea_z_60, (Or.inr ⟨rfl, we_z_60, de_z_60, rfl⟩), sm_z_60⟩, rfl⟩, ⟨by rw [ht]; exact hP, va_K.moved hW.alike hK, hD⟩⟩, hS.F ht⟩) hS.2.2 dX11_unit_278
                  · refine lv_aload_n hx hb dX11_unit_228 rfl (lv_at hl 3 rfl) ?_
                    have hFc : ∀ q, va_A [] H.size q → A q := pu_free hS hA
                    refine va_calli (va_runV (As := []) (rest := []) ⟨hx, hb, hml, hown, hts⟩ (c_X11_sign_f l dC dI H.size g0 pq cp z_60 fa (((k + 1) + 1) + 1) n hkn_z_60 hn ea_z_60 es_z_60 f hb_z_60) (cwV 0 hts gX11_unit_X11_sign rfl rfl rfl (by decide +kernel) ⟨(Nat.le_of_ble_eq_true rfl), (Nat.le_of_ble_eq_true rfl)⟩) (pr_V (r := (RX11, TX11, 63)) hP hK hD 0 11 rfl rfl) rfl rfl hl.1 rfl (lv_room (Nat.le_of_ble_eq_true rfl)) dX11_unit_229 ⟨(Nat.le_of_ble_eq_true rfl), (Nat.le_of_ble_eq_true rfl)⟩) hS (fun q _ h => hFc q h) hFc (fun r_67 u t H locs ht hvm w_66 hB hz1 hk1 hS => ?_)
                    have hP := pu_keep hP hk1
                    clear hk1 hz1 hvm hB ht hFc
                    subst w_66
                    refine lv_bipush (v := 57) hx hb dX11_unit_232 (by decide +kernel) ?_
                    refine lv_icmp_gt (tgt := 266) hx hb dX11_unit_234 (by decide +kernel) (fun c_68 => ?_) (fun c_68 => ?_)
                    · refine lv_iload_n hx hb dX11_unit_266 rfl (lv_at hl 0 rfl) ?_
                      refine lv_if_ne (tgt := 277) hx hb dX11_unit_267 (by decide +kernel) (fun _ => ?_) (fun c_69 => absurd c_69 (by decide +kernel))
                      refine lv_iload_n hx hb dX11_unit_277 rfl (lv_at hl 1 rfl) ?_
                      exact W.iret (v := (((10 * (((10 * ((0 + (cI f n k)) - 48)) + (cI f n (k + 1))) - 48)) + (cI f n ((k + 1) + 1))) - 48)) hx hb hr (fun t ht hW => ⟨⟨(((10 * (((10 * ((0 + (cI f n k)) - 48)) + (cI f n (k + 1))) - 48)) + (cI f n ((k + 1) + 1))) - 48), (z_60, fa), rfl, ⟨⟨(((k + 1) + 1) + 1), true, _, (congrFun pU_s _).trans (uX_n hl_6 c_12 ((pNum_s (Int32.not_lt.mp c_16) (Int32.not_lt.mp c_26)).trans ((pNum_s (Int32.not_lt.mp c_40) (Int32.not_lt.mp c_44)).trans ((pNum_s (Int32.not_lt.mp c_52) (Int32.not_lt.mp c_56)).trans (pNum_e (fun h => absurd c_68 (Int32.not_lt.mpr h.2)))))) (by omega)), by omega, hkn_z_60, ea_z_60, (Or.inr ⟨rfl, we_z_60, de_z_60, rfl⟩), sm_z_60⟩, rfl⟩, ⟨by rw [ht]; exact hP, va_K.moved hW.alike hK, hD⟩⟩, hS.F ht⟩) hS.2.2 dX11_unit_278
                    · refine lv_bipush (v := 10) hx hb dX11_unit_237 (by decide +kernel) ?_
                      refine lv_iload_n hx hb dX11_unit_239 rfl (lv_at hl 1 rfl) ?_
                      refine lv_imul hx hb dX11_unit_240 ?_
                      refine lv_aload_n hx hb dX11_unit_241 rfl (lv_at hl 3 rfl) ?_
                      have hFc : ∀ q, va_A [] H.size q → A q := pu_free hS hA
                      refine va_calli (va_runV (As := []) (rest := [.int (10 * (((10 * (((10 * ((0 + (cI f n k)) - 48)) + (cI f n (k + 1))) - 48)) + (cI f n ((k + 1) + 1))) - 48))]) ⟨hx, hb, hml, hown, hts⟩ (c_X11_sign_f l dC dI H.size g0 pq cp z_60 fa (((k + 1) + 1) + 1) n hkn_z_60 hn ea_z_60 es_z_60 f hb_z_60) (cwV 0 hts gX11_unit_X11_sign rfl rfl rfl (by decide +kernel) ⟨(Nat.le_of_ble_eq_true rfl), (Nat.le_of_ble_eq_true rfl)⟩) (pr_V (r := (RX11, TX11, 63)) hP hK hD 0 11 rfl rfl) rfl rfl hl.1 rfl (lv_room (Nat.le_of_ble_eq_true rfl)) dX11_unit_242 ⟨(Nat.le_of_ble_eq_true rfl), (Nat.le_of_ble_eq_true rfl)⟩) hS (fun q _ h => hFc q h) hFc (fun r_71 u t H locs ht hvm w_70 hB hz1 hk1 hS => ?_)
                      have hP := pu_keep hP hk1
                      clear hk1 hz1 hvm hB ht hFc
                      subst w_70
                      refine lv_iadd hx hb dX11_unit_245 ?_
                      refine lv_bipush (v := 48) hx hb dX11_unit_246 (by decide +kernel) ?_
                      refine lv_isub hx hb dX11_unit_248 ?_
                      refine lv_istore_n (lv' := [(2, .int (((10 * (((10 * (((10 * ((0 + (cI f n k)) - 48)) + (cI f n (k + 1))) - 48)) + (cI f n ((k + 1) + 1))) - 48)) + (cI f n (((k + 1) + 1) + 1))) - 48)), (3, .int 3), (1, .int (cI f n k)), (0, .ref g0)]) hx hb dX11_unit_249 rfl hl (by decide +kernel) rfl (fun ls hl => ?_)
                      refine lv_aload_n hx hb dX11_unit_250 rfl (lv_at hl 3 rfl) ?_
                      refine lv_dup hx hb dX11_unit_251 rfl ?_
                      refine va_get (D := (dC, dI)) (ci := 11) (v := .int (z_60 47)) (C := RX11) (T := TX11) (N := 63) hx hb hts in_wsX11_unit_X11 hown hK hP 0 rfl rfl 47 (by decide +kernel) (hts (.fieldLink RX11 210 "ShipOfficeModel" "at" "I") iw_X11_unit_2) (fun _ h9 => h9) rfl dX11_unit_252 ?_
                      refine lv_iconst (v := 1) hx hb dX11_unit_255 (by decide +kernel) ?_
                      refine lv_iadd hx hb dX11_unit_256 ?_
                      refine lv_topi (fun y ey => ?_)
                      obtain rfl : y = nI ((((k + 1) + 1) + 1) + 1) := ey.trans (by rw [ea_z_60]; exact nI_1 _)
                      refine va_put (D := (dC, dI)) (ci := 11) (v := .int (nI ((((k + 1) + 1) + 1) + 1))) (ty := .int) (C := RX11) (T := TX11) (N := 63) hx hb hts in_wsX11_unit_X11 tyX11 tyX11_ok nmX11 hown hK hP hD hS 0 rfl rfl 47 (by decide +kernel) (hts (.fieldLink RX11 210 "ShipOfficeModel" "at" "I") iw_X11_unit_2) (fun _ h9 => h9) rfl (by decide +kernel) rfl rfl (Nat.le_of_ble_eq_true rfl) dX11_unit_257 (fun H locs hP hD hS => ?_)
                      have hP : va_P (dC, dI) vwCl (mW g0 pq cp (upd z_60 47 (nI ((((k + 1) + 1) + 1) + 1))) fa) H := hP
                      have hD : va_D A (mW g0 pq cp (upd z_60 47 (nI ((((k + 1) + 1) + 1) + 1))) fa) := hD
                      obtain ⟨z_72, ez_72⟩ : ∃ zq, zq = (upd z_60 47 (nI ((((k + 1) + 1) + 1) + 1))) := ⟨_, rfl⟩
                      rw [← ez_72] at hP hD
                      have ea_z_72 : z_72 47 = nI ((((k + 1) + 1) + 1) + 1) := by rw [ez_72]; rfl
                      have es_z_72 : z_72 50 = nI n := by rw [ez_72]; exact es_z_60
                      have hb_z_72 : hbF (z_72 49) fa f n := by rw [ez_72]; exact hb_z_60
                      have we_z_72 : z_72 51 = 1 := by rw [ez_72]; exact we_z_60
                      have de_z_72 : z_72 48 = nI 3 := by rw [ez_72]; exact de_z_60
                      have sm_z_72 : ∀ i, i ≠ 47 → i ≠ 48 → i ≠ 51 → z_72 i = v i := by intro i h1 h2 h3; rw [ez_72]; exact (if_neg h1).trans (sm_z_60 i h1 h2 h3)
                      have hkn_z_72 : ((((k + 1) + 1) + 1) + 1) ≤ n := (cI_nl c_64)
                      have hk0_z_72 : k ≤ ((((k + 1) + 1) + 1) + 1) := by omega
                      refine lv_iinc (v := 4) (lv' := [(3, .int 4), (2, .int (((10 * (((10 * (((10 * ((0 + (cI f n k)) - 48)) + (cI f n (k + 1))) - 48)) + (cI f n ((k + 1) + 1))) - 48)) + (cI f n (((k + 1) + 1) + 1))) - 48)), (1, .int (cI f n k)), (0, .ref g0)]) hx hb dX11_unit_260 hl (k := 1) rfl (by decide +kernel) (by decide +kernel) rfl (fun ls hl => ?_)
                      refine lv_goto (tgt := 214) hx hb dX11_unit_263 (by decide +kernel) ?_
                      refine lv_iload_n hx hb dX11_unit_214 rfl (lv_at hl 0 rfl) ?_
                      refine lv_iconst (v := 5) hx hb dX11_unit_215 (by decide +kernel) ?_
                      refine lv_icmp_ge (tgt := 266) hx hb dX11_unit_216 (by decide +kernel) (fun c_73 => absurd c_73 (by decide +kernel)) (fun _ => ?_)
                      refine lv_aload_n hx hb dX11_unit_219 rfl (lv_at hl 3 rfl) ?_
                      have hFc : ∀ q, va_A [] H.size q → A q := pu_free hS hA
                      refine va_calli (va_runV (As := []) (rest := []) ⟨hx, hb, hml, hown, hts⟩ (c_X11_sign_f l dC dI H.size g0 pq cp z_72 fa ((((k + 1) + 1) + 1) + 1) n hkn_z_72 hn ea_z_72 es_z_72 f hb_z_72) (cwV 0 hts gX11_unit_X11_sign rfl rfl rfl (by decide +kernel) ⟨(Nat.le_of_ble_eq_true rfl), (Nat.le_of_ble_eq_true rfl)⟩) (pr_V (r := (RX11, TX11, 63)) hP hK hD 0 11 rfl rfl) rfl rfl hl.1 rfl (lv_room (Nat.le_of_ble_eq_true rfl)) dX11_unit_220 ⟨(Nat.le_of_ble_eq_true rfl), (Nat.le_of_ble_eq_true rfl)⟩) hS (fun q _ h => hFc q h) hFc (fun r_75 u t H locs ht hvm w_74 hB hz1 hk1 hS => ?_)
                      have hP := pu_keep hP hk1
                      clear hk1 hz1 hvm hB ht hFc
                      subst w_74
                      refine lv_bipush (v := 48) hx hb dX11_unit_223 (by decide +kernel) ?_
                      refine lv_icmp_lt (tgt := 266) hx hb dX11_unit_225 (by decide +kernel) (fun c_76 => ?_) (fun c_76 => ?_)
                      · refine lv_iload_n hx hb dX11_unit_266 rfl (lv_at hl 0 rfl) ?_
                        refine lv_if_ne (tgt := 277) hx hb dX11_unit_267 (by decide +kernel) (fun _ => ?_) (fun c_77 => absurd c_77 (by decide +kernel))
                        refine lv_iload_n hx hb dX11_unit_277 rfl (lv_at hl 1 rfl) ?_
                        exact W.iret (v := (((10 * (((10 * (((10 * ((0 + (cI f n k)) - 48)) + (cI f n (k + 1))) - 48)) + (cI f n ((k + 1) + 1))) - 48)) + (cI f n (((k + 1) + 1) + 1))) - 48)) hx hb hr (fun t ht hW => ⟨⟨(((10 * (((10 * (((10 * ((0 + (cI f n k)) - 48)) + (cI f n (k + 1))) - 48)) + (cI f n ((k + 1) + 1))) - 48)) + (cI f n (((k + 1) + 1) + 1))) - 48), (z_72, fa), rfl, ⟨⟨((((k + 1) + 1) + 1) + 1), true, _, (congrFun pU_s _).trans (uX_n hl_6 c_12 ((pNum_s (Int32.not_lt.mp c_16) (Int32.not_lt.mp c_26)).trans ((pNum_s (Int32.not_lt.mp c_40) (Int32.not_lt.mp c_44)).trans ((pNum_s (Int32.not_lt.mp c_52) (Int32.not_lt.mp c_56)).trans ((pNum_s (Int32.not_lt.mp c_64) (Int32.not_lt.mp c_68)).trans (pNum_e (fun h => absurd c_76 (Int32.not_lt.mpr h.1))))))) (by omega)), by omega, hkn_z_72, ea_z_72, (Or.inr ⟨rfl, we_z_72, de_z_72, rfl⟩), sm_z_72⟩, rfl⟩, ⟨by rw [ht]; exact hP, va_K.moved hW.alike hK, hD⟩⟩, hS.F ht⟩) hS.2.2 dX11_unit_278
                      · refine lv_aload_n hx hb dX11_unit_228 rfl (lv_at hl 3 rfl) ?_
                        have hFc : ∀ q, va_A [] H.size q → A q := pu_free hS hA
                        refine va_calli (va_runV (As := []) (rest := []) ⟨hx, hb, hml, hown, hts⟩ (c_X11_sign_f l dC dI H.size g0 pq cp z_72 fa ((((k + 1) + 1) + 1) + 1) n hkn_z_72 hn ea_z_72 es_z_72 f hb_z_72) (cwV 0 hts gX11_unit_X11_sign rfl rfl rfl (by decide +kernel) ⟨(Nat.le_of_ble_eq_true rfl), (Nat.le_of_ble_eq_true rfl)⟩) (pr_V (r := (RX11, TX11, 63)) hP hK hD 0 11 rfl rfl) rfl rfl hl.1 rfl (lv_room (Nat.le_of_ble_eq_true rfl)) dX11_unit_229 ⟨(Nat.le_of_ble_eq_true rfl), (Nat.le_of_ble_eq_true rfl)⟩) hS (fun q _ h => hFc q h) hFc (fun r_79 u t H locs ht hvm w_78 hB hz1 hk1 hS => ?_)
                        have hP := pu_keep hP hk1
                        clear hk1 hz1 hvm hB ht hFc
                        subst w_78
                        refine lv_bipush (v := 57) hx hb dX11_unit_232 (by decide +kernel) ?_
                        refine lv_icmp_gt (tgt := 266) hx hb dX11_unit_234 (by decide +kernel) (fun c_80 => ?_) (fun c_80 => ?_)
                        · refine lv_iload_n hx hb dX11_unit_266 rfl (lv_at hl 0 rfl) ?_
                          refine lv_if_ne (tgt := 277) hx hb dX11_unit_267 (by decide +kernel) (fun _ => ?_) (fun c_81 => absurd c_81 (by decide +kernel))
                          refine lv_iload_n hx hb dX11_unit_277 rfl (lv_at hl 1 rfl) ?_
                          exact W.iret (v := (((10 * (((10 * (((10 * ((0 + (cI f n k)) - 48)) + (cI f n (k + 1))) - 48)) + (cI f n ((k + 1) + 1))) - 48)) + (cI f n (((k + 1) + 1) + 1))) - 48)) hx hb hr (fun t ht hW => ⟨⟨(((10 * (((10 * (((10 * ((0 + (cI f n k)) - 48)) + (cI f n (k + 1))) - 48)) + (cI f n ((k + 1) + 1))) - 48)) + (cI f n (((k + 1) + 1) + 1))) - 48), (z_72, fa), rfl, ⟨⟨((((k + 1) + 1) + 1) + 1), true, _, (congrFun pU_s _).trans (uX_n hl_6 c_12 ((pNum_s (Int32.not_lt.mp c_16) (Int32.not_lt.mp c_26)).trans ((pNum_s (Int32.not_lt.mp c_40) (Int32.not_lt.mp c_44)).trans ((pNum_s (Int32.not_lt.mp c_52) (Int32.not_lt.mp c_56)).trans ((pNum_s (Int32.not_lt.mp c_64) (Int32.not_lt.mp c_68)).trans (pNum_e (fun h => absurd c_80 (Int32.not_lt.mpr h.2))))))) (by omega)), by omega, hkn_z_72, ea_z_72, (Or.inr ⟨rfl, we_z_72, de_z_72, rfl⟩), sm_z_72⟩, rfl⟩, ⟨by rw [ht]; exact hP, va_K.moved hW.alike hK, hD⟩⟩, hS.F ht⟩) hS.2.2 dX11_unit_278
                        · refine lv_bipush (v := 10) hx hb dX11_unit_237 (by decide +kernel) ?_
                          refine lv_iload_n hx hb dX11_unit_239 rfl (lv_at hl 1 rfl) ?_
                          refine lv_imul hx hb dX11_unit_240 ?_
                          refine lv_aload_n hx hb dX11_unit_241 rfl (lv_at hl 3 rfl) ?_
                          have hFc : ∀ q, va_A [] H.size q → A q := pu_free hS hA
                          refine va_calli (va_runV (As := []) (rest := [.int (10 * (((10 * (((10 * (((10 * ((0 + (cI f n k)) - 48)) + (cI f n (k + 1))) - 48)) + (cI f n ((k + 1) + 1))) - 48)) + (cI f n (((k + 1) + 1) + 1))) - 48))]) ⟨hx, hb, hml, hown, hts⟩ (c_X11_sign_f l dC dI H.size g0 pq cp z_72 fa ((((k + 1) + 1) + 1) + 1) n hkn_z_72 hn ea_z_72 es_z_72 f hb_z_72) (cwV 0 hts gX11_unit_X11_sign rfl rfl rfl (by decide +kernel) ⟨(Nat.le_of_ble_eq_true rfl), (Nat.le_of_ble_eq_true rfl)⟩) (pr_V (r := (RX11, TX11, 63)) hP hK hD 0 11 rfl rfl) rfl rfl hl.1 rfl (lv_room (Nat.le_of_ble_eq_true rfl)) dX11_unit_242 ⟨(Nat.le_of_ble_eq_true rfl), (Nat.le_of_ble_eq_true rfl)⟩) hS (fun q _ h => hFc q h) hFc (fun r_83 u t H locs ht hvm w_82 hB hz1 hk1 hS => ?_)
                          have hP := pu_keep hP hk1
                          clear hk1 hz1 hvm hB ht hFc
                          subst w_82
                          refine lv_iadd hx hb dX11_unit_245 ?_
                          refine lv_bipush (v := 48) hx hb dX11_unit_246 (by decide +kernel) ?_
                          refine lv_isub hx hb dX11_unit_248 ?_
                          refine lv_istore_n (lv' := [(2, .int (((10 * (((10 * (((10 * (((10 * ((0 + (cI f n k)) - 48)) + (cI f n (k + 1))) - 48)) + (cI f n ((k + 1) + 1))) - 48)) + (cI f n (((k + 1) + 1) + 1))) - 48)) + (cI f n ((((k + 1) + 1) + 1) + 1))) - 48)), (3, .int 4), (1, .int (cI f n k)), (0, .ref g0)]) hx hb dX11_unit_249 rfl hl (by decide +kernel) rfl (fun ls hl => ?_)
                          refine lv_aload_n hx hb dX11_unit_250 rfl (lv_at hl 3 rfl) ?_
                          refine lv_dup hx hb dX11_unit_251 rfl ?_
                          refine va_get (D := (dC, dI)) (ci := 11) (v := .int (z_72 47)) (C := RX11) (T := TX11) (N := 63) hx hb hts in_wsX11_unit_X11 hown hK hP 0 rfl rfl 47 (by decide +kernel) (hts (.fieldLink RX11 210 "ShipOfficeModel" "at" "I") iw_X11_unit_2) (fun _ h9 => h9) rfl dX11_unit_252 ?_
                          refine lv_iconst (v := 1) hx hb dX11_unit_255 (by decide +kernel) ?_
                          refine lv_iadd hx hb dX11_unit_256 ?_
                          refine lv_topi (fun y ey => ?_)
                          obtain rfl : y = nI (((((k + 1) + 1) + 1) + 1) + 1) := ey.trans (by rw [ea_z_72]; exact nI_1 _)
                          refine va_put (D := (dC, dI)) (ci := 11) (v := .int (nI (((((k + 1) + 1) + 1) + 1) + 1))) (ty := .int) (C := RX11) (T := TX11) (N := 63) hx hb hts in_wsX11_unit_X11 tyX11 tyX11_ok nmX11 hown hK hP hD hS 0 rfl rfl 47 (by decide +kernel) (hts (.fieldLink RX11 210 "ShipOfficeModel" "at" "I") iw_X11_unit_2) (fun _ h9 => h9) rfl (by decide +kernel) rfl rfl (Nat.le_of_ble_eq_true rfl) dX11_unit_257 (fun H locs hP hD hS => ?_)
                          have hP : va_P (dC, dI) vwCl (mW g0 pq cp (upd z_72 47 (nI (((((k + 1) + 1) + 1) + 1) + 1))) fa) H := hP
                          have hD : va_D A (mW g0 pq cp (upd z_72 47 (nI (((((k + 1) + 1) + 1) + 1) + 1))) fa) := hD
                          obtain ⟨z_84, ez_84⟩ : ∃ zq, zq = (upd z_72 47 (nI (((((k + 1) + 1) + 1) + 1) + 1))) := ⟨_, rfl⟩
                          rw [← ez_84] at hP hD
                          have ea_z_84 : z_84 47 = nI (((((k + 1) + 1) + 1) + 1) + 1) := by rw [ez_84]; rfl
                          have es_z_84 : z_84 50 = nI n := by rw [ez_84]; exact es_z_72
                          have hb_z_84 : hbF (z_84 49) fa f n := by rw [ez_84]; exact hb_z_72
                          have we_z_84 : z_84 51 = 1 := by rw [ez_84]; exact we_z_72
                          have de_z_84 : z_84 48 = nI 3 := by rw [ez_84]; exact de_z_72
                          have sm_z_84 : ∀ i, i ≠ 47 → i ≠ 48 → i ≠ 51 → z_84 i = v i := by intro i h1 h2 h3; rw [ez_84]; exact (if_neg h1).trans (sm_z_72 i h1 h2 h3)
                          have hkn_z_84 : (((((k + 1) + 1) + 1) + 1) + 1) ≤ n := (cI_nl c_76)
                          have hk0_z_84 : k ≤ (((((k + 1) + 1) + 1) + 1) + 1) := by omega
                          refine lv_iinc (v := 5) (lv' := [(3, .int 5), (2, .int (((10 * (((10 * (((10 * (((10 * ((0 + (cI f n k)) - 48)) + (cI f n (k + 1))) - 48)) + (cI f n ((k + 1) + 1))) - 48)) + (cI f n (((k + 1) + 1) + 1))) - 48)) + (cI f n ((((k + 1) + 1) + 1) + 1))) - 48)), (1, .int (cI f n k)), (0, .ref g0)]) hx hb dX11_unit_260 hl (k := 1) rfl (by decide +kernel) (by decide +kernel) rfl (fun ls hl => ?_)
                          refine lv_goto (tgt := 214) hx hb dX11_unit_263 (by decide +kernel) ?_
                          refine lv_iload_n hx hb dX11_unit_214 rfl (lv_at hl 0 rfl) ?_
                          refine lv_iconst (v := 5) hx hb dX11_unit_215 (by decide +kernel) ?_
                          refine lv_icmp_ge (tgt := 266) hx hb dX11_unit_216 (by decide +kernel) (fun _ => ?_) (fun c_85 => absurd c_85 (by decide +kernel))
                          refine lv_iload_n hx hb dX11_unit_266 rfl (lv_at hl 0 rfl) ?_
                          refine lv_if_ne (tgt := 277) hx hb dX11_unit_267 (by decide +kernel) (fun _ => ?_) (fun c_86 => absurd c_86 (by decide +kernel))
                          refine lv_iload_n hx hb dX11_unit_277 rfl (lv_at hl 1 rfl) ?_
                          exact W.iret (v := (((10 * (((10 * (((10 * (((10 * ((0 + (cI f n k)) - 48)) + (cI f n (k + 1))) - 48)) + (cI f n ((k + 1) + 1))) - 48)) + (cI f n (((k + 1) + 1) + 1))) - 48)) + (cI f n ((((k + 1) + 1) + 1) + 1))) - 48)) hx hb hr (fun t ht hW => ⟨⟨(((10 * (((10 * (((10 * (((10 * ((0 + (cI f n k)) - 48)) + (cI f n (k + 1))) - 48)) + (cI f n ((k + 1) + 1))) - 48)) + (cI f n (((k + 1) + 1) + 1))) - 48)) + (cI f n ((((k + 1) + 1) + 1) + 1))) - 48), (z_84, fa), rfl, ⟨⟨(((((k + 1) + 1) + 1) + 1) + 1), true, _, (congrFun pU_s _).trans (uX_n hl_6 c_12 ((pNum_s (Int32.not_lt.mp c_16) (Int32.not_lt.mp c_26)).trans ((pNum_s (Int32.not_lt.mp c_40) (Int32.not_lt.mp c_44)).trans ((pNum_s (Int32.not_lt.mp c_52) (Int32.not_lt.mp c_56)).trans ((pNum_s (Int32.not_lt.mp c_64) (Int32.not_lt.mp c_68)).trans ((pNum_s (Int32.not_lt.mp c_76) (Int32.not_lt.mp c_80)).trans rfl))))) (by omega)), by omega, hkn_z_84, ea_z_84, (Or.inr ⟨rfl, we_z_84, de_z_84, rfl⟩), sm_z_84⟩, rfl⟩, ⟨by rw [ht]; exact hP, va_K.moved hW.alike hK, hD⟩⟩, hS.F ht⟩) hS.2.2 dX11_unit_278
    · refine lv_aload_n hx hb dX11_unit_48 rfl (lv_at hl 1 rfl) ?_
      refine va_get (D := (dC, dI)) (ci := 11) (v := .int (v 48)) (C := RX11) (T := TX11) (N := 63) hx hb hts in_wsX11_unit_X11 hown hK hP 0 rfl rfl 48 (by decide +kernel) (hts (.fieldLink RX11 244 "ShipOfficeModel" "deep" "I") iw_X11_unit_3) (fun _ h9 => h9) rfl dX11_unit_49 ?_
      refine lv_topi (fun y ey => ?_)
      obtain rfl : y = 3 := ey.trans (hde.trans (by decide +kernel))
      refine lv_iconst (v := 5) hx hb dX11_unit_52 (by decide +kernel) ?_
      refine lv_icmp_ne (tgt := 61) hx hb dX11_unit_53 (by decide +kernel) (fun _ => ?_) (fun c_87 => absurd c_87 (by decide +kernel))
      refine lv_aload_n hx hb dX11_unit_61 rfl (lv_at hl 1 rfl) ?_
      refine lv_dup hx hb dX11_unit_62 rfl ?_
      refine va_get (D := (dC, dI)) (ci := 11) (v := .int (v 47)) (C := RX11) (T := TX11) (N := 63) hx hb hts in_wsX11_unit_X11 hown hK hP 0 rfl rfl 47 (by decide +kernel) (hts (.fieldLink RX11 210 "ShipOfficeModel" "at" "I") iw_X11_unit_2) (fun _ h9 => h9) rfl dX11_unit_63 ?_
      refine lv_iconst (v := 1) hx hb dX11_unit_66 (by decide +kernel) ?_
      refine lv_iadd hx hb dX11_unit_67 ?_
      refine lv_topi (fun y ey => ?_)
      obtain rfl : y = nI (k + 1) := ey.trans (by rw [ea]; exact nI_1 _)
      refine va_put (D := (dC, dI)) (ci := 11) (v := .int (nI (k + 1))) (ty := .int) (C := RX11) (T := TX11) (N := 63) hx hb hts in_wsX11_unit_X11 tyX11 tyX11_ok nmX11 hown hK hP hD hS 0 rfl rfl 47 (by decide +kernel) (hts (.fieldLink RX11 210 "ShipOfficeModel" "at" "I") iw_X11_unit_2) (fun _ h9 => h9) rfl (by decide +kernel) rfl rfl (Nat.le_of_ble_eq_true rfl) dX11_unit_68 (fun H locs hP hD hS => ?_)
      have hP : va_P (dC, dI) vwCl (mW g0 pq cp (upd v 47 (nI (k + 1))) fa) H := hP
      have hD : va_D A (mW g0 pq cp (upd v 47 (nI (k + 1))) fa) := hD
      obtain ⟨z_88, ez_88⟩ : ∃ zq, zq = (upd v 47 (nI (k + 1))) := ⟨_, rfl⟩
      rw [← ez_88] at hP hD
      have ea_z_88 : z_88 47 = nI (k + 1) := by rw [ez_88]; rfl
      have es_z_88 : z_88 50 = nI n := by rw [ez_88]; exact es
      have hb_z_88 : hbF (z_88 49) fa f n := by rw [ez_88]; exact hb0
      have we_z_88 : z_88 51 = 1 := by rw [ez_88]; exact hwe
      have de_z_88 : z_88 48 = nI 3 := by rw [ez_88]; exact hde
      have sm_z_88 : ∀ i, i ≠ 47 → i ≠ 48 → i ≠ 51 → z_88 i = v i := by intro i h1 h2 h3; rw [ez_88]; exact (if_neg h1).trans ((fun i _ _ _ => rfl) i h1 h2 h3)
      have hkn_z_88 : (k + 1) ≤ n := (cI_in c_12 (by decide +kernel))
      have hk0_z_88 : k ≤ (k + 1) := by omega
      refine lv_aload_n hx hb dX11_unit_71 rfl (lv_at hl 1 rfl) ?_
      refine lv_dup hx hb dX11_unit_72 rfl ?_
      refine va_get (D := (dC, dI)) (ci := 11) (v := .int (z_88 48)) (C := RX11) (T := TX11) (N := 63) hx hb hts in_wsX11_unit_X11 hown hK hP 0 rfl rfl 48 (by decide +kernel) (hts (.fieldLink RX11 244 "ShipOfficeModel" "deep" "I") iw_X11_unit_3) (fun _ h9 => h9) rfl dX11_unit_73 ?_
      refine lv_topi (fun y ey => ?_)
      obtain rfl : y = 3 := ey.trans (de_z_88.trans (by decide +kernel))
      refine lv_iconst (v := 1) hx hb dX11_unit_76 (by decide +kernel) ?_
      refine lv_iadd hx hb dX11_unit_77 ?_
      refine lv_topi (fun y ey => ?_)
      obtain rfl : y = 4 := ey.trans (by decide +kernel)
      refine va_put (D := (dC, dI)) (ci := 11) (v := .int 4) (ty := .int) (C := RX11) (T := TX11) (N := 63) hx hb hts in_wsX11_unit_X11 tyX11 tyX11_ok nmX11 hown hK hP hD hS 0 rfl rfl 48 (by decide +kernel) (hts (.fieldLink RX11 244 "ShipOfficeModel" "deep" "I") iw_X11_unit_3) (fun _ h9 => h9) rfl (by decide +kernel) rfl rfl (Nat.le_of_ble_eq_true rfl) dX11_unit_78 (fun H locs hP hD hS => ?_)
      have hP : va_P (dC, dI) vwCl (mW g0 pq cp (upd z_88 48 4) fa) H := hP
      have hD : va_D A (mW g0 pq cp (upd z_88 48 4) fa) := hD
      obtain ⟨z_89, ez_89⟩ : ∃ zq, zq = (upd z_88 48 4) := ⟨_, rfl⟩
      rw [← ez_89] at hP hD
      have ea_z_89 : z_89 47 = nI (k + 1) := by rw [ez_89]; exact ea_z_88
      have es_z_89 : z_89 50 = nI n := by rw [ez_89]; exact es_z_88
      have hb_z_89 : hbF (z_89 49) fa f n := by rw [ez_89]; exact hb_z_88
      have we_z_89 : z_89 51 = 1 := by rw [ez_89]; exact we_z_88
      have de_z_89 : z_89 48 = nI 4 := by rw [ez_89]; rfl
      have sm_z_89 : ∀ i, i ≠ 47 → i ≠ 48 → i ≠ 51 → z_89 i = v i := by intro i h1 h2 h3; rw [ez_89]; exact (if_neg h2).trans (sm_z_88 i h1 h2 h3)
      refine lv_aload_n hx hb dX11_unit_81 rfl (lv_at hl 1 rfl) ?_
      have hFc := va_free (wc := (mW g0 pq cp z_89 fa)) hD hS hA (List.range 48) rfl
      refine va_calli (va_runV (As := []) (rest := []) ⟨hx, hb, hml, hown, hts⟩ (c_X11_sum_4f l dC dI H.size g0 pq cp z_89 fa (k + 1) n hkn_z_88 hn ea_z_89 es_z_89 f hb_z_89 we_z_89 de_z_89) (cwV 0 hts gX11_unit_X11_sum rfl rfl rfl (by decide +kernel) ⟨(Nat.le_of_ble_eq_true rfl), (Nat.le_of_ble_eq_true rfl)⟩) (pr_V (r := (RX11, TX11, 63)) hP hK hD 0 11 rfl rfl) rfl rfl hl.1 rfl (lv_room (Nat.le_of_ble_eq_true rfl)) dX11_unit_82 ⟨(Nat.le_of_ble_eq_true rfl), (Nat.le_of_ble_eq_true rfl)⟩) hS (fun q _ h => hFc q h) hFc (fun r_91 u t H locs ht hvm w_90 hB hz1 hk1 hS => ?_)
      obtain ⟨v_92, fa_93⟩ := u
      obtain ⟨hP1, hK1, hD1⟩ := hB
      rw [ht] at hP1
      have hP : va_P (dC, dI) vwCl (mW g0 pq cp v_92 fa_93) H := hP1
      have hD : va_D A (mW g0 pq cp v_92 fa_93) := hD1.weaken (fun _ _ _ h => hFc _ h)
      clear hP1 hK1 hD1 hk1 hz1 hvm ht hFc
      obtain ⟨⟨k_94, w_95, y_96, er_97, ha_98, hb_99, ea_100, wd_101, sm_102⟩, ef_103⟩ := w_90
      dsimp only at ea_100 wd_101 sm_102 ef_103
      have ef2 := ef_103.symm
      subst ef2
      have es_v_92 : v_92 50 = nI n := (sm_102 50 (by decide +kernel) (by decide +kernel) (by decide +kernel)).trans es_z_89
      have hb_v_92 : hbF (v_92 49) fa f n := by rw [sm_102 49 (by decide +kernel) (by decide +kernel) (by decide +kernel)]; exact hb_z_89
      have sm_v_92 : ∀ i, i ≠ 47 → i ≠ 48 → i ≠ 51 → v_92 i = v i := fun i h1 h2 h3 => (sm_102 i h1 h2 h3).trans (sm_z_89 i h1 h2 h3)
      refine lv_istore_n (lv' := [(2, .int r_91), (1, .int (cI f n k)), (0, .ref g0)]) hx hb dX11_unit_85 rfl hl (by decide +kernel) rfl (fun ls hl => ?_)
      refine lv_aload_n hx hb dX11_unit_86 rfl (lv_at hl 2 rfl) ?_
      have hFc : ∀ q, va_A [] H.size q → A q := pu_free hS hA
      refine va_calli (va_runV (As := []) (rest := []) ⟨hx, hb, hml, hown, hts⟩ (c_X11_sign_f l dC dI H.size g0 pq cp v_92 fa k_94 n hb_99 hn ea_100 es_v_92 f hb_v_92) (cwV 0 hts gX11_unit_X11_sign rfl rfl rfl (by decide +kernel) ⟨(Nat.le_of_ble_eq_true rfl), (Nat.le_of_ble_eq_true rfl)⟩) (pr_V (r := (RX11, TX11, 63)) hP hK hD 0 11 rfl rfl) rfl rfl hl.1 rfl (lv_room (Nat.le_of_ble_eq_true rfl)) dX11_unit_87 ⟨(Nat.le_of_ble_eq_true rfl), (Nat.le_of_ble_eq_true rfl)⟩) hS (fun q _ h => hFc q h) hFc (fun r_105 u t H locs ht hvm w_104 hB hz1 hk1 hS => ?_)
      have hP := pu_keep hP hk1
      clear hk1 hz1 hvm hB ht hFc
      subst w_104
      refine lv_istore_n (lv' := [(3, .int (cI f n k_94)), (2, .int r_91), (1, .int (cI f n k)), (0, .ref g0)]) hx hb dX11_unit_90 rfl hl (by decide +kernel) rfl (fun ls hl => ?_)
      refine lv_aload_n hx hb dX11_unit_91 rfl (lv_at hl 3 rfl) ?_
      rcases wd_101 with ⟨ew_109, we_106⟩ | ⟨ew_109, we_107, de_108, rx_110⟩
      · subst ew_109
        refine va_get (D := (dC, dI)) (ci := 11) (v := .int (v_92 51)) (C := RX11) (T := TX11) (N := 63) hx hb hts in_wsX11_unit_X11 hown hK hP 0 rfl rfl 51 (by decide +kernel) (hts (.fieldLink RX11 223 "ShipOfficeModel" "isWell" "Z") iw_X11_unit_1) (fun _ h9 => h9) rfl dX11_unit_92 ?_
        refine lv_topi (fun y ey => ?_)
        obtain rfl : y = 0 := ey.trans (we_106.trans (by decide +kernel))
        refine lv_if_eq (tgt := 184) hx hb dX11_unit_95 (by decide +kernel) (fun _ => ?_) (fun c_111 => absurd c_111 (by decide +kernel))
        refine lv_aload_n hx hb dX11_unit_184 rfl (lv_at hl 3 rfl) ?_
        refine lv_bipush (v := 41) hx hb dX11_unit_185 (by decide +kernel) ?_
        have hFc := va_free (wc := (mW g0 pq cp v_92 fa)) hD hS hA (List.range 48) rfl
        refine va_calli (va_runV (As := [.int 41]) (rest := []) ⟨hx, hb, hml, hown, hts⟩ (c_X11_takes_f l dC dI H.size g0 pq cp v_92 fa k_94 n hb_99 hn ea_100 es_v_92 f hb_v_92 41 (by decide +kernel)) (cwV 1 hts gX11_unit_X11_takes rfl rfl rfl (by decide +kernel) ⟨(Nat.le_of_ble_eq_true rfl), (Nat.le_of_ble_eq_true rfl)⟩) (pr_V (r := (RX11, TX11, 63)) hP hK hD 0 11 rfl rfl) rfl rfl hl.1 rfl (lv_room (Nat.le_of_ble_eq_true rfl)) dX11_unit_187 ⟨(Nat.le_of_ble_eq_true rfl), (Nat.le_of_ble_eq_true rfl)⟩) hS (fun q _ h => hFc q h) hFc (fun r_113 u t H locs ht hvm w_112 hB hz1 hk1 hS => ?_)
        obtain ⟨v_114, fa_115⟩ := u
        obtain ⟨hP1, hK1, hD1⟩ := hB
        rw [ht] at hP1
        have hP : va_P (dC, dI) vwCl (mW g0 pq cp v_114 fa_115) H := hP1
        have hD : va_D A (mW g0 pq cp v_114 fa_115) := hD1.weaken (fun _ _ _ h => hFc _ h)
        clear hP1 hK1 hD1 hk1 hz1 hvm ht hFc
        obtain ⟨ef_116, w_112⟩ := w_112
        dsimp only at ef_116 w_112
        have ef2 := ef_116.symm
        subst ef2
        rcases w_112 with ⟨rfl, ev_117, hc_118⟩ | ⟨rfl, hwe_119, hc_118, hlt_120, ev_117⟩
        · have ea_v_114 : v_114 47 = nI k_94 := by rw [ev_117]; exact ea_100
          have es_v_114 : v_114 50 = nI n := by rw [ev_117]; exact es_v_92
          have hb_v_114 : hbF (v_114 49) fa f n := by rw [ev_117]; exact hb_v_92
          have we_v_114 : v_114 51 = 0 := by rw [ev_117]; exact we_106
          have sm_v_114 : ∀ i, i ≠ 47 → i ≠ 48 → i ≠ 51 → v_114 i = v i := by rw [ev_117]; exact sm_v_92
          refine lv_if_ne (tgt := 198) hx hb dX11_unit_190 (by decide +kernel) (fun c_121 => absurd c_121 (by decide +kernel)) (fun _ => ?_)
          refine lv_aload_n hx hb dX11_unit_193 rfl (lv_at hl 3 rfl) ?_
          have hFc := va_free (wc := (mW g0 pq cp v_114 fa)) hD hS hA (List.range 48) rfl
          refine va_calli (va_runV (As := []) (rest := []) ⟨hx, hb, hml, hown, hts⟩ (c_X11_breaks l dC dI H.size g0 pq cp v_114 fa) (cwV 0 hts gX11_unit_X11_breaks rfl rfl rfl (by decide +kernel) ⟨(Nat.le_of_ble_eq_true rfl), (Nat.le_of_ble_eq_true rfl)⟩) (pr_V (r := (RX11, TX11, 63)) hP hK hD 0 11 rfl rfl) rfl rfl hl.1 rfl (lv_room (Nat.le_of_ble_eq_true rfl)) dX11_unit_194 ⟨(Nat.le_of_ble_eq_true rfl), (Nat.le_of_ble_eq_true rfl)⟩) hS (fun q _ h => hFc q h) hFc (fun r_123 u t H locs ht hvm w_122 hB hz1 hk1 hS => ?_)
          obtain ⟨v_124, fa_125⟩ := u
          obtain ⟨hP1, hK1, hD1⟩ := hB
          rw [ht] at hP1
          have hP : va_P (dC, dI) vwCl (mW g0 pq cp v_124 fa_125) H := hP1
          have hD : va_D A (mW g0 pq cp v_124 fa_125) := hD1.weaken (fun _ _ _ h => hFc _ h)
          clear hP1 hK1 hD1 hk1 hz1 hvm ht hFc
          obtain ⟨rfl, ev_126, ef_127⟩ := w_122
          dsimp only at ev_126 ef_127
          have ef2 := ef_127.symm
          subst ef2
          have ea_v_124 : v_124 47 = nI k_94 := by rw [ev_126]; exact ea_v_114
          have es_v_124 : v_124 50 = nI n := by rw [ev_126]; exact es_v_114
          have hb_v_124 : hbF (v_124 49) fa f n := by rw [ev_126]; exact hb_v_114
          have we_v_124 : v_124 51 = 0 := by rw [ev_126]; rfl
          have sm_v_124 : ∀ i, i ≠ 47 → i ≠ 48 → i ≠ 51 → v_124 i = v i := by intro i h1 h2 h3; rw [ev_126]; exact (if_neg h3).trans (sm_v_114 i h1 h2 h3)
          exact W.iret (v := 0) hx hb hr (fun t ht hW => ⟨⟨0, (v_124, fa), rfl, ⟨⟨k_94, false, _, (congrFun pU_s _).trans ((uX_b c_12).trans (uB_0 er_97)), by omega, hb_99, ea_v_124, (Or.inl ⟨rfl, we_v_124⟩), sm_v_124⟩, rfl⟩, ⟨by rw [ht]; exact hP, va_K.moved hW.alike hK, hD⟩⟩, hS.F ht⟩) hS.2.2 dX11_unit_197
        · exact absurd we_106 hwe_119
      · subst ew_109
        subst rx_110
        refine va_get (D := (dC, dI)) (ci := 11) (v := .int (v_92 51)) (C := RX11) (T := TX11) (N := 63) hx hb hts in_wsX11_unit_X11 hown hK hP 0 rfl rfl 51 (by decide +kernel) (hts (.fieldLink RX11 223 "ShipOfficeModel" "isWell" "Z") iw_X11_unit_1) (fun _ h9 => h9) rfl dX11_unit_92 ?_
        refine lv_topi (fun y ey => ?_)
        obtain rfl : y = 1 := ey.trans (we_107.trans (by decide +kernel))
        refine lv_if_eq (tgt := 184) hx hb dX11_unit_95 (by decide +kernel) (fun c_128 => absurd c_128 (by decide +kernel)) (fun _ => ?_)
        refine lv_iload_n hx hb dX11_unit_98 rfl (lv_at hl 0 rfl) ?_
        refine lv_bipush (v := 60) hx hb dX11_unit_99 (by decide +kernel) ?_
        refine lv_icmp_eq (tgt := 116) hx hb dX11_unit_101 (by decide +kernel) (fun c_129 => ?_) (fun c_129 => ?_)
        · refine lv_aload_n hx hb dX11_unit_116 rfl (lv_at hl 3 rfl) ?_
          refine lv_dup hx hb dX11_unit_117 rfl ?_
          refine va_get (D := (dC, dI)) (ci := 11) (v := .int (v_92 47)) (C := RX11) (T := TX11) (N := 63) hx hb hts in_wsX11_unit_X11 hown hK hP 0 rfl rfl 47 (by decide +kernel) (hts (.fieldLink RX11 210 "ShipOfficeModel" "at" "I") iw_X11_unit_2) (fun _ h9 => h9) rfl dX11_unit_118 ?_
          refine lv_iconst (v := 1) hx hb dX11_unit_121 (by decide +kernel) ?_
          refine lv_iadd hx hb dX11_unit_122 ?_
          refine lv_topi (fun y ey => ?_)
          obtain rfl : y = nI (k_94 + 1) := ey.trans (by rw [ea_100]; exact nI_1 _)
          refine va_put (D := (dC, dI)) (ci := 11) (v := .int (nI (k_94 + 1))) (ty := .int) (C := RX11) (T := TX11) (N := 63) hx hb hts in_wsX11_unit_X11 tyX11 tyX11_ok nmX11 hown hK hP hD hS 0 rfl rfl 47 (by decide +kernel) (hts (.fieldLink RX11 210 "ShipOfficeModel" "at" "I") iw_X11_unit_2) (fun _ h9 => h9) rfl (by decide +kernel) rfl rfl (Nat.le_of_ble_eq_true rfl) dX11_unit_123 (fun H locs hP hD hS => ?_)
          have hP : va_P (dC, dI) vwCl (mW g0 pq cp (upd v_92 47 (nI (k_94 + 1))) fa) H := hP
          have hD : va_D A (mW g0 pq cp (upd v_92 47 (nI (k_94 + 1))) fa) := hD
          obtain ⟨z_130, ez_130⟩ : ∃ zq, zq = (upd v_92 47 (nI (k_94 + 1))) := ⟨_, rfl⟩
          rw [← ez_130] at hP hD
          have ea_z_130 : z_130 47 = nI (k_94 + 1) := by rw [ez_130]; rfl
          have es_z_130 : z_130 50 = nI n := by rw [ez_130]; exact es_v_92
          have hb_z_130 : hbF (z_130 49) fa f n := by rw [ez_130]; exact hb_v_92
          have we_z_130 : z_130 51 = 1 := by rw [ez_130]; exact we_107
          have de_z_130 : z_130 48 = nI 4 := by rw [ez_130]; exact de_108
          have sm_z_130 : ∀ i, i ≠ 47 → i ≠ 48 → i ≠ 51 → z_130 i = v i := by intro i h1 h2 h3; rw [ez_130]; exact (if_neg h1).trans (sm_v_92 i h1 h2 h3)
          have hkn_z_130 : (k_94 + 1) ≤ n := (cI_in c_129 (by decide +kernel))
          have hk0_z_130 : k ≤ (k_94 + 1) := by omega
          refine lv_aload_n hx hb dX11_unit_126 rfl (lv_at hl 3 rfl) ?_
          have hFc := va_free (wc := (mW g0 pq cp z_130 fa)) hD hS hA (List.range 48) rfl
          refine va_calli (va_runV (As := []) (rest := []) ⟨hx, hb, hml, hown, hts⟩ (c_X11_sum_4f l dC dI H.size g0 pq cp z_130 fa (k_94 + 1) n hkn_z_130 hn ea_z_130 es_z_130 f hb_z_130 we_z_130 de_z_130) (cwV 0 hts gX11_unit_X11_sum rfl rfl rfl (by decide +kernel) ⟨(Nat.le_of_ble_eq_true rfl), (Nat.le_of_ble_eq_true rfl)⟩) (pr_V (r := (RX11, TX11, 63)) hP hK hD 0 11 rfl rfl) rfl rfl hl.1 rfl (lv_room (Nat.le_of_ble_eq_true rfl)) dX11_unit_127 ⟨(Nat.le_of_ble_eq_true rfl), (Nat.le_of_ble_eq_true rfl)⟩) hS (fun q _ h => hFc q h) hFc (fun r_132 u t H locs ht hvm w_131 hB hz1 hk1 hS => ?_)
          obtain ⟨v_133, fa_134⟩ := u
          obtain ⟨hP1, hK1, hD1⟩ := hB
          rw [ht] at hP1
          have hP : va_P (dC, dI) vwCl (mW g0 pq cp v_133 fa_134) H := hP1
          have hD : va_D A (mW g0 pq cp v_133 fa_134) := hD1.weaken (fun _ _ _ h => hFc _ h)
          clear hP1 hK1 hD1 hk1 hz1 hvm ht hFc
          obtain ⟨⟨k_135, w_136, y_137, er_138, ha_139, hb_140, ea_141, wd_142, sm_143⟩, ef_144⟩ := w_131
          dsimp only at ea_141 wd_142 sm_143 ef_144
          have ef2 := ef_144.symm
          subst ef2
          have es_v_133 : v_133 50 = nI n := (sm_143 50 (by decide +kernel) (by decide +kernel) (by decide +kernel)).trans es_z_130
          have hb_v_133 : hbF (v_133 49) fa f n := by rw [sm_143 49 (by decide +kernel) (by decide +kernel) (by decide +kernel)]; exact hb_z_130
          have sm_v_133 : ∀ i, i ≠ 47 → i ≠ 48 → i ≠ 51 → v_133 i = v i := fun i h1 h2 h3 => (sm_143 i h1 h2 h3).trans (sm_z_130 i h1 h2 h3)
          refine lv_istore (lv' := [(4, .int r_132), (3, .int (cI f n k_94)), (2, .int r_91), (1, .int (cI f n k)), (0, .ref g0)]) hx hb dX11_unit_130 hl (by decide +kernel) rfl (fun ls hl => ?_)
          refine lv_iload_n hx hb dX11_unit_132 rfl (lv_at hl 1 rfl) ?_
          refine lv_bipush (v := 60) hx hb dX11_unit_133 (by decide +kernel) ?_
          refine lv_icmp_ne (tgt := 152) hx hb dX11_unit_135 (by decide +kernel) (fun c_145 => absurd c_145 (fun h => h c_129)) (fun c_145 => ?_)
          refine lv_iload_n hx hb dX11_unit_138 rfl (lv_at hl 2 rfl) ?_
          refine lv_iload hx hb dX11_unit_139 (lv_at hl 0 rfl) ?_
          refine lv_icmp_ge (tgt := 148) hx hb dX11_unit_141 (by decide +kernel) (fun c_146 => ?_) (fun c_146 => ?_)
          · refine lv_iconst (v := 0) hx hb dX11_unit_148 (by decide +kernel) ?_
            refine lv_goto (tgt := 183) hx hb dX11_unit_149 (by decide +kernel) ?_
            refine lv_istore_n (lv' := [(2, .int 0), (4, .int r_132), (3, .int (cI f n k_94)), (1, .int (cI f n k)), (0, .ref g0)]) hx hb dX11_unit_183 rfl hl (by decide +kernel) rfl (fun ls hl => ?_)
            refine lv_aload_n hx hb dX11_unit_184 rfl (lv_at hl 4 rfl) ?_
            refine lv_bipush (v := 41) hx hb dX11_unit_185 (by decide +kernel) ?_
            rcases wd_142 with ⟨ew_150, we_147⟩ | ⟨ew_150, we_148, de_149, rx_151⟩
            · subst ew_150
              have hFc := va_free (wc := (mW g0 pq cp v_133 fa)) hD hS hA (List.range 48) rfl
              refine va_calli (va_runV (As := [.int 41]) (rest := []) ⟨hx, hb, hml, hown, hts⟩ (c_X11_takes_f l dC dI H.size g0 pq cp v_133 fa k_135 n hb_140 hn ea_141 es_v_133 f hb_v_133 41 (by decide +kernel)) (cwV 1 hts gX11_unit_X11_takes rfl rfl rfl (by decide +kernel) ⟨(Nat.le_of_ble_eq_true rfl), (Nat.le_of_ble_eq_true rfl)⟩) (pr_V (r := (RX11, TX11, 63)) hP hK hD 0 11 rfl rfl) rfl rfl hl.1 rfl (lv_room (Nat.le_of_ble_eq_true rfl)) dX11_unit_187 ⟨(Nat.le_of_ble_eq_true rfl), (Nat.le_of_ble_eq_true rfl)⟩) hS (fun q _ h => hFc q h) hFc (fun r_153 u t H locs ht hvm w_152 hB hz1 hk1 hS => ?_)
              obtain ⟨v_154, fa_155⟩ := u
              obtain ⟨hP1, hK1, hD1⟩ := hB
              rw [ht] at hP1
              have hP : va_P (dC, dI) vwCl (mW g0 pq cp v_154 fa_155) H := hP1
              have hD : va_D A (mW g0 pq cp v_154 fa_155) := hD1.weaken (fun _ _ _ h => hFc _ h)
              clear hP1 hK1 hD1 hk1 hz1 hvm ht hFc
              obtain ⟨ef_156, w_152⟩ := w_152
              dsimp only at ef_156 w_152
              have ef2 := ef_156.symm
              subst ef2
              rcases w_152 with ⟨rfl, ev_157, hc_158⟩ | ⟨rfl, hwe_159, hc_158, hlt_160, ev_157⟩
              · have ea_v_154 : v_154 47 = nI k_135 := by rw [ev_157]; exact ea_141
                have es_v_154 : v_154 50 = nI n := by rw [ev_157]; exact es_v_133
                have hb_v_154 : hbF (v_154 49) fa f n := by rw [ev_157]; exact hb_v_133
                have we_v_154 : v_154 51 = 0 := by rw [ev_157]; exact we_147
                have sm_v_154 : ∀ i, i ≠ 47 → i ≠ 48 → i ≠ 51 → v_154 i = v i := by rw [ev_157]; exact sm_v_133
                refine lv_if_ne (tgt := 198) hx hb dX11_unit_190 (by decide +kernel) (fun c_161 => absurd c_161 (by decide +kernel)) (fun _ => ?_)
                refine lv_aload_n hx hb dX11_unit_193 rfl (lv_at hl 4 rfl) ?_
                have hFc := va_free (wc := (mW g0 pq cp v_154 fa)) hD hS hA (List.range 48) rfl
                refine va_calli (va_runV (As := []) (rest := []) ⟨hx, hb, hml, hown, hts⟩ (c_X11_breaks l dC dI H.size g0 pq cp v_154 fa) (cwV 0 hts gX11_unit_X11_breaks rfl rfl rfl (by decide +kernel) ⟨(Nat.le_of_ble_eq_true rfl), (Nat.le_of_ble_eq_true rfl)⟩) (pr_V (r := (RX11, TX11, 63)) hP hK hD 0 11 rfl rfl) rfl rfl hl.1 rfl (lv_room (Nat.le_of_ble_eq_true rfl)) dX11_unit_194 ⟨(Nat.le_of_ble_eq_true rfl), (Nat.le_of_ble_eq_true rfl)⟩) hS (fun q _ h => hFc q h) hFc (fun r_163 u t H locs ht hvm w_162 hB hz1 hk1 hS => ?_)
                obtain ⟨v_164, fa_165⟩ := u
                obtain ⟨hP1, hK1, hD1⟩ := hB
                rw [ht] at hP1
                have hP : va_P (dC, dI) vwCl (mW g0 pq cp v_164 fa_165) H := hP1
                have hD : va_D A (mW g0 pq cp v_164 fa_165) := hD1.weaken (fun _ _ _ h => hFc _ h)
                clear hP1 hK1 hD1 hk1 hz1 hvm ht hFc
                obtain ⟨rfl, ev_166, ef_167⟩ := w_162
                dsimp only at ev_166 ef_167
                have ef2 := ef_167.symm
                subst ef2
                have ea_v_164 : v_164 47 = nI k_135 := by rw [ev_166]; exact ea_v_154
                have es_v_164 : v_164 50 = nI n := by rw [ev_166]; exact es_v_154
                have hb_v_164 : hbF (v_164 49) fa f n := by rw [ev_166]; exact hb_v_154
                have we_v_164 : v_164 51 = 0 := by rw [ev_166]; rfl
                have sm_v_164 : ∀ i, i ≠ 47 → i ≠ 48 → i ≠ 51 → v_164 i = v i := by intro i h1 h2 h3; rw [ev_166]; exact (if_neg h3).trans (sm_v_154 i h1 h2 h3)
                exact W.iret (v := 0) hx hb hr (fun t ht hW => ⟨⟨0, (v_164, fa), rfl, ⟨⟨k_135, false, _, (congrFun pU_s _).trans ((uX_b c_12).trans (uB_c0 er_97 (Or.inl c_129) er_138)), by omega, hb_140, ea_v_164, (Or.inl ⟨rfl, we_v_164⟩), sm_v_164⟩, rfl⟩, ⟨by rw [ht]; exact hP, va_K.moved hW.alike hK, hD⟩⟩, hS.F ht⟩) hS.2.2 dX11_unit_197
              · exact absurd we_147 hwe_159
            · subst ew_150
              subst rx_151
              have hFc := va_free (wc := (mW g0 pq cp v_133 fa)) hD hS hA (List.range 48) rfl
              refine va_calli (va_runV (As := [.int 41]) (rest := []) ⟨hx, hb, hml, hown, hts⟩ (c_X11_takes_f l dC dI H.size g0 pq cp v_133 fa k_135 n hb_140 hn ea_141 es_v_133 f hb_v_133 41 (by decide +kernel)) (cwV 1 hts gX11_unit_X11_takes rfl rfl rfl (by decide +kernel) ⟨(Nat.le_of_ble_eq_true rfl), (Nat.le_of_ble_eq_true rfl)⟩) (pr_V (r := (RX11, TX11, 63)) hP hK hD 0 11 rfl rfl) rfl rfl hl.1 rfl (lv_room (Nat.le_of_ble_eq_true rfl)) dX11_unit_187 ⟨(Nat.le_of_ble_eq_true rfl), (Nat.le_of_ble_eq_true rfl)⟩) hS (fun q _ h => hFc q h) hFc (fun r_169 u t H locs ht hvm w_168 hB hz1 hk1 hS => ?_)
              obtain ⟨v_170, fa_171⟩ := u
              obtain ⟨hP1, hK1, hD1⟩ := hB
              rw [ht] at hP1
              have hP : va_P (dC, dI) vwCl (mW g0 pq cp v_170 fa_171) H := hP1
              have hD : va_D A (mW g0 pq cp v_170 fa_171) := hD1.weaken (fun _ _ _ h => hFc _ h)
              clear hP1 hK1 hD1 hk1 hz1 hvm ht hFc
              obtain ⟨ef_172, w_168⟩ := w_168
              dsimp only at ef_172 w_168
              have ef2 := ef_172.symm
              subst ef2
              rcases w_168 with ⟨rfl, ev_173, hc_174⟩ | ⟨rfl, hwe_175, hc_174, hlt_176, ev_173⟩
              · have ea_v_170 : v_170 47 = nI k_135 := by rw [ev_173]; exact ea_141
                have es_v_170 : v_170 50 = nI n := by rw [ev_173]; exact es_v_133
                have hb_v_170 : hbF (v_170 49) fa f n := by rw [ev_173]; exact hb_v_133
                have we_v_170 : v_170 51 = 1 := by rw [ev_173]; exact we_148
                have de_v_170 : v_170 48 = nI 4 := by rw [ev_173]; exact de_149
                have sm_v_170 : ∀ i, i ≠ 47 → i ≠ 48 → i ≠ 51 → v_170 i = v i := by rw [ev_173]; exact sm_v_133
                refine lv_if_ne (tgt := 198) hx hb dX11_unit_190 (by decide +kernel) (fun c_177 => absurd c_177 (by decide +kernel)) (fun _ => ?_)
                refine lv_aload_n hx hb dX11_unit_193 rfl (lv_at hl 4 rfl) ?_
                have hFc := va_free (wc := (mW g0 pq cp v_170 fa)) hD hS hA (List.range 48) rfl
                refine va_calli (va_runV (As := []) (rest := []) ⟨hx, hb, hml, hown, hts⟩ (c_X11_breaks l dC dI H.size g0 pq cp v_170 fa) (cwV 0 hts gX11_unit_X11_breaks rfl rfl rfl (by decide +kernel) ⟨(Nat.le_of_ble_eq_true rfl), (Nat.le_of_ble_eq_true rfl)⟩) (pr_V (r := (RX11, TX11, 63)) hP hK hD 0 11 rfl rfl) rfl rfl hl.1 rfl (lv_room (Nat.le_of_ble_eq_true rfl)) dX11_unit_194 ⟨(Nat.le_of_ble_eq_true rfl), (Nat.le_of_ble_eq_true rfl)⟩) hS (fun q _ h => hFc q h) hFc (fun r_179 u t H locs ht hvm w_178 hB hz1 hk1 hS => ?_)
                obtain ⟨v_180, fa_181⟩ := u
                obtain ⟨hP1, hK1, hD1⟩ := hB
                rw [ht] at hP1
                have hP : va_P (dC, dI) vwCl (mW g0 pq cp v_180 fa_181) H := hP1
                have hD : va_D A (mW g0 pq cp v_180 fa_181) := hD1.weaken (fun _ _ _ h => hFc _ h)
                clear hP1 hK1 hD1 hk1 hz1 hvm ht hFc
                obtain ⟨rfl, ev_182, ef_183⟩ := w_178
                dsimp only at ev_182 ef_183
                have ef2 := ef_183.symm
                subst ef2
                have ea_v_180 : v_180 47 = nI k_135 := by rw [ev_182]; exact ea_v_170
                have es_v_180 : v_180 50 = nI n := by rw [ev_182]; exact es_v_170
                have hb_v_180 : hbF (v_180 49) fa f n := by rw [ev_182]; exact hb_v_170
                have we_v_180 : v_180 51 = 0 := by rw [ev_182]; rfl
                have de_v_180 : v_180 48 = nI 4 := by rw [ev_182]; exact de_v_170
                have sm_v_180 : ∀ i, i ≠ 47 → i ≠ 48 → i ≠ 51 → v_180 i = v i := by intro i h1 h2 h3; rw [ev_182]; exact (if_neg h3).trans (sm_v_170 i h1 h2 h3)
                exact W.iret (v := 0) hx hb hr (fun t ht hW => ⟨⟨0, (v_180, fa), rfl, ⟨⟨k_135, false, _, (congrFun pU_s _).trans ((uX_b c_12).trans (uB_c2 er_97 (Or.inl c_129) er_138 (Or.resolve_left hc_174 (fun q => absurd (q.symm.trans we_148) (by decide +kernel))))), by omega, hb_140, ea_v_180, (Or.inl ⟨rfl, we_v_180⟩), sm_v_180⟩, rfl⟩, ⟨by rw [ht]; exact hP, va_K.moved hW.alike hK, hD⟩⟩, hS.F ht⟩) hS.2.2 dX11_unit_197
              · have ev2_v_170 : v_170 = upd v_133 47 (nI (k_135 + 1)) := by rw [ev_173, ea_141]; exact congrArg _ (nI_1 _)
                have ea_v_170 : v_170 47 = nI (k_135 + 1) := by rw [ev2_v_170]; rfl
                have es_v_170 : v_170 50 = nI n := by rw [ev2_v_170]; exact es_v_133
                have hb_v_170 : hbF (v_170 49) fa f n := by rw [ev2_v_170]; exact hb_v_133
                have we_v_170 : v_170 51 = 1 := by rw [ev2_v_170]; exact we_148
                have de_v_170 : v_170 48 = nI 4 := by rw [ev2_v_170]; exact de_149
                have sm_v_170 : ∀ i, i ≠ 47 → i ≠ 48 → i ≠ 51 → v_170 i = v i := by intro i h1 h2 h3; rw [ev2_v_170]; exact (if_neg h1).trans (sm_v_133 i h1 h2 h3)
                refine lv_if_ne (tgt := 198) hx hb dX11_unit_190 (by decide +kernel) (fun _ => ?_) (fun c_184 => absurd c_184 (by decide +kernel))
                refine lv_aload_n hx hb dX11_unit_198 rfl (lv_at hl 4 rfl) ?_
                refine lv_dup hx hb dX11_unit_199 rfl ?_
                refine va_get (D := (dC, dI)) (ci := 11) (v := .int (v_170 48)) (C := RX11) (T := TX11) (N := 63) hx hb hts in_wsX11_unit_X11 hown hK hP 0 rfl rfl 48 (by decide +kernel) (hts (.fieldLink RX11 244 "ShipOfficeModel" "deep" "I") iw_X11_unit_3) (fun _ h9 => h9) rfl dX11_unit_200 ?_
                refine lv_topi (fun y ey => ?_)
                obtain rfl : y = 4 := ey.trans (de_v_170.trans (by decide +kernel))
                refine lv_iconst (v := 1) hx hb dX11_unit_203 (by decide +kernel) ?_
                refine lv_isub hx hb dX11_unit_204 ?_
                refine lv_topi (fun y ey => ?_)
                obtain rfl : y = 3 := ey.trans (by decide +kernel)
                refine va_put (D := (dC, dI)) (ci := 11) (v := .int 3) (ty := .int) (C := RX11) (T := TX11) (N := 63) hx hb hts in_wsX11_unit_X11 tyX11 tyX11_ok nmX11 hown hK hP hD hS 0 rfl rfl 48 (by decide +kernel) (hts (.fieldLink RX11 244 "ShipOfficeModel" "deep" "I") iw_X11_unit_3) (fun _ h9 => h9) rfl (by decide +kernel) rfl rfl (Nat.le_of_ble_eq_true rfl) dX11_unit_205 (fun H locs hP hD hS => ?_)
                have hP : va_P (dC, dI) vwCl (mW g0 pq cp (upd v_170 48 3) fa) H := hP
                have hD : va_D A (mW g0 pq cp (upd v_170 48 3) fa) := hD
                obtain ⟨z_185, ez_185⟩ : ∃ zq, zq = (upd v_170 48 3) := ⟨_, rfl⟩
                rw [← ez_185] at hP hD
                have ea_z_185 : z_185 47 = nI (k_135 + 1) := by rw [ez_185]; exact ea_v_170
                have es_z_185 : z_185 50 = nI n := by rw [ez_185]; exact es_v_170
                have hb_z_185 : hbF (z_185 49) fa f n := by rw [ez_185]; exact hb_v_170
                have we_z_185 : z_185 51 = 1 := by rw [ez_185]; exact we_v_170
                have de_z_185 : z_185 48 = nI 3 := by rw [ez_185]; rfl
                have sm_z_185 : ∀ i, i ≠ 47 → i ≠ 48 → i ≠ 51 → z_185 i = v i := by intro i h1 h2 h3; rw [ez_185]; exact (if_neg h2).trans (sm_v_170 i h1 h2 h3)
                refine lv_iload_n hx hb dX11_unit_208 rfl (lv_at hl 0 rfl) ?_
                exact W.iret (v := 0) hx hb hr (fun t ht hW => ⟨⟨0, (z_185, fa), rfl, ⟨⟨(k_135 + 1), true, _, (congrFun pU_s _).trans ((uX_b c_12).trans (uB_c1 er_97 (Or.inl c_129) er_138 hc_174)), by omega, hlt_176, ea_z_185, (Or.inr ⟨rfl, we_z_185, de_z_185, (by rw [c_129, mop_60]; exact (if_pos c_146).symm)⟩), sm_z_185⟩, rfl⟩, ⟨by rw [ht]; exact hP, va_K.moved hW.alike hK, hD⟩⟩, hS.F ht⟩) hS.2.2 dX11_unit_209
          · refine lv_iconst (v := 1) hx hb dX11_unit_144 (by decide +kernel) ?_
            refine lv_goto (tgt := 183) hx hb dX11_unit_145 (by decide +kernel) ?_
            refine lv_istore_n (lv' := [(2, .int 1), (4, .int r_132), (3, .int (cI f n k_94)), (1, .int (cI f n k)), (0, .ref g0)]) hx hb dX11_unit_183 rfl hl (by decide +kernel) rfl (fun ls hl => ?_)
            refine lv_aload_n hx hb dX11_unit_184 rfl (lv_at hl 4 rfl) ?_
            refine lv_bipush (v := 41) hx hb dX11_unit_185 (by decide +kernel) ?_
            rcases wd_142 with ⟨ew_189, we_186⟩ | ⟨ew_189, we_187, de_188, rx_190⟩
            · subst ew_189
              have hFc := va_free (wc := (mW g0 pq cp v_133 fa)) hD hS hA (List.range 48) rfl
              refine va_calli (va_runV (As := [.int 41]) (rest := []) ⟨hx, hb, hml, hown, hts⟩ (c_X11_takes_f l dC dI H.size g0 pq cp v_133 fa k_135 n hb_140 hn ea_141 es_v_133 f hb_v_133 41 (by decide +kernel)) (cwV 1 hts gX11_unit_X11_takes rfl rfl rfl (by decide +kernel) ⟨(Nat.le_of_ble_eq_true rfl), (Nat.le_of_ble_eq_true rfl)⟩) (pr_V (r := (RX11, TX11, 63)) hP hK hD 0 11 rfl rfl) rfl rfl hl.1 rfl (lv_room (Nat.le_of_ble_eq_true rfl)) dX11_unit_187 ⟨(Nat.le_of_ble_eq_true rfl), (Nat.le_of_ble_eq_true rfl)⟩) hS (fun q _ h => hFc q h) hFc (fun r_192 u t H locs ht hvm w_191 hB hz1 hk1 hS => ?_)
              obtain ⟨v_193, fa_194⟩ := u
              obtain ⟨hP1, hK1, hD1⟩ := hB
              rw [ht] at hP1
              have hP : va_P (dC, dI) vwCl (mW g0 pq cp v_193 fa_194) H := hP1
              have hD : va_D A (mW g0 pq cp v_193 fa_194) := hD1.weaken (fun _ _ _ h => hFc _ h)
              clear hP1 hK1 hD1 hk1 hz1 hvm ht hFc
              obtain ⟨ef_195, w_191⟩ := w_191
              dsimp only at ef_195 w_191
              have ef2 := ef_195.symm
              subst ef2
              rcases w_191 with ⟨rfl, ev_196, hc_197⟩ | ⟨rfl, hwe_198, hc_197, hlt_199, ev_196⟩
              · have ea_v_193 : v_193 47 = nI k_135 := by rw [ev_196]; exact ea_141
                have es_v_193 : v_193 50 = nI n := by rw [ev_196]; exact es_v_133
                have hb_v_193 : hbF (v_193 49) fa f n := by rw [ev_196]; exact hb_v_133
                have we_v_193 : v_193 51 = 0 := by rw [ev_196]; exact we_186
                have sm_v_193 : ∀ i, i ≠ 47 → i ≠ 48 → i ≠ 51 → v_193 i = v i := by rw [ev_196]; exact sm_v_133
                refine lv_if_ne (tgt := 198) hx hb dX11_unit_190 (by decide +kernel) (fun c_200 => absurd c_200 (by decide +kernel)) (fun _ => ?_)
                refine lv_aload_n hx hb dX11_unit_193 rfl (lv_at hl 4 rfl) ?_
                have hFc := va_free (wc := (mW g0 pq cp v_193 fa)) hD hS hA (List.range 48) rfl
                refine va_calli (va_runV (As := []) (rest := []) ⟨hx, hb, hml, hown, hts⟩ (c_X11_breaks l dC dI H.size g0 pq cp v_193 fa) (cwV 0 hts gX11_unit_X11_breaks rfl rfl rfl (by decide +kernel) ⟨(Nat.le_of_ble_eq_true rfl), (Nat.le_of_ble_eq_true rfl)⟩) (pr_V (r := (RX11, TX11, 63)) hP hK hD 0 11 rfl rfl) rfl rfl hl.1 rfl (lv_room (Nat.le_of_ble_eq_true rfl)) dX11_unit_194 ⟨(Nat.le_of_ble_eq_true rfl), (Nat.le_of_ble_eq_true rfl)⟩) hS (fun q _ h => hFc q h) hFc (fun r_202 u t H locs ht hvm w_201 hB hz1 hk1 hS => ?_)
                obtain ⟨v_203, fa_204⟩ := u
                obtain ⟨hP1, hK1, hD1⟩ := hB
                rw [ht] at hP1
                have hP : va_P (dC, dI) vwCl (mW g0 pq cp v_203 fa_204) H := hP1
                have hD : va_D A (mW g0 pq cp v_203 fa_204) := hD1.weaken (fun _ _ _ h => hFc _ h)
                clear hP1 hK1 hD1 hk1 hz1 hvm ht hFc
                obtain ⟨rfl, ev_205, ef_206⟩ := w_201
                dsimp only at ev_205 ef_206
                have ef2 := ef_206.symm
                subst ef2
                have ea_v_203 : v_203 47 = nI k_135 := by rw [ev_205]; exact ea_v_193
                have es_v_203 : v_203 50 = nI n := by rw [ev_205]; exact es_v_193
                have hb_v_203 : hbF (v_203 49) fa f n := by rw [ev_205]; exact hb_v_193
                have we_v_203 : v_203 51 = 0 := by rw [ev_205]; rfl
                have sm_v_203 : ∀ i, i ≠ 47 → i ≠ 48 → i ≠ 51 → v_203 i = v i := by intro i h1 h2 h3; rw [ev_205]; exact (if_neg h3).trans (sm_v_193 i h1 h2 h3)
                exact W.iret (v := 0) hx hb hr (fun t ht hW => ⟨⟨0, (v_203, fa), rfl, ⟨⟨k_135, false, _, (congrFun pU_s _).trans ((uX_b c_12).trans (uB_c0 er_97 (Or.inl c_129) er_138)), by omega, hb_140, ea_v_203, (Or.inl ⟨rfl, we_v_203⟩), sm_v_203⟩, rfl⟩, ⟨by rw [ht]; exact hP, va_K.moved hW.alike hK, hD⟩⟩, hS.F ht⟩) hS.2.2 dX11_unit_197
              · exact absurd we_186 hwe_198
            · subst ew_189
              subst rx_190
              have hFc := va_free (wc := (mW g0 pq cp v_133 fa)) hD hS hA (List.range 48) rfl
              refine va_calli (va_runV (As := [.int 41]) (rest := []) ⟨hx, hb, hml, hown, hts⟩ (c_X11_takes_f l dC dI H.size g0 pq cp v_133 fa k_135 n hb_140 hn ea_141 es_v_133 f hb_v_133 41 (by decide +kernel)) (cwV 1 hts gX11_unit_X11_takes rfl rfl rfl (by decide +kernel) ⟨(Nat.le_of_ble_eq_true rfl), (Nat.le_of_ble_eq_true rfl)⟩) (pr_V (r := (RX11, TX11, 63)) hP hK hD 0 11 rfl rfl) rfl rfl hl.1 rfl (lv_room (Nat.le_of_ble_eq_true rfl)) dX11_unit_187 ⟨(Nat.le_of_ble_eq_true rfl), (Nat.le_of_ble_eq_true rfl)⟩) hS (fun q _ h => hFc q h) hFc (fun r_208 u t H locs ht hvm w_207 hB hz1 hk1 hS => ?_)
              obtain ⟨v_209, fa_210⟩ := u
              obtain ⟨hP1, hK1, hD1⟩ := hB
              rw [ht] at hP1
              have hP : va_P (dC, dI) vwCl (mW g0 pq cp v_209 fa_210) H := hP1
              have hD : va_D A (mW g0 pq cp v_209 fa_210) := hD1.weaken (fun _ _ _ h => hFc _ h)
              clear hP1 hK1 hD1 hk1 hz1 hvm ht hFc
              obtain ⟨ef_211, w_207⟩ := w_207
              dsimp only at ef_211 w_207
              have ef2 := ef_211.symm
              subst ef2
              rcases w_207 with ⟨rfl, ev_212, hc_213⟩ | ⟨rfl, hwe_214, hc_213, hlt_215, ev_212⟩
              · have ea_v_209 : v_209 47 = nI k_135 := by rw [ev_212]; exact ea_141
                have es_v_209 : v_209 50 = nI n := by rw [ev_212]; exact es_v_133
                have hb_v_209 : hbF (v_209 49) fa f n := by rw [ev_212]; exact hb_v_133
                have we_v_209 : v_209 51 = 1 := by rw [ev_212]; exact we_187
                have de_v_209 : v_209 48 = nI 4 := by rw [ev_212]; exact de_188
                have sm_v_209 : ∀ i, i ≠ 47 → i ≠ 48 → i ≠ 51 → v_209 i = v i := by rw [ev_212]; exact sm_v_133
                refine lv_if_ne (tgt := 198) hx hb dX11_unit_190 (by decide +kernel) (fun c_216 => absurd c_216 (by decide +kernel)) (fun _ => ?_)
                refine lv_aload_n hx hb dX11_unit_193 rfl (lv_at hl 4 rfl) ?_
                have hFc := va_free (wc := (mW g0 pq cp v_209 fa)) hD hS hA (List.range 48) rfl
                refine va_calli (va_runV (As := []) (rest := []) ⟨hx, hb, hml, hown, hts⟩ (c_X11_breaks l dC dI H.size g0 pq cp v_209 fa) (cwV 0 hts gX11_unit_X11_breaks rfl rfl rfl (by decide +kernel) ⟨(Nat.le_of_ble_eq_true rfl), (Nat.le_of_ble_eq_true rfl)⟩) (pr_V (r := (RX11, TX11, 63)) hP hK hD 0 11 rfl rfl) rfl rfl hl.1 rfl (lv_room (Nat.le_of_ble_eq_true rfl)) dX11_unit_194 ⟨(Nat.le_of_ble_eq_true rfl), (Nat.le_of_ble_eq_true rfl)⟩) hS (fun q _ h => hFc q h) hFc (fun r_218 u t H locs ht hvm w_217 hB hz1 hk1 hS => ?_)
                obtain ⟨v_219, fa_220⟩ := u
                obtain ⟨hP1, hK1, hD1⟩ := hB
                rw [ht] at hP1
                have hP : va_P (dC, dI) vwCl (mW g0 pq cp v_219 fa_220) H := hP1
                have hD : va_D A (mW g0 pq cp v_219 fa_220) := hD1.weaken (fun _ _ _ h => hFc _ h)
                clear hP1 hK1 hD1 hk1 hz1 hvm ht hFc
                obtain ⟨rfl, ev_221, ef_222⟩ := w_217
                dsimp only at ev_221 ef_222
                have ef2 := ef_222.symm
                subst ef2
                have ea_v_219 : v_219 47 = nI k_135 := by rw [ev_221]; exact ea_v_209
                have es_v_219 : v_219 50 = nI n := by rw [ev_221]; exact es_v_209
                have hb_v_219 : hbF (v_219 49) fa f n := by rw [ev_221]; exact hb_v_209
                have we_v_219 : v_219 51 = 0 := by rw [ev_221]; rfl
                have de_v_219 : v_219 48 = nI 4 := by rw [ev_221]; exact de_v_209
                have sm_v_219 : ∀ i, i ≠ 47 → i ≠ 48 → i ≠ 51 → v_219 i = v i := by intro i h1 h2 h3; rw [ev_221]; exact (if_neg h3).trans (sm_v_209 i h1 h2 h3)
                exact W.iret (v := 0) hx hb hr (fun t ht hW => ⟨⟨0, (v_219, fa), rfl, ⟨⟨k_135, false, _, (congrFun pU_s _).trans ((uX_b c_12).trans (uB_c2 er_97 (Or.inl c_129) er_138 (Or.resolve_left hc_213 (fun q => absurd (q.symm.trans we_187) (by decide +kernel))))), by omega, hb_140, ea_v_219, (Or.inl ⟨rfl, we_v_219⟩), sm_v_219⟩, rfl⟩, ⟨by rw [ht]; exact hP, va_K.moved hW.alike hK, hD⟩⟩, hS.F ht⟩) hS.2.2 dX11_unit_197
              · have ev2_v_209 : v_209 = upd v_133 47 (nI (k_135 + 1)) := by rw [ev_212, ea_141]; exact congrArg _ (nI_1 _)
                have ea_v_209 : v_209 47 = nI (k_135 + 1) := by rw [ev2_v_209]; rfl
                have es_v_209 : v_209 50 = nI n := by rw [ev2_v_209]; exact es_v_133
                have hb_v_209 : hbF (v_209 49) fa f n := by rw [ev2_v_209]; exact hb_v_133
                have we_v_209 : v_209 51 = 1 := by rw [ev2_v_209]; exact we_187
                have de_v_209 : v_209 48 = nI 4 := by rw [ev2_v_209]; exact de_188
                have sm_v_209 : ∀ i, i ≠ 47 → i ≠ 48 → i ≠ 51 → v_209 i = v i := by intro i h1 h2 h3; rw [ev2_v_209]; exact (if_neg h1).trans (sm_v_133 i h1 h2 h3)
                refine lv_if_ne (tgt := 198) hx hb dX11_unit_190 (by decide +kernel) (fun _ => ?_) (fun c_223 => absurd c_223 (by decide +kernel))
                refine lv_aload_n hx hb dX11_unit_198 rfl (lv_at hl 4 rfl) ?_
                refine lv_dup hx hb dX11_unit_199 rfl ?_
                refine va_get (D := (dC, dI)) (ci := 11) (v := .int (v_209 48)) (C := RX11) (T := TX11) (N := 63) hx hb hts in_wsX11_unit_X11 hown hK hP 0 rfl rfl 48 (by decide +kernel) (hts (.fieldLink RX11 244 "ShipOfficeModel" "deep" "I") iw_X11_unit_3) (fun _ h9 => h9) rfl dX11_unit_200 ?_
                refine lv_topi (fun y ey => ?_)
                obtain rfl : y = 4 := ey.trans (de_v_209.trans (by decide +kernel))
                refine lv_iconst (v := 1) hx hb dX11_unit_203 (by decide +kernel) ?_
                refine lv_isub hx hb dX11_unit_204 ?_
                refine lv_topi (fun y ey => ?_)
                obtain rfl : y = 3 := ey.trans (by decide +kernel)
                refine va_put (D := (dC, dI)) (ci := 11) (v := .int 3) (ty := .int) (C := RX11) (T := TX11) (N := 63) hx hb hts in_wsX11_unit_X11 tyX11 tyX11_ok nmX11 hown hK hP hD hS 0 rfl rfl 48 (by decide +kernel) (hts (.fieldLink RX11 244 "ShipOfficeModel" "deep" "I") iw_X11_unit_3) (fun _ h9 => h9) rfl (by decide +kernel) rfl rfl (Nat.le_of_ble_eq_true rfl) dX11_unit_205 (fun H locs hP hD hS => ?_)
                have hP : va_P (dC, dI) vwCl (mW g0 pq cp (upd v_209 48 3) fa) H := hP
                have hD : va_D A (mW g0 pq cp (upd v_209 48 3) fa) := hD
                obtain ⟨z_224, ez_224⟩ : ∃ zq, zq = (upd v_209 48 3) := ⟨_, rfl⟩
                rw [← ez_224] at hP hD
                have ea_z_224 : z_224 47 = nI (k_135 + 1) := by rw [ez_224]; exact ea_v_209
                have es_z_224 : z_224 50 = nI n := by rw [ez_224]; exact es_v_209
                have hb_z_224 : hbF (z_224 49) fa f n := by rw [ez_224]; exact hb_v_209
                have we_z_224 : z_224 51 = 1 := by rw [ez_224]; exact we_v_209
                have de_z_224 : z_224 48 = nI 3 := by rw [ez_224]; rfl
                have sm_z_224 : ∀ i, i ≠ 47 → i ≠ 48 → i ≠ 51 → z_224 i = v i := by intro i h1 h2 h3; rw [ez_224]; exact (if_neg h2).trans (sm_v_209 i h1 h2 h3)
                refine lv_iload_n hx hb dX11_unit_208 rfl (lv_at hl 0 rfl) ?_
                exact W.iret (v := 1) hx hb hr (fun t ht hW => ⟨⟨1, (z_224, fa), rfl, ⟨⟨(k_135 + 1), true, _, (congrFun pU_s _).trans ((uX_b c_12).trans (uB_c1 er_97 (Or.inl c_129) er_138 hc_213)), by omega, hlt_215, ea_z_224, (Or.inr ⟨rfl, we_z_224, de_z_224, (by rw [c_129, mop_60]; exact (if_neg c_146).symm)⟩), sm_z_224⟩, rfl⟩, ⟨by rw [ht]; exact hP, va_K.moved hW.alike hK, hD⟩⟩, hS.F ht⟩) hS.2.2 dX11_unit_209
        · refine lv_iload_n hx hb dX11_unit_104 rfl (lv_at hl 0 rfl) ?_
          refine lv_bipush (v := 61) hx hb dX11_unit_105 (by decide +kernel) ?_
          refine lv_icmp_eq (tgt := 116) hx hb dX11_unit_107 (by decide +kernel) (fun c_225 => ?_) (fun c_225 => ?_)
          · refine lv_aload_n hx hb dX11_unit_116 rfl (lv_at hl 3 rfl) ?_
            refine lv_dup hx hb dX11_unit_117 rfl ?_
            refine va_get (D := (dC, dI)) (ci := 11) (v := .int (v_92 47)) (C := RX11) (T := TX11) (N := 63) hx hb hts in_wsX11_unit_X11 hown hK hP 0 rfl rfl 47 (by decide +kernel) (hts (.fieldLink RX11 210 "ShipOfficeModel" "at" "I") iw_X11_unit_2) (fun _ h9 => h9) rfl dX11_unit_118 ?_
            refine lv_iconst (v := 1) hx hb dX11_unit_121 (by decide +kernel) ?_
            refine lv_iadd hx hb dX11_unit_122 ?_
            refine lv_topi (fun y ey => ?_)
            obtain rfl : y = nI (k_94 + 1) := ey.trans (by rw [ea_100]; exact nI_1 _)
            refine va_put (D := (dC, dI)) (ci := 11) (v := .int (nI (k_94 + 1))) (ty := .int) (C := RX11) (T := TX11) (N := 63) hx hb hts in_wsX11_unit_X11 tyX11 tyX11_ok nmX11 hown hK hP hD hS 0 rfl rfl 47 (by decide +kernel) (hts (.fieldLink RX11 210 "ShipOfficeModel" "at" "I") iw_X11_unit_2) (fun _ h9 => h9) rfl (by decide +kernel) rfl rfl (Nat.le_of_ble_eq_true rfl) dX11_unit_123 (fun H locs hP hD hS => ?_)
            have hP : va_P (dC, dI) vwCl (mW g0 pq cp (upd v_92 47 (nI (k_94 + 1))) fa) H := hP
            have hD : va_D A (mW g0 pq cp (upd v_92 47 (nI (k_94 + 1))) fa) := hD
            obtain ⟨z_226, ez_226⟩ : ∃ zq, zq = (upd v_92 47 (nI (k_94 + 1))) := ⟨_, rfl⟩
            rw [← ez_226] at hP hD
            have ea_z_226 : z_226 47 = nI (k_94 + 1) := by rw [ez_226]; rfl
            have es_z_226 : z_226 50 = nI n := by rw [ez_226]; exact es_v_92
            have hb_z_226 : hbF (z_226 49) fa f n := by rw [ez_226]; exact hb_v_92
            have we_z_226 : z_226 51 = 1 := by rw [ez_226]; exact we_107
            have de_z_226 : z_226 48 = nI 4 := by rw [ez_226]; exact de_108
            have sm_z_226 : ∀ i, i ≠ 47 → i ≠ 48 → i ≠ 51 → z_226 i = v i := by intro i h1 h2 h3; rw [ez_226]; exact (if_neg h1).trans (sm_v_92 i h1 h2 h3)
            have hkn_z_226 : (k_94 + 1) ≤ n := (cI_in c_225 (by decide +kernel))
            have hk0_z_226 : k ≤ (k_94 + 1) := by omega
            refine lv_aload_n hx hb dX11_unit_126 rfl (lv_at hl 3 rfl) ?_
            have hFc := va_free (wc := (mW g0 pq cp z_226 fa)) hD hS hA (List.range 48) rfl
            refine va_calli (va_runV (As := []) (rest := []) ⟨hx, hb, hml, hown, hts⟩ (c_X11_sum_4f l dC dI H.size g0 pq cp z_226 fa (k_94 + 1) n hkn_z_226 hn ea_z_226 es_z_226 f hb_z_226 we_z_226 de_z_226) (cwV 0 hts gX11_unit_X11_sum rfl rfl rfl (by decide +kernel) ⟨(Nat.le_of_ble_eq_true rfl), (Nat.le_of_ble_eq_true rfl)⟩) (pr_V (r := (RX11, TX11, 63)) hP hK hD 0 11 rfl rfl) rfl rfl hl.1 rfl (lv_room (Nat.le_of_ble_eq_true rfl)) dX11_unit_127 ⟨(Nat.le_of_ble_eq_true rfl), (Nat.le_of_ble_eq_true rfl)⟩) hS (fun q _ h => hFc q h) hFc (fun r_228 u t H locs ht hvm w_227 hB hz1 hk1 hS => ?_)
            obtain ⟨v_229, fa_230⟩ := u
            obtain ⟨hP1, hK1, hD1⟩ := hB
            rw [ht] at hP1
            have hP : va_P (dC, dI) vwCl (mW g0 pq cp v_229 fa_230) H := hP1
            have hD : va_D A (mW g0 pq cp v_229 fa_230) := hD1.weaken (fun _ _ _ h => hFc _ h)
            clear hP1 hK1 hD1 hk1 hz1 hvm ht hFc
            obtain ⟨⟨k_231, w_232, y_233, er_234, ha_235, hb_236, ea_237, wd_238, sm_239⟩, ef_240⟩ := w_227
            dsimp only at ea_237 wd_238 sm_239 ef_240
            have ef2 := ef_240.symm
            subst ef2
            have es_v_229 : v_229 50 = nI n := (sm_239 50 (by decide +kernel) (by decide +kernel) (by decide +kernel)).trans es_z_226
            have hb_v_229 : hbF (v_229 49) fa f n := by rw [sm_239 49 (by decide +kernel) (by decide +kernel) (by decide +kernel)]; exact hb_z_226
            have sm_v_229 : ∀ i, i ≠ 47 → i ≠ 48 → i ≠ 51 → v_229 i = v i := fun i h1 h2 h3 => (sm_239 i h1 h2 h3).trans (sm_z_226 i h1 h2 h3)
            refine lv_istore (lv' := [(4, .int r_228), (3, .int (cI f n k_94)), (2, .int r_91), (1, .int (cI f n k)), (0, .ref g0)]) hx hb dX11_unit_130 hl (by decide +kernel) rfl (fun ls hl => ?_)
            refine lv_iload_n hx hb dX11_unit_132 rfl (lv_at hl 1 rfl) ?_
            refine lv_bipush (v := 60) hx hb dX11_unit_133 (by decide +kernel) ?_
            refine lv_icmp_ne (tgt := 152) hx hb dX11_unit_135 (by decide +kernel) (fun c_241 => ?_) (fun c_241 => absurd c_241 (fun h => absurd (c_225.symm.trans h) (by decide +kernel)))
            refine lv_iload_n hx hb dX11_unit_152 rfl (lv_at hl 1 rfl) ?_
            refine lv_bipush (v := 61) hx hb dX11_unit_153 (by decide +kernel) ?_
            refine lv_icmp_ne (tgt := 172) hx hb dX11_unit_155 (by decide +kernel) (fun c_242 => absurd c_242 (fun h => h c_225)) (fun c_242 => ?_)
            refine lv_iload_n hx hb dX11_unit_158 rfl (lv_at hl 2 rfl) ?_
            refine lv_iload hx hb dX11_unit_159 (lv_at hl 0 rfl) ?_
            refine lv_icmp_ne (tgt := 168) hx hb dX11_unit_161 (by decide +kernel) (fun c_243 => ?_) (fun c_243 => ?_)
            · refine lv_iconst (v := 0) hx hb dX11_unit_168 (by decide +kernel) ?_
              refine lv_goto (tgt := 183) hx hb dX11_unit_169 (by decide +kernel) ?_
              refine lv_istore_n (lv' := [(2, .int 0), (4, .int r_228), (3, .int (cI f n k_94)), (1, .int (cI f n k)), (0, .ref g0)]) hx hb dX11_unit_183 rfl hl (by decide +kernel) rfl (fun ls hl => ?_)
              refine lv_aload_n hx hb dX11_unit_184 rfl (lv_at hl 4 rfl) ?_
              refine lv_bipush (v := 41) hx hb dX11_unit_185 (by decide +kernel) ?_
              rcases wd_238 with ⟨ew_247, we_244⟩ | ⟨ew_247, we_245, de_246, rx_248⟩
              · subst ew_247
                have hFc := va_free (wc := (mW g0 pq cp v_229 fa)) hD hS hA (List.range 48) rfl
                refine va_calli (va_runV (As := [.int 41]) (rest := []) ⟨hx, hb, hml, hown, hts⟩ (c_X11_takes_f l dC dI H.size g0 pq cp v_229 fa k_231 n hb_236 hn ea_237 es_v_229 f hb_v_229 41 (by decide +kernel)) (cwV 1 hts gX11_unit_X11_takes rfl rfl rfl (by decide +kernel) ⟨(Nat.le_of_ble_eq_true rfl), (Nat.le_of_ble_eq_true rfl)⟩) (pr_V (r := (RX11, TX11, 63)) hP hK hD 0 11 rfl rfl) rfl rfl hl.1 rfl (lv_room (Nat.le_of_ble_eq_true rfl)) dX11_unit_187 ⟨(Nat.le_of_ble_eq_true rfl), (Nat.le_of_ble_eq_true rfl)⟩) hS (fun q _ h => hFc q h) hFc (fun r_250 u t H locs ht hvm w_249 hB hz1 hk1 hS => ?_)
                obtain ⟨v_251, fa_252⟩ := u
                obtain ⟨hP1, hK1, hD1⟩ := hB
                rw [ht] at hP1
                have hP : va_P (dC, dI) vwCl (mW g0 pq cp v_251 fa_252) H := hP1
                have hD : va_D A (mW g0 pq cp v_251 fa_252) := hD1.weaken (fun _ _ _ h => hFc _ h)
                clear hP1 hK1 hD1 hk1 hz1 hvm ht hFc
                obtain ⟨ef_253, w_249⟩ := w_249
                dsimp only at ef_253 w_249
                have ef2 := ef_253.symm
                subst ef2
                rcases w_249 with ⟨rfl, ev_254, hc_255⟩ | ⟨rfl, hwe_256, hc_255, hlt_257, ev_254⟩
                · have ea_v_251 : v_251 47 = nI k_231 := by rw [ev_254]; exact ea_237
                  have es_v_251 : v_251 50 = nI n := by rw [ev_254]; exact es_v_229
                  have hb_v_251 : hbF (v_251 49) fa f n := by rw [ev_254]; exact hb_v_229
                  have we_v_251 : v_251 51 = 0 := by rw [ev_254]; exact we_244
                  have sm_v_251 : ∀ i, i ≠ 47 → i ≠ 48 → i ≠ 51 → v_251 i = v i := by rw [ev_254]; exact sm_v_229
                  refine lv_if_ne (tgt := 198) hx hb dX11_unit_190 (by decide +kernel) (fun c_258 => absurd c_258 (by decide +kernel)) (fun _ => ?_)
                  refine lv_aload_n hx hb dX11_unit_193 rfl (lv_at hl 4 rfl) ?_
                  have hFc := va_free (wc := (mW g0 pq cp v_251 fa)) hD hS hA (List.range 48) rfl
                  refine va_calli (va_runV (As := []) (rest := []) ⟨hx, hb, hml, hown, hts⟩ (c_X11_breaks l dC dI H.size g0 pq cp v_251 fa) (cwV 0 hts gX11_unit_X11_breaks rfl rfl rfl (by decide +kernel) ⟨(Nat.le_of_ble_eq_true rfl), (Nat.le_of_ble_eq_true rfl)⟩) (pr_V (r := (RX11, TX11, 63)) hP hK hD 0 11 rfl rfl) rfl rfl hl.1 rfl (lv_room (Nat.le_of_ble_eq_true rfl)) dX11_unit_194 ⟨(Nat.le_of_ble_eq_true rfl), (Nat.le_of_ble_eq_true rfl)⟩) hS (fun q _ h => hFc q h) hFc (fun r_260 u t H locs ht hvm w_259 hB hz1 hk1 hS => ?_)
                  obtain ⟨v_261, fa_262⟩ := u
                  obtain ⟨hP1, hK1, hD1⟩ := hB
                  rw [ht] at hP1
                  have hP : va_P (dC, dI) vwCl (mW g0 pq cp v_261 fa_262) H := hP1
                  have hD : va_D A (mW g0 pq cp v_261 fa_262) := hD1.weaken (fun _ _ _ h => hFc _ h)
                  clear hP1 hK1 hD1 hk1 hz1 hvm ht hFc
                  obtain ⟨rfl, ev_263, ef_264⟩ := w_259
                  dsimp only at ev_263 ef_264
                  have ef2 := ef_264.symm
                  subst ef2
                  have ea_v_261 : v_261 47 = nI k_231 := by rw [ev_263]; exact ea_v_251
                  have es_v_261 : v_261 50 = nI n := by rw [ev_263]; exact es_v_251
                  have hb_v_261 : hbF (v_261 49) fa f n := by rw [ev_263]; exact hb_v_251
                  have we_v_261 : v_261 51 = 0 := by rw [ev_263]; rfl
                  have sm_v_261 : ∀ i, i ≠ 47 → i ≠ 48 → i ≠ 51 → v_261 i = v i := by intro i h1 h2 h3; rw [ev_263]; exact (if_neg h3).trans (sm_v_251 i h1 h2 h3)
                  exact W.iret (v := 0) hx hb hr (fun t ht hW => ⟨⟨0, (v_261, fa), rfl, ⟨⟨k_231, false, _, (congrFun pU_s _).trans ((uX_b c_12).trans (uB_c0 er_97 (Or.inr (Or.inl c_225)) er_234)), by omega, hb_236, ea_v_261, (Or.inl ⟨rfl, we_v_261⟩), sm_v_261⟩, rfl⟩, ⟨by rw [ht]; exact hP, va_K.moved hW.alike hK, hD⟩⟩, hS.F ht⟩) hS.2.2 dX11_unit_197
                · exact absurd we_244 hwe_256
              · subst ew_247
                subst rx_248
                have hFc := va_free (wc := (mW g0 pq cp v_229 fa)) hD hS hA (List.range 48) rfl
                refine va_calli (va_runV (As := [.int 41]) (rest := []) ⟨hx, hb, hml, hown, hts⟩ (c_X11_takes_f l dC dI H.size g0 pq cp v_229 fa k_231 n hb_236 hn ea_237 es_v_229 f hb_v_229 41 (by decide +kernel)) (cwV 1 hts gX11_unit_X11_takes rfl rfl rfl (by decide +kernel) ⟨(Nat.le_of_ble_eq_true rfl), (Nat.le_of_ble_eq_true rfl)⟩) (pr_V (r := (RX11, TX11, 63)) hP hK hD 0 11 rfl rfl) rfl rfl hl.1 rfl (lv_room (Nat.le_of_ble_eq_true rfl)) dX11_unit_187 ⟨(Nat.le_of_ble_eq_true rfl), (Nat.le_of_ble_eq_true rfl)⟩) hS (fun q _ h => hFc q h) hFc (fun r_266 u t H locs ht hvm w_265 hB hz1 hk1 hS => ?_)
                obtain ⟨v_267, fa_268⟩ := u
                obtain ⟨hP1, hK1, hD1⟩ := hB
                rw [ht] at hP1
                have hP : va_P (dC, dI) vwCl (mW g0 pq cp v_267 fa_268) H := hP1
                have hD : va_D A (mW g0 pq cp v_267 fa_268) := hD1.weaken (fun _ _ _ h => hFc _ h)
                clear hP1 hK1 hD1 hk1 hz1 hvm ht hFc
                obtain ⟨ef_269, w_265⟩ := w_265
                dsimp only at ef_269 w_265
                have ef2 := ef_269.symm
                subst ef2
                rcases w_265 with ⟨rfl, ev_270, hc_271⟩ | ⟨rfl, hwe_272, hc_271, hlt_273, ev_270⟩
                · have ea_v_267 : v_267 47 = nI k_231 := by rw [ev_270]; exact ea_237
                  have es_v_267 : v_267 50 = nI n := by rw [ev_270]; exact es_v_229
                  have hb_v_267 : hbF (v_267 49) fa f n := by rw [ev_270]; exact hb_v_229
                  have we_v_267 : v_267 51 = 1 := by rw [ev_270]; exact we_245
                  have de_v_267 : v_267 48 = nI 4 := by rw [ev_270]; exact de_246
                  have sm_v_267 : ∀ i, i ≠ 47 → i ≠ 48 → i ≠ 51 → v_267 i = v i := by rw [ev_270]; exact sm_v_229
                  refine lv_if_ne (tgt := 198) hx hb dX11_unit_190 (by decide +kernel) (fun c_274 => absurd c_274 (by decide +kernel)) (fun _ => ?_)
                  refine lv_aload_n hx hb dX11_unit_193 rfl (lv_at hl 4 rfl) ?_
                  have hFc := va_free (wc := (mW g0 pq cp v_267 fa)) hD hS hA (List.range 48) rfl
                  refine va_calli (va_runV (As := []) (rest := []) ⟨hx, hb, hml, hown, hts⟩ (c_X11_breaks l dC dI H.size g0 pq cp v_267 fa) (cwV 0 hts gX11_unit_X11_breaks rfl rfl rfl (by decide +kernel) ⟨(Nat.le_of_ble_eq_true rfl), (Nat.le_of_ble_eq_true rfl)⟩) (pr_V (r := (RX11, TX11, 63)) hP hK hD 0 11 rfl rfl) rfl rfl hl.1 rfl (lv_room (Nat.le_of_ble_eq_true rfl)) dX11_unit_194 ⟨(Nat.le_of_ble_eq_true rfl), (Nat.le_of_ble_eq_true rfl)⟩) hS (fun q _ h => hFc q h) hFc (fun r_276 u t H locs ht hvm w_275 hB hz1 hk1 hS => ?_)
                  obtain ⟨v_277, fa_278⟩ := u
                  obtain ⟨hP1, hK1, hD1⟩ := hB
                  rw [ht] at hP1
                  have hP : va_P (dC, dI) vwCl (mW g0 pq cp v_277 fa_278) H := hP1
                  have hD : va_D A (mW g0 pq cp v_277 fa_278) := hD1.weaken (fun _ _ _ h => hFc _ h)
                  clear hP1 hK1 hD1 hk1 hz1 hvm ht hFc
                  obtain ⟨rfl, ev_279, ef_280⟩ := w_275
                  dsimp only at ev_279 ef_280
                  have ef2 := ef_280.symm
                  subst ef2
                  have ea_v_277 : v_277 47 = nI k_231 := by rw [ev_279]; exact ea_v_267
                  have es_v_277 : v_277 50 = nI n := by rw [ev_279]; exact es_v_267
                  have hb_v_277 : hbF (v_277 49) fa f n := by rw [ev_279]; exact hb_v_267
                  have we_v_277 : v_277 51 = 0 := by rw [ev_279]; rfl
                  have de_v_277 : v_277 48 = nI 4 := by rw [ev_279]; exact de_v_267
                  have sm_v_277 : ∀ i, i ≠ 47 → i ≠ 48 → i ≠ 51 → v_277 i = v i := by intro i h1 h2 h3; rw [ev_279]; exact (if_neg h3).trans (sm_v_267 i h1 h2 h3)
                  exact W.iret (v := 0) hx hb hr (fun t ht hW => ⟨⟨0, (v_277, fa), rfl, ⟨⟨k_231, false, _, (congrFun pU_s _).trans ((uX_b c_12).trans (uB_c2 er_97 (Or.inr (Or.inl c_225)) er_234 (Or.resolve_left hc_271 (fun q => absurd (q.symm.trans we_245) (by decide +kernel))))), by omega, hb_236, ea_v_277, (Or.inl ⟨rfl, we_v_277⟩), sm_v_277⟩, rfl⟩, ⟨by rw [ht]; exact hP, va_K.moved hW.alike hK, hD⟩⟩, hS.F ht⟩) hS.2.2 dX11_unit_197
                · have ev2_v_267 : v_267 = upd v_229 47 (nI (k_231 + 1)) := by rw [ev_270, ea_237]; exact congrArg _ (nI_1 _)
                  have ea_v_267 : v_267 47 = nI (k_231 + 1) := by rw [ev2_v_267]; rfl
                  have es_v_267 : v_267 50 = nI n := by rw [ev2_v_267]; exact es_v_229
                  have hb_v_267 : hbF (v_267 49) fa f n := by rw [ev2_v_267]; exact hb_v_229
                  have we_v_267 : v_267 51 = 1 := by rw [ev2_v_267]; exact we_245
                  have de_v_267 : v_267 48 = nI 4 := by rw [ev2_v_267]; exact de_246
                  have sm_v_267 : ∀ i, i ≠ 47 → i ≠ 48 → i ≠ 51 → v_267 i = v i := by intro i h1 h2 h3; rw [ev2_v_267]; exact (if_neg h1).trans (sm_v_229 i h1 h2 h3)
                  refine lv_if_ne (tgt := 198) hx hb dX11_unit_190 (by decide +kernel) (fun _ => ?_) (fun c_281 => absurd c_281 (by decide +kernel))
                  refine lv_aload_n hx hb dX11_unit_198 rfl (lv_at hl 4 rfl) ?_
                  refine lv_dup hx hb dX11_unit_199 rfl ?_
                  refine va_get (D := (dC, dI)) (ci := 11) (v := .int (v_267 48)) (C := RX11) (T := TX11) (N := 63) hx hb hts in_wsX11_unit_X11 hown hK hP 0 rfl rfl 48 (by decide +kernel) (hts (.fieldLink RX11 244 "ShipOfficeModel" "deep" "I") iw_X11_unit_3) (fun _ h9 => h9) rfl dX11_unit_200 ?_
                  refine lv_topi (fun y ey => ?_)
                  obtain rfl : y = 4 := ey.trans (de_v_267.trans (by decide +kernel))
                  refine lv_iconst (v := 1) hx hb dX11_unit_203 (by decide +kernel) ?_
                  refine lv_isub hx hb dX11_unit_204 ?_
                  refine lv_topi (fun y ey => ?_)
                  obtain rfl : y = 3 := ey.trans (by decide +kernel)
                  refine va_put (D := (dC, dI)) (ci := 11) (v := .int 3) (ty := .int) (C := RX11) (T := TX11) (N := 63) hx hb hts in_wsX11_unit_X11 tyX11 tyX11_ok nmX11 hown hK hP hD hS 0 rfl rfl 48 (by decide +kernel) (hts (.fieldLink RX11 244 "ShipOfficeModel" "deep" "I") iw_X11_unit_3) (fun _ h9 => h9) rfl (by decide +kernel) rfl rfl (Nat.le_of_ble_eq_true rfl) dX11_unit_205 (fun H locs hP hD hS => ?_)
                  have hP : va_P (dC, dI) vwCl (mW g0 pq cp (upd v_267 48 3) fa) H := hP
                  have hD : va_D A (mW g0 pq cp (upd v_267 48 3) fa) := hD
                  obtain ⟨z_282, ez_282⟩ : ∃ zq, zq = (upd v_267 48 3) := ⟨_, rfl⟩
                  rw [← ez_282] at hP hD
                  have ea_z_282 : z_282 47 = nI (k_231 + 1) := by rw [ez_282]; exact ea_v_267
                  have es_z_282 : z_282 50 = nI n := by rw [ez_282]; exact es_v_267
                  have hb_z_282 : hbF (z_282 49) fa f n := by rw [ez_282]; exact hb_v_267
                  have we_z_282 : z_282 51 = 1 := by rw [ez_282]; exact we_v_267
                  have de_z_282 : z_282 48 = nI 3 := by rw [ez_282]; rfl
                  have sm_z_282 : ∀ i, i ≠ 47 → i ≠ 48 → i ≠ 51 → z_282 i = v i := by intro i h1 h2 h3; rw [ez_282]; exact (if_neg h2).trans (sm_v_267 i h1 h2 h3)
                  refine lv_iload_n hx hb dX11_unit_208 rfl (lv_at hl 0 rfl) ?_
                  exact W.iret (v := 0) hx hb hr (fun t ht hW => ⟨⟨0, (z_282, fa), rfl, ⟨⟨(k_231 + 1), true, _, (congrFun pU_s _).trans ((uX_b c_12).trans (uB_c1 er_97 (Or.inr (Or.inl c_225)) er_234 hc_271)), by omega, hlt_273, ea_z_282, (Or.inr ⟨rfl, we_z_282, de_z_282, (by rw [c_225, mop_61]; exact (if_neg c_243).symm)⟩), sm_z_282⟩, rfl⟩, ⟨by rw [ht]; exact hP, va_K.moved hW.alike hK, hD⟩⟩, hS.F ht⟩) hS.2.2 dX11_unit_209
            · refine lv_iconst (v := 1) hx hb dX11_unit_164 (by decide +kernel) ?_
              refine lv_goto (tgt := 183) hx hb dX11_unit_165 (by decide +kernel) ?_
              refine lv_istore_n (lv' := [(2, .int 1), (4, .int r_228), (3, .int (cI f n k_94)), (1, .int (cI f n k)), (0, .ref g0)]) hx hb dX11_unit_183 rfl hl (by decide +kernel) rfl (fun ls hl => ?_)
              refine lv_aload_n hx hb dX11_unit_184 rfl (lv_at hl 4 rfl) ?_
              refine lv_bipush (v := 41) hx hb dX11_unit_185 (by decide +kernel) ?_
              rcases wd_238 with ⟨ew_286, we_283⟩ | ⟨ew_286, we_284, de_285, rx_287⟩
              · subst ew_286
                have hFc := va_free (wc := (mW g0 pq cp v_229 fa)) hD hS hA (List.range 48) rfl
                refine va_calli (va_runV (As := [.int 41]) (rest := []) ⟨hx, hb, hml, hown, hts⟩ (c_X11_takes_f l dC dI H.size g0 pq cp v_229 fa k_231 n hb_236 hn ea_237 es_v_229 f hb_v_229 41 (by decide +kernel)) (cwV 1 hts gX11_unit_X11_takes rfl rfl rfl (by decide +kernel) ⟨(Nat.le_of_ble_eq_true rfl), (Nat.le_of_ble_eq_true rfl)⟩) (pr_V (r := (RX11, TX11, 63)) hP hK hD 0 11 rfl rfl) rfl rfl hl.1 rfl (lv_room (Nat.le_of_ble_eq_true rfl)) dX11_unit_187 ⟨(Nat.le_of_ble_eq_true rfl), (Nat.le_of_ble_eq_true rfl)⟩) hS (fun q _ h => hFc q h) hFc (fun r_289 u t H locs ht hvm w_288 hB hz1 hk1 hS => ?_)
                obtain ⟨v_290, fa_291⟩ := u
                obtain ⟨hP1, hK1, hD1⟩ := hB
                rw [ht] at hP1
                have hP : va_P (dC, dI) vwCl (mW g0 pq cp v_290 fa_291) H := hP1
                have hD : va_D A (mW g0 pq cp v_290 fa_291) := hD1.weaken (fun _ _ _ h => hFc _ h)
                clear hP1 hK1 hD1 hk1 hz1 hvm ht hFc
                obtain ⟨ef_292, w_288⟩ := w_288
                dsimp only at ef_292 w_288
                have ef2 := ef_292.symm
                subst ef2
                rcases w_288 with ⟨rfl, ev_293, hc_294⟩ | ⟨rfl, hwe_295, hc_294, hlt_296, ev_293⟩
                · have ea_v_290 : v_290 47 = nI k_231 := by rw [ev_293]; exact ea_237
                  have es_v_290 : v_290 50 = nI n := by rw [ev_293]; exact es_v_229
                  have hb_v_290 : hbF (v_290 49) fa f n := by rw [ev_293]; exact hb_v_229
                  have we_v_290 : v_290 51 = 0 := by rw [ev_293]; exact we_283
                  have sm_v_290 : ∀ i, i ≠ 47 → i ≠ 48 → i ≠ 51 → v_290 i = v i := by rw [ev_293]; exact sm_v_229
                  refine lv_if_ne (tgt := 198) hx hb dX11_unit_190 (by decide +kernel) (fun c_297 => absurd c_297 (by decide +kernel)) (fun _ => ?_)
                  refine lv_aload_n hx hb dX11_unit_193 rfl (lv_at hl 4 rfl) ?_
                  have hFc := va_free (wc := (mW g0 pq cp v_290 fa)) hD hS hA (List.range 48) rfl
                  refine va_calli (va_runV (As := []) (rest := []) ⟨hx, hb, hml, hown, hts⟩ (c_X11_breaks l dC dI H.size g0 pq cp v_290 fa) (cwV 0 hts gX11_unit_X11_breaks rfl rfl rfl (by decide +kernel) ⟨(Nat.le_of_ble_eq_true rfl), (Nat.le_of_ble_eq_true rfl)⟩) (pr_V (r := (RX11, TX11, 63)) hP hK hD 0 11 rfl rfl) rfl rfl hl.1 rfl (lv_room (Nat.le_of_ble_eq_true rfl)) dX11_unit_194 ⟨(Nat.le_of_ble_eq_true rfl), (Nat.le_of_ble_eq_true rfl)⟩) hS (fun q _ h => hFc q h) hFc (fun r_299 u t H locs ht hvm w_298 hB hz1 hk1 hS => ?_)
                  obtain ⟨v_300, fa_301⟩ := u
                  obtain ⟨hP1, hK1, hD1⟩ := hB
                  rw [ht] at hP1
                  have hP : va_P (dC, dI) vwCl (mW g0 pq cp v_300 fa_301) H := hP1
                  have hD : va_D A (mW g0 pq cp v_300 fa_301) := hD1.weaken (fun _ _ _ h => hFc _ h)
                  clear hP1 hK1 hD1 hk1 hz1 hvm ht hFc
                  obtain ⟨rfl, ev_302, ef_303⟩ := w_298
                  dsimp only at ev_302 ef_303
                  have ef2 := ef_303.symm
                  subst ef2
                  have ea_v_300 : v_300 47 = nI k_231 := by rw [ev_302]; exact ea_v_290
                  have es_v_300 : v_300 50 = nI n := by rw [ev_302]; exact es_v_290
                  have hb_v_300 : hbF (v_300 49) fa f n := by rw [ev_302]; exact hb_v_290
                  have we_v_300 : v_300 51 = 0 := by rw [ev_302]; rfl
                  have sm_v_300 : ∀ i, i ≠ 47 → i ≠ 48 → i ≠ 51 → v_300 i = v i := by intro i h1 h2 h3; rw [ev_302]; exact (if_neg h3).trans (sm_v_290 i h1 h2 h3)
                  exact W.iret (v := 0) hx hb hr (fun t ht hW => ⟨⟨0, (v_300, fa), rfl, ⟨⟨k_231, false, _, (congrFun pU_s _).trans ((uX_b c_12).trans (uB_c0 er_97 (Or.inr (Or.inl c_225)) er_234)), by omega, hb_236, ea_v_300, (Or.inl ⟨rfl, we_v_300⟩), sm_v_300⟩, rfl⟩, ⟨by rw [ht]; exact hP, va_K.moved hW.alike hK, hD⟩⟩, hS.F ht⟩) hS.2.2 dX11_unit_197
                · exact absurd we_283 hwe_295
              · subst ew_286
                subst rx_287
                have hFc := va_free (wc := (mW g0 pq cp v_229 fa)) hD hS hA (List.range 48) rfl
                refine va_calli (va_runV (As := [.int 41]) (rest := []) ⟨hx, hb, hml, hown, hts⟩ (c_X11_takes_f l dC dI H.size g0 pq cp v_229 fa k_231 n hb_236 hn ea_237 es_v_229 f hb_v_229 41 (by decide +kernel)) (cwV 1 hts gX11_unit_X11_takes rfl rfl rfl (by decide +kernel) ⟨(Nat.le_of_ble_eq_true rfl), (Nat.le_of_ble_eq_true rfl)⟩) (pr_V (r := (RX11, TX11, 63)) hP hK hD 0 11 rfl rfl) rfl rfl hl.1 rfl (lv_room (Nat.le_of_ble_eq_true rfl)) dX11_unit_187 ⟨(Nat.le_of_ble_eq_true rfl), (Nat.le_of_ble_eq_true rfl)⟩) hS (fun q _ h => hFc q h) hFc (fun r_305 u t H locs ht hvm w_304 hB hz1 hk1 hS => ?_)
                obtain ⟨v_306, fa_307⟩ := u
                obtain ⟨hP1, hK1, hD1⟩ := hB
                rw [ht] at hP1
                have hP : va_P (dC, dI) vwCl (mW g0 pq cp v_306 fa_307) H := hP1
                have hD : va_D A (mW g0 pq cp v_306 fa_307) := hD1.weaken (fun _ _ _ h => hFc _ h)
                clear hP1 hK1 hD1 hk1 hz1 hvm ht hFc
                obtain ⟨ef_308, w_304⟩ := w_304
                dsimp only at ef_308 w_304
                have ef2 := ef_308.symm
                subst ef2
                rcases w_304 with ⟨rfl, ev_309, hc_310⟩ | ⟨rfl, hwe_311, hc_310, hlt_312, ev_309⟩
                · have ea_v_306 : v_306 47 = nI k_231 := by rw [ev_309]; exact ea_237
                  have es_v_306 : v_306 50 = nI n := by rw [ev_309]; exact es_v_229
                  have hb_v_306 : hbF (v_306 49) fa f n := by rw [ev_309]; exact hb_v_229
                  have we_v_306 : v_306 51 = 1 := by rw [ev_309]; exact we_284
                  have de_v_306 : v_306 48 = nI 4 := by rw [ev_309]; exact de_285
                  have sm_v_306 : ∀ i, i ≠ 47 → i ≠ 48 → i ≠ 51 → v_306 i = v i := by rw [ev_309]; exact sm_v_229
                  refine lv_if_ne (tgt := 198) hx hb dX11_unit_190 (by decide +kernel) (fun c_313 => absurd c_313 (by decide +kernel)) (fun _ => ?_)
                  refine lv_aload_n hx hb dX11_unit_193 rfl (lv_at hl 4 rfl) ?_
                  have hFc := va_free (wc := (mW g0 pq cp v_306 fa)) hD hS hA (List.range 48) rfl
                  refine va_calli (va_runV (As := []) (rest := []) ⟨hx, hb, hml, hown, hts⟩ (c_X11_breaks l dC dI H.size g0 pq cp v_306 fa) (cwV 0 hts gX11_unit_X11_breaks rfl rfl rfl (by decide +kernel) ⟨(Nat.le_of_ble_eq_true rfl), (Nat.le_of_ble_eq_true rfl)⟩) (pr_V (r := (RX11, TX11, 63)) hP hK hD 0 11 rfl rfl) rfl rfl hl.1 rfl (lv_room (Nat.le_of_ble_eq_true rfl)) dX11_unit_194 ⟨(Nat.le_of_ble_eq_true rfl), (Nat.le_of_ble_eq_true rfl)⟩) hS (fun q _ h => hFc q h) hFc (fun r_315 u t H locs ht hvm w_314 hB hz1 hk1 hS => ?_)
                  obtain ⟨v_316, fa_317⟩ := u
                  obtain ⟨hP1, hK1, hD1⟩ := hB
                  rw [ht] at hP1
                  have hP : va_P (dC, dI) vwCl (mW g0 pq cp v_316 fa_317) H := hP1
                  have hD : va_D A (mW g0 pq cp v_316 fa_317) := hD1.weaken (fun _ _ _ h => hFc _ h)
                  clear hP1 hK1 hD1 hk1 hz1 hvm ht hFc
                  obtain ⟨rfl, ev_318, ef_319⟩ := w_314
                  dsimp only at ev_318 ef_319
                  have ef2 := ef_319.symm
                  subst ef2
                  have ea_v_316 : v_316 47 = nI k_231 := by rw [ev_318]; exact ea_v_306
                  have es_v_316 : v_316 50 = nI n := by rw [ev_318]; exact es_v_306
                  have hb_v_316 : hbF (v_316 49) fa f n := by rw [ev_318]; exact hb_v_306
                  have we_v_316 : v_316 51 = 0 := by rw [ev_318]; rfl
                  have de_v_316 : v_316 48 = nI 4 := by rw [ev_318]; exact de_v_306
                  have sm_v_316 : ∀ i, i ≠ 47 → i ≠ 48 → i ≠ 51 → v_316 i = v i := by intro i h1 h2 h3; rw [ev_318]; exact (if_neg h3).trans (sm_v_306 i h1 h2 h3)
                  exact W.iret (v := 0) hx hb hr (fun t ht hW => ⟨⟨0, (v_316, fa), rfl, ⟨⟨k_231, false, _, (congrFun pU_s _).trans ((uX_b c_12).trans (uB_c2 er_97 (Or.inr (Or.inl c_225)) er_234 (Or.resolve_left hc_310 (fun q => absurd (q.symm.trans we_284) (by decide +kernel))))), by omega, hb_236, ea_v_316, (Or.inl ⟨rfl, we_v_316⟩), sm_v_316⟩, rfl⟩, ⟨by rw [ht]; exact hP, va_K.moved hW.alike hK, hD⟩⟩, hS.F ht⟩) hS.2.2 dX11_unit_197
                · have ev2_v_306 : v_306 = upd v_229 47 (nI (k_231 + 1)) := by rw [ev_309, ea_237]; exact congrArg _ (nI_1 _)
                  have ea_v_306 : v_306 47 = nI (k_231 + 1) := by rw [ev2_v_306]; rfl
                  have es_v_306 : v_306 50 = nI n := by rw [ev2_v_306]; exact es_v_229
                  have hb_v_306 : hbF (v_306 49) fa f n := by rw [ev2_v_306]; exact hb_v_229
                  have we_v_306 : v_306 51 = 1 := by rw [ev2_v_306]; exact we_284
                  have de_v_306 : v_306 48 = nI 4 := by rw [ev2_v_306]; exact de_285
                  have sm_v_306 : ∀ i, i ≠ 47 → i ≠ 48 → i ≠ 51 → v_306 i = v i := by intro i h1 h2 h3; rw [ev2_v_306]; exact (if_neg h1).trans (sm_v_229 i h1 h2 h3)
                  refine lv_if_ne (tgt := 198) hx hb dX11_unit_190 (by decide +kernel) (fun _ => ?_) (fun c_320 => absurd c_320 (by decide +kernel))
                  refine lv_aload_n hx hb dX11_unit_198 rfl (lv_at hl 4 rfl) ?_
                  refine lv_dup hx hb dX11_unit_199 rfl ?_
                  refine va_get (D := (dC, dI)) (ci := 11) (v := .int (v_306 48)) (C := RX11) (T := TX11) (N := 63) hx hb hts in_wsX11_unit_X11 hown hK hP 0 rfl rfl 48 (by decide +kernel) (hts (.fieldLink RX11 244 "ShipOfficeModel" "deep" "I") iw_X11_unit_3) (fun _ h9 => h9) rfl dX11_unit_200 ?_
                  refine lv_topi (fun y ey => ?_)
                  obtain rfl : y = 4 := ey.trans (de_v_306.trans (by decide +kernel))
                  refine lv_iconst (v := 1) hx hb dX11_unit_203 (by decide +kernel) ?_
                  refine lv_isub hx hb dX11_unit_204 ?_
                  refine lv_topi (fun y ey => ?_)
                  obtain rfl : y = 3 := ey.trans (by decide +kernel)
                  refine va_put (D := (dC, dI)) (ci := 11) (v := .int 3) (ty := .int) (C := RX11) (T := TX11) (N := 63) hx hb hts in_wsX11_unit_X11 tyX11 tyX11_ok nmX11 hown hK hP hD hS 0 rfl rfl 48 (by decide +kernel) (hts (.fieldLink RX11 244 "ShipOfficeModel" "deep" "I") iw_X11_unit_3) (fun _ h9 => h9) rfl (by decide +kernel) rfl rfl (Nat.le_of_ble_eq_true rfl) dX11_unit_205 (fun H locs hP hD hS => ?_)
                  have hP : va_P (dC, dI) vwCl (mW g0 pq cp (upd v_306 48 3) fa) H := hP
                  have hD : va_D A (mW g0 pq cp (upd v_306 48 3) fa) := hD
                  obtain ⟨z_321, ez_321⟩ : ∃ zq, zq = (upd v_306 48 3) := ⟨_, rfl⟩
                  rw [← ez_321] at hP hD
                  have ea_z_321 : z_321 47 = nI (k_231 + 1) := by rw [ez_321]; exact ea_v_306
                  have es_z_321 : z_321 50 = nI n := by rw [ez_321]; exact es_v_306
                  have hb_z_321 : hbF (z_321 49) fa f n := by rw [ez_321]; exact hb_v_306
                  have we_z_321 : z_321 51 = 1 := by rw [ez_321]; exact we_v_306
                  have de_z_321 : z_321 48 = nI 3 := by rw [ez_321]; rfl
                  have sm_z_321 : ∀ i, i ≠ 47 → i ≠ 48 → i ≠ 51 → z_321 i = v i := by intro i h1 h2 h3; rw [ez_321]; exact (if_neg h2).trans (sm_v_306 i h1 h2 h3)
                  refine lv_iload_n hx hb dX11_unit_208 rfl (lv_at hl 0 rfl) ?_
                  exact W.iret (v := 1) hx hb hr (fun t ht hW => ⟨⟨1, (z_321, fa), rfl, ⟨⟨(k_231 + 1), true, _, (congrFun pU_s _).trans ((uX_b c_12).trans (uB_c1 er_97 (Or.inr (Or.inl c_225)) er_234 hc_310)), by omega, hlt_312, ea_z_321, (Or.inr ⟨rfl, we_z_321, de_z_321, (by rw [c_225, mop_61]; exact (if_pos c_243).symm)⟩), sm_z_321⟩, rfl⟩, ⟨by rw [ht]; exact hP, va_K.moved hW.alike hK, hD⟩⟩, hS.F ht⟩) hS.2.2 dX11_unit_209
          · refine lv_iload_n hx hb dX11_unit_110 rfl (lv_at hl 0 rfl) ?_
            refine lv_bipush (v := 62) hx hb dX11_unit_111 (by decide +kernel) ?_
            refine lv_icmp_ne (tgt := 184) hx hb dX11_unit_113 (by decide +kernel) (fun c_322 => ?_) (fun c_322 => ?_)
            · refine lv_aload_n hx hb dX11_unit_184 rfl (lv_at hl 3 rfl) ?_
              refine lv_bipush (v := 41) hx hb dX11_unit_185 (by decide +kernel) ?_
              have hFc := va_free (wc := (mW g0 pq cp v_92 fa)) hD hS hA (List.range 48) rfl
              refine va_calli (va_runV (As := [.int 41]) (rest := []) ⟨hx, hb, hml, hown, hts⟩ (c_X11_takes_f l dC dI H.size g0 pq cp v_92 fa k_94 n hb_99 hn ea_100 es_v_92 f hb_v_92 41 (by decide +kernel)) (cwV 1 hts gX11_unit_X11_takes rfl rfl rfl (by decide +kernel) ⟨(Nat.le_of_ble_eq_true rfl), (Nat.le_of_ble_eq_true rfl)⟩) (pr_V (r := (RX11, TX11, 63)) hP hK hD 0 11 rfl rfl) rfl rfl hl.1 rfl (lv_room (Nat.le_of_ble_eq_true rfl)) dX11_unit_187 ⟨(Nat.le_of_ble_eq_true rfl), (Nat.le_of_ble_eq_true rfl)⟩) hS (fun q _ h => hFc q h) hFc (fun r_324 u t H locs ht hvm w_323 hB hz1 hk1 hS => ?_)
              obtain ⟨v_325, fa_326⟩ := u
              obtain ⟨hP1, hK1, hD1⟩ := hB
              rw [ht] at hP1
              have hP : va_P (dC, dI) vwCl (mW g0 pq cp v_325 fa_326) H := hP1
              have hD : va_D A (mW g0 pq cp v_325 fa_326) := hD1.weaken (fun _ _ _ h => hFc _ h)
              clear hP1 hK1 hD1 hk1 hz1 hvm ht hFc
              obtain ⟨ef_327, w_323⟩ := w_323
              dsimp only at ef_327 w_323
              have ef2 := ef_327.symm
              subst ef2
              rcases w_323 with ⟨rfl, ev_328, hc_329⟩ | ⟨rfl, hwe_330, hc_329, hlt_331, ev_328⟩
              · have ea_v_325 : v_325 47 = nI k_94 := by rw [ev_328]; exact ea_100
                have es_v_325 : v_325 50 = nI n := by rw [ev_328]; exact es_v_92
                have hb_v_325 : hbF (v_325 49) fa f n := by rw [ev_328]; exact hb_v_92
                have we_v_325 : v_325 51 = 1 := by rw [ev_328]; exact we_107
                have de_v_325 : v_325 48 = nI 4 := by rw [ev_328]; exact de_108
                have sm_v_325 : ∀ i, i ≠ 47 → i ≠ 48 → i ≠ 51 → v_325 i = v i := by rw [ev_328]; exact sm_v_92
                refine lv_if_ne (tgt := 198) hx hb dX11_unit_190 (by decide +kernel) (fun c_332 => absurd c_332 (by decide +kernel)) (fun _ => ?_)
                refine lv_aload_n hx hb dX11_unit_193 rfl (lv_at hl 3 rfl) ?_
                have hFc := va_free (wc := (mW g0 pq cp v_325 fa)) hD hS hA (List.range 48) rfl
                refine va_calli (va_runV (As := []) (rest := []) ⟨hx, hb, hml, hown, hts⟩ (c_X11_breaks l dC dI H.size g0 pq cp v_325 fa) (cwV 0 hts gX11_unit_X11_breaks rfl rfl rfl (by decide +kernel) ⟨(Nat.le_of_ble_eq_true rfl), (Nat.le_of_ble_eq_true rfl)⟩) (pr_V (r := (RX11, TX11, 63)) hP hK hD 0 11 rfl rfl) rfl rfl hl.1 rfl (lv_room (Nat.le_of_ble_eq_true rfl)) dX11_unit_194 ⟨(Nat.le_of_ble_eq_true rfl), (Nat.le_of_ble_eq_true rfl)⟩) hS (fun q _ h => hFc q h) hFc (fun r_334 u t H locs ht hvm w_333 hB hz1 hk1 hS => ?_)
                obtain ⟨v_335, fa_336⟩ := u
                obtain ⟨hP1, hK1, hD1⟩ := hB
                rw [ht] at hP1
                have hP : va_P (dC, dI) vwCl (mW g0 pq cp v_335 fa_336) H := hP1
                have hD : va_D A (mW g0 pq cp v_335 fa_336) := hD1.weaken (fun _ _ _ h => hFc _ h)
                clear hP1 hK1 hD1 hk1 hz1 hvm ht hFc
                obtain ⟨rfl, ev_337, ef_338⟩ := w_333
                dsimp only at ev_337 ef_338
                have ef2 := ef_338.symm
                subst ef2
                have ea_v_335 : v_335 47 = nI k_94 := by rw [ev_337]; exact ea_v_325
                have es_v_335 : v_335 50 = nI n := by rw [ev_337]; exact es_v_325
                have hb_v_335 : hbF (v_335 49) fa f n := by rw [ev_337]; exact hb_v_325
                have we_v_335 : v_335 51 = 0 := by rw [ev_337]; rfl
                have de_v_335 : v_335 48 = nI 4 := by rw [ev_337]; exact de_v_325
                have sm_v_335 : ∀ i, i ≠ 47 → i ≠ 48 → i ≠ 51 → v_335 i = v i := by intro i h1 h2 h3; rw [ev_337]; exact (if_neg h3).trans (sm_v_325 i h1 h2 h3)
                exact W.iret (v := 0) hx hb hr (fun t ht hW => ⟨⟨0, (v_335, fa), rfl, ⟨⟨k_94, false, _, (congrFun pU_s _).trans ((uX_b c_12).trans (uB_2 er_97 (fun h => h.elim c_129 (fun h => h.elim c_225 c_322)) (Or.resolve_left hc_329 (fun q => absurd (q.symm.trans we_107) (by decide +kernel))))), by omega, hb_99, ea_v_335, (Or.inl ⟨rfl, we_v_335⟩), sm_v_335⟩, rfl⟩, ⟨by rw [ht]; exact hP, va_K.moved hW.alike hK, hD⟩⟩, hS.F ht⟩) hS.2.2 dX11_unit_197
              · have ev2_v_325 : v_325 = upd v_92 47 (nI (k_94 + 1)) := by rw [ev_328, ea_100]; exact congrArg _ (nI_1 _)
                have ea_v_325 : v_325 47 = nI (k_94 + 1) := by rw [ev2_v_325]; rfl
                have es_v_325 : v_325 50 = nI n := by rw [ev2_v_325]; exact es_v_92
                have hb_v_325 : hbF (v_325 49) fa f n := by rw [ev2_v_325]; exact hb_v_92
                have we_v_325 : v_325 51 = 1 := by rw [ev2_v_325]; exact we_107
                have de_v_325 : v_325 48 = nI 4 := by rw [ev2_v_325]; exact de_108
                have sm_v_325 : ∀ i, i ≠ 47 → i ≠ 48 → i ≠ 51 → v_325 i = v i := by intro i h1 h2 h3; rw [ev2_v_325]; exact (if_neg h1).trans (sm_v_92 i h1 h2 h3)
                refine lv_if_ne (tgt := 198) hx hb dX11_unit_190 (by decide +kernel) (fun _ => ?_) (fun c_339 => absurd c_339 (by decide +kernel))
                refine lv_aload_n hx hb dX11_unit_198 rfl (lv_at hl 3 rfl) ?_
                refine lv_dup hx hb dX11_unit_199 rfl ?_
                refine va_get (D := (dC, dI)) (ci := 11) (v := .int (v_325 48)) (C := RX11) (T := TX11) (N := 63) hx hb hts in_wsX11_unit_X11 hown hK hP 0 rfl rfl 48 (by decide +kernel) (hts (.fieldLink RX11 244 "ShipOfficeModel" "deep" "I") iw_X11_unit_3) (fun _ h9 => h9) rfl dX11_unit_200 ?_
                refine lv_topi (fun y ey => ?_)
                obtain rfl : y = 4 := ey.trans (de_v_325.trans (by decide +kernel))
                refine lv_iconst (v := 1) hx hb dX11_unit_203 (by decide +kernel) ?_
                refine lv_isub hx hb dX11_unit_204 ?_
                refine lv_topi (fun y ey => ?_)
                obtain rfl : y = 3 := ey.trans (by decide +kernel)
                refine va_put (D := (dC, dI)) (ci := 11) (v := .int 3) (ty := .int) (C := RX11) (T := TX11) (N := 63) hx hb hts in_wsX11_unit_X11 tyX11 tyX11_ok nmX11 hown hK hP hD hS 0 rfl rfl 48 (by decide +kernel) (hts (.fieldLink RX11 244 "ShipOfficeModel" "deep" "I") iw_X11_unit_3) (fun _ h9 => h9) rfl (by decide +kernel) rfl rfl (Nat.le_of_ble_eq_true rfl) dX11_unit_205 (fun H locs hP hD hS => ?_)
                have hP : va_P (dC, dI) vwCl (mW g0 pq cp (upd v_325 48 3) fa) H := hP
                have hD : va_D A (mW g0 pq cp (upd v_325 48 3) fa) := hD
                obtain ⟨z_340, ez_340⟩ : ∃ zq, zq = (upd v_325 48 3) := ⟨_, rfl⟩
                rw [← ez_340] at hP hD
                have ea_z_340 : z_340 47 = nI (k_94 + 1) := by rw [ez_340]; exact ea_v_325
                have es_z_340 : z_340 50 = nI n := by rw [ez_340]; exact es_v_325
                have hb_z_340 : hbF (z_340 49) fa f n := by rw [ez_340]; exact hb_v_325
                have we_z_340 : z_340 51 = 1 := by rw [ez_340]; exact we_v_325
                have de_z_340 : z_340 48 = nI 3 := by rw [ez_340]; rfl
                have sm_z_340 : ∀ i, i ≠ 47 → i ≠ 48 → i ≠ 51 → z_340 i = v i := by intro i h1 h2 h3; rw [ez_340]; exact (if_neg h2).trans (sm_v_325 i h1 h2 h3)
                refine lv_iload_n hx hb dX11_unit_208 rfl (lv_at hl 1 rfl) ?_
                exact W.iret (v := r_91) hx hb hr (fun t ht hW => ⟨⟨r_91, (z_340, fa), rfl, ⟨⟨(k_94 + 1), true, _, (congrFun pU_s _).trans ((uX_b c_12).trans (uB_1 er_97 (fun h => h.elim c_129 (fun h => h.elim c_225 c_322)) hc_329)), by omega, hlt_331, ea_z_340, (Or.inr ⟨rfl, we_z_340, de_z_340, rfl⟩), sm_z_340⟩, rfl⟩, ⟨by rw [ht]; exact hP, va_K.moved hW.alike hK, hD⟩⟩, hS.F ht⟩) hS.2.2 dX11_unit_209
            · refine lv_aload_n hx hb dX11_unit_116 rfl (lv_at hl 3 rfl) ?_
              refine lv_dup hx hb dX11_unit_117 rfl ?_
              refine va_get (D := (dC, dI)) (ci := 11) (v := .int (v_92 47)) (C := RX11) (T := TX11) (N := 63) hx hb hts in_wsX11_unit_X11 hown hK hP 0 rfl rfl 47 (by decide +kernel) (hts (.fieldLink RX11 210 "ShipOfficeModel" "at" "I") iw_X11_unit_2) (fun _ h9 => h9) rfl dX11_unit_118 ?_
              refine lv_iconst (v := 1) hx hb dX11_unit_121 (by decide +kernel) ?_
              refine lv_iadd hx hb dX11_unit_122 ?_
              refine lv_topi (fun y ey => ?_)
              obtain rfl : y = nI (k_94 + 1) := ey.trans (by rw [ea_100]; exact nI_1 _)
              refine va_put (D := (dC, dI)) (ci := 11) (v := .int (nI (k_94 + 1))) (ty := .int) (C := RX11) (T := TX11) (N := 63) hx hb hts in_wsX11_unit_X11 tyX11 tyX11_ok nmX11 hown hK hP hD hS 0 rfl rfl 47 (by decide +kernel) (hts (.fieldLink RX11 210 "ShipOfficeModel" "at" "I") iw_X11_unit_2) (fun _ h9 => h9) rfl (by decide +kernel) rfl rfl (Nat.le_of_ble_eq_true rfl) dX11_unit_123 (fun H locs hP hD hS => ?_)
              have hP : va_P (dC, dI) vwCl (mW g0 pq cp (upd v_92 47 (nI (k_94 + 1))) fa) H := hP
              have hD : va_D A (mW g0 pq cp (upd v_92 47 (nI (k_94 + 1))) fa) := hD
              obtain ⟨z_341, ez_341⟩ : ∃ zq, zq = (upd v_92 47 (nI (k_94 + 1))) := ⟨_, rfl⟩
              rw [← ez_341] at hP hD
              have ea_z_341 : z_341 47 = nI (k_94 + 1) := by rw [ez_341]; rfl
              have es_z_341 : z_341 50 = nI n := by rw [ez_341]; exact es_v_92
              have hb_z_341 : hbF (z_341 49) fa f n := by rw [ez_341]; exact hb_v_92
              have we_z_341 : z_341 51 = 1 := by rw [ez_341]; exact we_107
              have de_z_341 : z_341 48 = nI 4 := by rw [ez_341]; exact de_108
              have sm_z_341 : ∀ i, i ≠ 47 → i ≠ 48 → i ≠ 51 → z_341 i = v i := by intro i h1 h2 h3; rw [ez_341]; exact (if_neg h1).trans (sm_v_92 i h1 h2 h3)
              have hkn_z_341 : (k_94 + 1) ≤ n := (cI_in c_322 (by decide +kernel))
              have hk0_z_341 : k ≤ (k_94 + 1) := by omega
              refine lv_aload_n hx hb dX11_unit_126 rfl (lv_at hl 3 rfl) ?_
              have hFc := va_free (wc := (mW g0 pq cp z_341 fa)) hD hS hA (List.range 48) rfl
              refine va_calli (va_runV (As := []) (rest := []) ⟨hx, hb, hml, hown, hts⟩ (c_X11_sum_4f l dC dI H.size g0 pq cp z_341 fa (k_94 + 1) n hkn_z_341 hn ea_z_341 es_z_341 f hb_z_341 we_z_341 de_z_341) (cwV 0 hts gX11_unit_X11_sum rfl rfl rfl (by decide +kernel) ⟨(Nat.le_of_ble_eq_true rfl), (Nat.le_of_ble_eq_true rfl)⟩) (pr_V (r := (RX11, TX11, 63)) hP hK hD 0 11 rfl rfl) rfl rfl hl.1 rfl (lv_room (Nat.le_of_ble_eq_true rfl)) dX11_unit_127 ⟨(Nat.le_of_ble_eq_true rfl), (Nat.le_of_ble_eq_true rfl)⟩) hS (fun q _ h => hFc q h) hFc (fun r_343 u t H locs ht hvm w_342 hB hz1 hk1 hS => ?_)
              obtain ⟨v_344, fa_345⟩ := u
              obtain ⟨hP1, hK1, hD1⟩ := hB
              rw [ht] at hP1
              have hP : va_P (dC, dI) vwCl (mW g0 pq cp v_344 fa_345) H := hP1
              have hD : va_D A (mW g0 pq cp v_344 fa_345) := hD1.weaken (fun _ _ _ h => hFc _ h)
              clear hP1 hK1 hD1 hk1 hz1 hvm ht hFc
              obtain ⟨⟨k_346, w_347, y_348, er_349, ha_350, hb_351, ea_352, wd_353, sm_354⟩, ef_355⟩ := w_342
              dsimp only at ea_352 wd_353 sm_354 ef_355
              have ef2 := ef_355.symm
              subst ef2
              have es_v_344 : v_344 50 = nI n := (sm_354 50 (by decide +kernel) (by decide +kernel) (by decide +kernel)).trans es_z_341
              have hb_v_344 : hbF (v_344 49) fa f n := by rw [sm_354 49 (by decide +kernel) (by decide +kernel) (by decide +kernel)]; exact hb_z_341
              have sm_v_344 : ∀ i, i ≠ 47 → i ≠ 48 → i ≠ 51 → v_344 i = v i := fun i h1 h2 h3 => (sm_354 i h1 h2 h3).trans (sm_z_341 i h1 h2 h3)
              refine lv_istore (lv' := [(4, .int r_343), (3, .int (cI f n k_94)), (2, .int r_91), (1, .int (cI f n k)), (0, .ref g0)]) hx hb dX11_unit_130 hl (by decide +kernel) rfl (fun ls hl => ?_)
              refine lv_iload_n hx hb dX11_unit_132 rfl (lv_at hl 1 rfl) ?_
              refine lv_bipush (v := 60) hx hb dX11_unit_133 (by decide +kernel) ?_
              refine lv_icmp_ne (tgt := 152) hx hb dX11_unit_135 (by decide +kernel) (fun c_356 => ?_) (fun c_356 => absurd c_356 (fun h => absurd (c_322.symm.trans h) (by decide +kernel)))
              refine lv_iload_n hx hb dX11_unit_152 rfl (lv_at hl 1 rfl) ?_
              refine lv_bipush (v := 61) hx hb dX11_unit_153 (by decide +kernel) ?_
              refine lv_icmp_ne (tgt := 172) hx hb dX11_unit_155 (by decide +kernel) (fun c_357 => ?_) (fun c_357 => absurd c_357 (fun h => absurd (c_322.symm.trans h) (by decide +kernel)))
              refine lv_iload_n hx hb dX11_unit_172 rfl (lv_at hl 2 rfl) ?_
              refine lv_iload hx hb dX11_unit_173 (lv_at hl 0 rfl) ?_
              refine lv_icmp_le (tgt := 182) hx hb dX11_unit_175 (by decide +kernel) (fun c_358 => ?_) (fun c_358 => ?_)
              · refine lv_iconst (v := 0) hx hb dX11_unit_182 (by decide +kernel) ?_
                refine lv_istore_n (lv' := [(2, .int 0), (4, .int r_343), (3, .int (cI f n k_94)), (1, .int (cI f n k)), (0, .ref g0)]) hx hb dX11_unit_183 rfl hl (by decide +kernel) rfl (fun ls hl => ?_)
                refine lv_aload_n hx hb dX11_unit_184 rfl (lv_at hl 4 rfl) ?_
                refine lv_bipush (v := 41) hx hb dX11_unit_185 (by decide +kernel) ?_
                rcases wd_353 with ⟨ew_362, we_359⟩ | ⟨ew_362, we_360, de_361, rx_363⟩
                · subst ew_362
                  have hFc := va_free (wc := (mW g0 pq cp v_344 fa)) hD hS hA (List.range 48) rfl
                  refine va_calli (va_runV (As := [.int 41]) (rest := []) ⟨hx, hb, hml, hown, hts⟩ (c_X11_takes_f l dC dI H.size g0 pq cp v_344 fa k_346 n hb_351 hn ea_352 es_v_344 f hb_v_344 41 (by decide +kernel)) (cwV 1 hts gX11_unit_X11_takes rfl rfl rfl (by decide +kernel) ⟨(Nat.le_of_ble_eq_true rfl), (Nat.le_of_ble_eq_true rfl)⟩) (pr_V (r := (RX11, TX11, 63)) hP hK hD 0 11 rfl rfl) rfl rfl hl.1 rfl (lv_room (Nat.le_of_ble_eq_true rfl)) dX11_unit_187 ⟨(Nat.le_of_ble_eq_true rfl), (Nat.le_of_ble_eq_true rfl)⟩) hS (fun q _ h => hFc q h) hFc (fun r_365 u t H locs ht hvm w_364 hB hz1 hk1 hS => ?_)
                  obtain ⟨v_366, fa_367⟩ := u
                  obtain ⟨hP1, hK1, hD1⟩ := hB
                  rw [ht] at hP1
                  have hP : va_P (dC, dI) vwCl (mW g0 pq cp v_366 fa_367) H := hP1
                  have hD : va_D A (mW g0 pq cp v_366 fa_367) := hD1.weaken (fun _ _ _ h => hFc _ h)
                  clear hP1 hK1 hD1 hk1 hz1 hvm ht hFc
                  obtain ⟨ef_368, w_364⟩ := w_364
                  dsimp only at ef_368 w_364
                  have ef2 := ef_368.symm
                  subst ef2
                  rcases w_364 with ⟨rfl, ev_369, hc_370⟩ | ⟨rfl, hwe_371, hc_370, hlt_372, ev_369⟩
                  · have ea_v_366 : v_366 47 = nI k_346 := by rw [ev_369]; exact ea_352
                    have es_v_366 : v_366 50 = nI n := by rw [ev_369]; exact es_v_344
                    have hb_v_366 : hbF (v_366 49) fa f n := by rw [ev_369]; exact hb_v_344
                    have we_v_366 : v_366 51 = 0 := by rw [ev_369]; exact we_359
                    have sm_v_366 : ∀ i, i ≠ 47 → i ≠ 48 → i ≠ 51 → v_366 i = v i := by rw [ev_369]; exact sm_v_344
                    refine lv_if_ne (tgt := 198) hx hb dX11_unit_190 (by decide +kernel) (fun c_373 => absurd c_373 (by decide +kernel)) (fun _ => ?_)
                    refine lv_aload_n hx hb dX11_unit_193 rfl (lv_at hl 4 rfl) ?_
                    have hFc := va_free (wc := (mW g0 pq cp v_366 fa)) hD hS hA (List.range 48) rfl
                    refine va_calli (va_runV (As := []) (rest := []) ⟨hx, hb, hml, hown, hts⟩ (c_X11_breaks l dC dI H.size g0 pq cp v_366 fa) (cwV 0 hts gX11_unit_X11_breaks rfl rfl rfl (by decide +kernel) ⟨(Nat.le_of_ble_eq_true rfl), (Nat.le_of_ble_eq_true rfl)⟩) (pr_V (r := (RX11, TX11, 63)) hP hK hD 0 11 rfl rfl) rfl rfl hl.1 rfl (lv_room (Nat.le_of_ble_eq_true rfl)) dX11_unit_194 ⟨(Nat.le_of_ble_eq_true rfl), (Nat.le_of_ble_eq_true rfl)⟩) hS (fun q _ h => hFc q h) hFc (fun r_375 u t H locs ht hvm w_374 hB hz1 hk1 hS => ?_)
                    obtain ⟨v_376, fa_377⟩ := u
                    obtain ⟨hP1, hK1, hD1⟩ := hB
                    rw [ht] at hP1
                    have hP : va_P (dC, dI) vwCl (mW g0 pq cp v_376 fa_377) H := hP1
                    have hD : va_D A (mW g0 pq cp v_376 fa_377) := hD1.weaken (fun _ _ _ h => hFc _ h)
                    clear hP1 hK1 hD1 hk1 hz1 hvm ht hFc
                    obtain ⟨rfl, ev_378, ef_379⟩ := w_374
                    dsimp only at ev_378 ef_379
                    have ef2 := ef_379.symm
                    subst ef2
                    have ea_v_376 : v_376 47 = nI k_346 := by rw [ev_378]; exact ea_v_366
                    have es_v_376 : v_376 50 = nI n := by rw [ev_378]; exact es_v_366
                    have hb_v_376 : hbF (v_376 49) fa f n := by rw [ev_378]; exact hb_v_366
                    have we_v_376 : v_376 51 = 0 := by rw [ev_378]; rfl
                    have sm_v_376 : ∀ i, i ≠ 47 → i ≠ 48 → i ≠ 51 → v_376 i = v i := by intro i h1 h2 h3; rw [ev_378]; exact (if_neg h3).trans (sm_v_366 i h1 h2 h3)
                    exact W.iret (v := 0) hx hb hr (fun t ht hW => ⟨⟨0, (v_376, fa), rfl, ⟨⟨k_346, false, _, (congrFun pU_s _).trans ((uX_b c_12).trans (uB_c0 er_97 (Or.inr (Or.inr c_322)) er_349)), by omega, hb_351, ea_v_376, (Or.inl ⟨rfl, we_v_376⟩), sm_v_376⟩, rfl⟩, ⟨by rw [ht]; exact hP, va_K.moved hW.alike hK, hD⟩⟩, hS.F ht⟩) hS.2.2 dX11_unit_197
                  · exact absurd we_359 hwe_371
                · subst ew_362
                  subst rx_363
                  have hFc := va_free (wc := (mW g0 pq cp v_344 fa)) hD hS hA (List.range 48) rfl
                  refine va_calli (va_runV (As := [.int 41]) (rest := []) ⟨hx, hb, hml, hown, hts⟩ (c_X11_takes_f l dC dI H.size g0 pq cp v_344 fa k_346 n hb_351 hn ea_352 es_v_344 f hb_v_344 41 (by decide +kernel)) (cwV 1 hts gX11_unit_X11_takes rfl rfl rfl (by decide +kernel) ⟨(Nat.le_of_ble_eq_true rfl), (Nat.le_of_ble_eq_true rfl)⟩) (pr_V (r := (RX11, TX11, 63)) hP hK hD 0 11 rfl rfl) rfl rfl hl.1 rfl (lv_room (Nat.le_of_ble_eq_true rfl)) dX11_unit_187 ⟨(Nat.le_of_ble_eq_true rfl), (Nat.le_of_ble_eq_true rfl)⟩) hS (fun q _ h => hFc q h) hFc (fun r_381 u t H locs ht hvm w_380 hB hz1 hk1 hS => ?_)
                  obtain ⟨v_382, fa_383⟩ := u
                  obtain ⟨hP1, hK1, hD1⟩ := hB
                  rw [ht] at hP1
                  have hP : va_P (dC, dI) vwCl (mW g0 pq cp v_382 fa_383) H := hP1
                  have hD : va_D A (mW g0 pq cp v_382 fa_383) := hD1.weaken (fun _ _ _ h => hFc _ h)
                  clear hP1 hK1 hD1 hk1 hz1 hvm ht hFc
                  obtain ⟨ef_384, w_380⟩ := w_380
                  dsimp only at ef_384 w_380
                  have ef2 := ef_384.symm
                  subst ef2
                  rcases w_380 with ⟨rfl, ev_385, hc_386⟩ | ⟨rfl, hwe_387, hc_386, hlt_388, ev_385⟩
                  · have ea_v_382 : v_382 47 = nI k_346 := by rw [ev_385]; exact ea_352
                    have es_v_382 : v_382 50 = nI n := by rw [ev_385]; exact es_v_344
                    have hb_v_382 : hbF (v_382 49) fa f n := by rw [ev_385]; exact hb_v_344
                    have we_v_382 : v_382 51 = 1 := by rw [ev_385]; exact we_360
                    have de_v_382 : v_382 48 = nI 4 := by rw [ev_385]; exact de_361
                    have sm_v_382 : ∀ i, i ≠ 47 → i ≠ 48 → i ≠ 51 → v_382 i = v i := by rw [ev_385]; exact sm_v_344
                    refine lv_if_ne (tgt := 198) hx hb dX11_unit_190 (by decide +kernel) (fun c_389 => absurd c_389 (by decide +kernel)) (fun _ => ?_)
                    refine lv_aload_n hx hb dX11_unit_193 rfl (lv_at hl 4 rfl) ?_
                    have hFc := va_free (wc := (mW g0 pq cp v_382 fa)) hD hS hA (List.range 48) rfl
                    refine va_calli (va_runV (As := []) (rest := []) ⟨hx, hb, hml, hown, hts⟩ (c_X11_breaks l dC dI H.size g0 pq cp v_382 fa) (cwV 0 hts gX11_unit_X11_breaks rfl rfl rfl (by decide +kernel) ⟨(Nat.le_of_ble_eq_true rfl), (Nat.le_of_ble_eq_true rfl)⟩) (pr_V (r := (RX11, TX11, 63)) hP hK hD 0 11 rfl rfl) rfl rfl hl.1 rfl (lv_room (Nat.le_of_ble_eq_true rfl)) dX11_unit_194 ⟨(Nat.le_of_ble_eq_true rfl), (Nat.le_of_ble_eq_true rfl)⟩) hS (fun q _ h => hFc q h) hFc (fun r_391 u t H locs ht hvm w_390 hB hz1 hk1 hS => ?_)
                    obtain ⟨v_392, fa_393⟩ := u
                    obtain ⟨hP1, hK1, hD1⟩ := hB
                    rw [ht] at hP1
                    have hP : va_P (dC, dI) vwCl (mW g0 pq cp v_392 fa_393) H := hP1
                    have hD : va_D A (mW g0 pq cp v_392 fa_393) := hD1.weaken (fun _ _ _ h => hFc _ h)
                    clear hP1 hK1 hD1 hk1 hz1 hvm ht hFc
                    obtain ⟨rfl, ev_394, ef_395⟩ := w_390
                    dsimp only at ev_394 ef_395
                    have ef2 := ef_395.symm
                    subst ef2
                    have ea_v_392 : v_392 47 = nI k_346 := by rw [ev_394]; exact ea_v_382
                    have es_v_392 : v_392 50 = nI n := by rw [ev_394]; exact es_v_382
                    have hb_v_392 : hbF (v_392 49) fa f n := by rw [ev_394]; exact hb_v_382
                    have we_v_392 : v_392 51 = 0 := by rw [ev_394]; rfl
                    have de_v_392 : v_392 48 = nI 4 := by rw [ev_394]; exact de_v_382
                    have sm_v_392 : ∀ i, i ≠ 47 → i ≠ 48 → i ≠ 51 → v_392 i = v i := by intro i h1 h2 h3; rw [ev_394]; exact (if_neg h3).trans (sm_v_382 i h1 h2 h3)
                    exact W.iret (v := 0) hx hb hr (fun t ht hW => ⟨⟨0, (v_392, fa), rfl, ⟨⟨k_346, false, _, (congrFun pU_s _).trans ((uX_b c_12).trans (uB_c2 er_97 (Or.inr (Or.inr c_322)) er_349 (Or.resolve_left hc_386 (fun q => absurd (q.symm.trans we_360) (by decide +kernel))))), by omega, hb_351, ea_v_392, (Or.inl ⟨rfl, we_v_392⟩), sm_v_392⟩, rfl⟩, ⟨by rw [ht]; exact hP, va_K.moved hW.alike hK, hD⟩⟩, hS.F ht⟩) hS.2.2 dX11_unit_197
                  · have ev2_v_382 : v_382 = upd v_344 47 (nI (k_346 + 1)) := by rw [ev_385, ea_352]; exact congrArg _ (nI_1 _)
                    have ea_v_382 : v_382 47 = nI (k_346 + 1) := by rw [ev2_v_382]; rfl
                    have es_v_382 : v_382 50 = nI n := by rw [ev2_v_382]; exact es_v_344
                    have hb_v_382 : hbF (v_382 49) fa f n := by rw [ev2_v_382]; exact hb_v_344
                    have we_v_382 : v_382 51 = 1 := by rw [ev2_v_382]; exact we_360
                    have de_v_382 : v_382 48 = nI 4 := by rw [ev2_v_382]; exact de_361
                    have sm_v_382 : ∀ i, i ≠ 47 → i ≠ 48 → i ≠ 51 → v_382 i = v i := by intro i h1 h2 h3; rw [ev2_v_382]; exact (if_neg h1).trans (sm_v_344 i h1 h2 h3)
                    refine lv_if_ne (tgt := 198) hx hb dX11_unit_190 (by decide +kernel) (fun _ => ?_) (fun c_396 => absurd c_396 (by decide +kernel))
                    refine lv_aload_n hx hb dX11_unit_198 rfl (lv_at hl 4 rfl) ?_
                    refine lv_dup hx hb dX11_unit_199 rfl ?_
                    refine va_get (D := (dC, dI)) (ci := 11) (v := .int (v_382 48)) (C := RX11) (T := TX11) (N := 63) hx hb hts in_wsX11_unit_X11 hown hK hP 0 rfl rfl 48 (by decide +kernel) (hts (.fieldLink RX11 244 "ShipOfficeModel" "deep" "I") iw_X11_unit_3) (fun _ h9 => h9) rfl dX11_unit_200 ?_
                    refine lv_topi (fun y ey => ?_)
                    obtain rfl : y = 4 := ey.trans (de_v_382.trans (by decide +kernel))
                    refine lv_iconst (v := 1) hx hb dX11_unit_203 (by decide +kernel) ?_
                    refine lv_isub hx hb dX11_unit_204 ?_
                    refine lv_topi (fun y ey => ?_)
                    obtain rfl : y = 3 := ey.trans (by decide +kernel)
                    refine va_put (D := (dC, dI)) (ci := 11) (v := .int 3) (ty := .int) (C := RX11) (T := TX11) (N := 63) hx hb hts in_wsX11_unit_X11 tyX11 tyX11_ok nmX11 hown hK hP hD hS 0 rfl rfl 48 (by decide +kernel) (hts (.fieldLink RX11 244 "ShipOfficeModel" "deep" "I") iw_X11_unit_3) (fun _ h9 => h9) rfl (by decide +kernel) rfl rfl (Nat.le_of_ble_eq_true rfl) dX11_unit_205 (fun H locs hP hD hS => ?_)
                    have hP : va_P (dC, dI) vwCl (mW g0 pq cp (upd v_382 48 3) fa) H := hP
                    have hD : va_D A (mW g0 pq cp (upd v_382 48 3) fa) := hD
                    obtain ⟨z_397, ez_397⟩ : ∃ zq, zq = (upd v_382 48 3) := ⟨_, rfl⟩
                    rw [← ez_397] at hP hD
                    have ea_z_397 : z_397 47 = nI (k_346 + 1) := by rw [ez_397]; exact ea_v_382
                    have es_z_397 : z_397 50 = nI n := by rw [ez_397]; exact es_v_382
                    have hb_z_397 : hbF (z_397 49) fa f n := by rw [ez_397]; exact hb_v_382
                    have we_z_397 : z_397 51 = 1 := by rw [ez_397]; exact we_v_382
                    have de_z_397 : z_397 48 = nI 3 := by rw [ez_397]; rfl
                    have sm_z_397 : ∀ i, i ≠ 47 → i ≠ 48 → i ≠ 51 → z_397 i = v i := by intro i h1 h2 h3; rw [ez_397]; exact (if_neg h2).trans (sm_v_382 i h1 h2 h3)
                    refine lv_iload_n hx hb dX11_unit_208 rfl (lv_at hl 0 rfl) ?_
                    exact W.iret (v := 0) hx hb hr (fun t ht hW => ⟨⟨0, (z_397, fa), rfl, ⟨⟨(k_346 + 1), true, _, (congrFun pU_s _).trans ((uX_b c_12).trans (uB_c1 er_97 (Or.inr (Or.inr c_322)) er_349 hc_386)), by omega, hlt_388, ea_z_397, (Or.inr ⟨rfl, we_z_397, de_z_397, (by rw [c_322, mop_62]; exact (if_pos c_358).symm)⟩), sm_z_397⟩, rfl⟩, ⟨by rw [ht]; exact hP, va_K.moved hW.alike hK, hD⟩⟩, hS.F ht⟩) hS.2.2 dX11_unit_209
              · refine lv_iconst (v := 1) hx hb dX11_unit_178 (by decide +kernel) ?_
                refine lv_goto (tgt := 183) hx hb dX11_unit_179 (by decide +kernel) ?_
                refine lv_istore_n (lv' := [(2, .int 1), (4, .int r_343), (3, .int (cI f n k_94)), (1, .int (cI f n k)), (0, .ref g0)]) hx hb dX11_unit_183 rfl hl (by decide +kernel) rfl (fun ls hl => ?_)
                refine lv_aload_n hx hb dX11_unit_184 rfl (lv_at hl 4 rfl) ?_
                refine lv_bipush (v := 41) hx hb dX11_unit_185 (by decide +kernel) ?_
                rcases wd_353 with ⟨ew_401, we_398⟩ | ⟨ew_401, we_399, de_400, rx_402⟩
                · subst ew_401
                  have hFc := va_free (wc := (mW g0 pq cp v_344 fa)) hD hS hA (List.range 48) rfl
                  refine va_calli (va_runV (As := [.int 41]) (rest := []) ⟨hx, hb, hml, hown, hts⟩ (c_X11_takes_f l dC dI H.size g0 pq cp v_344 fa k_346 n hb_351 hn ea_352 es_v_344 f hb_v_344 41 (by decide +kernel)) (cwV 1 hts gX11_unit_X11_takes rfl rfl rfl (by decide +kernel) ⟨(Nat.le_of_ble_eq_true rfl), (Nat.le_of_ble_eq_true rfl)⟩) (pr_V (r := (RX11, TX11, 63)) hP hK hD 0 11 rfl rfl) rfl rfl hl.1 rfl (lv_room (Nat.le_of_ble_eq_true rfl)) dX11_unit_187 ⟨(Nat.le_of_ble_eq_true rfl), (Nat.le_of_ble_eq_true rfl)⟩) hS (fun q _ h => hFc q h) hFc (fun r_404 u t H locs ht hvm w_403 hB hz1 hk1 hS => ?_)
                  obtain ⟨v_405, fa_406⟩ := u
                  obtain ⟨hP1, hK1, hD1⟩ := hB
                  rw [ht] at hP1
                  have hP : va_P (dC, dI) vwCl (mW g0 pq cp v_405 fa_406) H := hP1
                  have hD : va_D A (mW g0 pq cp v_405 fa_406) := hD1.weaken (fun _ _ _ h => hFc _ h)
                  clear hP1 hK1 hD1 hk1 hz1 hvm ht hFc
                  obtain ⟨ef_407, w_403⟩ := w_403
                  dsimp only at ef_407 w_403
                  have ef2 := ef_407.symm
                  subst ef2
                  rcases w_403 with ⟨rfl, ev_408, hc_409⟩ | ⟨rfl, hwe_410, hc_409, hlt_411, ev_408⟩
                  · have ea_v_405 : v_405 47 = nI k_346 := by rw [ev_408]; exact ea_352
                    have es_v_405 : v_405 50 = nI n := by rw [ev_408]; exact es_v_344
                    have hb_v_405 : hbF (v_405 49) fa f n := by rw [ev_408]; exact hb_v_344
                    have we_v_405 : v_405 51 = 0 := by rw [ev_408]; exact we_398
                    have sm_v_405 : ∀ i, i ≠ 47 → i ≠ 48 → i ≠ 51 → v_405 i = v i := by rw [ev_408]; exact sm_v_344
                    refine lv_if_ne (tgt := 198) hx hb dX11_unit_190 (by decide +kernel) (fun c_412 => absurd c_412 (by decide +kernel)) (fun _ => ?_)
                    refine lv_aload_n hx hb dX11_unit_193 rfl (lv_at hl 4 rfl) ?_
                    have hFc := va_free (wc := (mW g0 pq cp v_405 fa)) hD hS hA (List.range 48) rfl
                    refine va_calli (va_runV (As := []) (rest := []) ⟨hx, hb, hml, hown, hts⟩ (c_X11_breaks l dC dI H.size g0 pq cp v_405 fa) (cwV 0 hts gX11_unit_X11_breaks rfl rfl rfl (by decide +kernel) ⟨(Nat.le_of_ble_eq_true rfl), (Nat.le_of_ble_eq_true rfl)⟩) (pr_V (r := (RX11, TX11, 63)) hP hK hD 0 11 rfl rfl) rfl rfl hl.1 rfl (lv_room (Nat.le_of_ble_eq_true rfl)) dX11_unit_194 ⟨(Nat.le_of_ble_eq_true rfl), (Nat.le_of_ble_eq_true rfl)⟩) hS (fun q _ h => hFc q h) hFc (fun r_414 u t H locs ht hvm w_413 hB hz1 hk1 hS => ?_)
                    obtain ⟨v_415, fa_416⟩ := u
                    obtain ⟨hP1, hK1, hD1⟩ := hB
                    rw [ht] at hP1
                    have hP : va_P (dC, dI) vwCl (mW g0 pq cp v_415 fa_416) H := hP1
                    have hD : va_D A (mW g0 pq cp v_415 fa_416) := hD1.weaken (fun _ _ _ h => hFc _ h)
                    clear hP1 hK1 hD1 hk1 hz1 hvm ht hFc
                    obtain ⟨rfl, ev_417, ef_418⟩ := w_413
                    dsimp only at ev_417 ef_418
                    have ef2 := ef_418.symm
                    subst ef2
                    have ea_v_415 : v_415 47 = nI k_346 := by rw [ev_417]; exact ea_v_405
                    have es_v_415 : v_415 50 = nI n := by rw [ev_417]; exact es_v_405
                    have hb_v_415 : hbF (v_415 49) fa f n := by rw [ev_417]; exact hb_v_405
                    have we_v_415 : v_415 51 = 0 := by rw [ev_417]; rfl
                    have sm_v_415 : ∀ i, i ≠ 47 → i ≠ 48 → i ≠ 51 → v_415 i = v i := by intro i h1 h2 h3; rw [ev_417]; exact (if_neg h3).trans (sm_v_405 i h1 h2 h3)
                    exact W.iret (v := 0) hx hb hr (fun t ht hW => ⟨⟨0, (v_415, fa), rfl, ⟨⟨k_346, false, _, (congrFun pU_s _).trans ((uX_b c_12).trans (uB_c0 er_97 (Or.inr (Or.inr c_322)) er_349)), by omega, hb_351, ea_v_415, (Or.inl ⟨rfl, we_v_415⟩), sm_v_415⟩, rfl⟩, ⟨by rw [ht]; exact hP, va_K.moved hW.alike hK, hD⟩⟩, hS.F ht⟩) hS.2.2 dX11_unit_197
                  · exact absurd we_398 hwe_410
                · subst ew_401
                  subst rx_402
                  have hFc := va_free (wc := (mW g0 pq cp v_344 fa)) hD hS hA (List.range 48) rfl
                  refine va_calli (va_runV (As := [.int 41]) (rest := []) ⟨hx, hb, hml, hown, hts⟩ (c_X11_takes_f l dC dI H.size g0 pq cp v_344 fa k_346 n hb_351 hn ea_352 es_v_344 f hb_v_344 41 (by decide +kernel)) (cwV 1 hts gX11_unit_X11_takes rfl rfl rfl (by decide +kernel) ⟨(Nat.le_of_ble_eq_true rfl), (Nat.le_of_ble_eq_true rfl)⟩) (pr_V (r := (RX11, TX11, 63)) hP hK hD 0 11 rfl rfl) rfl rfl hl.1 rfl (lv_room (Nat.le_of_ble_eq_true rfl)) dX11_unit_187 ⟨(Nat.le_of_ble_eq_true rfl), (Nat.le_of_ble_eq_true rfl)⟩) hS (fun q _ h => hFc q h) hFc (fun r_420 u t H locs ht hvm w_419 hB hz1 hk1 hS => ?_)
                  obtain ⟨v_421, fa_422⟩ := u
                  obtain ⟨hP1, hK1, hD1⟩ := hB
                  rw [ht] at hP1
                  have hP : va_P (dC, dI) vwCl (mW g0 pq cp v_421 fa_422) H := hP1
                  have hD : va_D A (mW g0 pq cp v_421 fa_422) := hD1.weaken (fun _ _ _ h => hFc _ h)
                  clear hP1 hK1 hD1 hk1 hz1 hvm ht hFc
                  obtain ⟨ef_423, w_419⟩ := w_419
                  dsimp only at ef_423 w_419
                  have ef2 := ef_423.symm
                  subst ef2
                  rcases w_419 with ⟨rfl, ev_424, hc_425⟩ | ⟨rfl, hwe_426, hc_425, hlt_427, ev_424⟩
                  · have ea_v_421 : v_421 47 = nI k_346 := by rw [ev_424]; exact ea_352
                    have es_v_421 : v_421 50 = nI n := by rw [ev_424]; exact es_v_344
                    have hb_v_421 : hbF (v_421 49) fa f n := by rw [ev_424]; exact hb_v_344
                    have we_v_421 : v_421 51 = 1 := by rw [ev_424]; exact we_399
                    have de_v_421 : v_421 48 = nI 4 := by rw [ev_424]; exact de_400
                    have sm_v_421 : ∀ i, i ≠ 47 → i ≠ 48 → i ≠ 51 → v_421 i = v i := by rw [ev_424]; exact sm_v_344
                    refine lv_if_ne (tgt := 198) hx hb dX11_unit_190 (by decide +kernel) (fun c_428 => absurd c_428 (by decide +kernel)) (fun _ => ?_)
                    refine lv_aload_n hx hb dX11_unit_193 rfl (lv_at hl 4 rfl) ?_
                    have hFc := va_free (wc := (mW g0 pq cp v_421 fa)) hD hS hA (List.range 48) rfl
                    refine va_calli (va_runV (As := []) (rest := []) ⟨hx, hb, hml, hown, hts⟩ (c_X11_breaks l dC dI H.size g0 pq cp v_421 fa) (cwV 0 hts gX11_unit_X11_breaks rfl rfl rfl (by decide +kernel) ⟨(Nat.le_of_ble_eq_true rfl), (Nat.le_of_ble_eq_true rfl)⟩) (pr_V (r := (RX11, TX11, 63)) hP hK hD 0 11 rfl rfl) rfl rfl hl.1 rfl (lv_room (Nat.le_of_ble_eq_true rfl)) dX11_unit_194 ⟨(Nat.le_of_ble_eq_true rfl), (Nat.le_of_ble_eq_true rfl)⟩) hS (fun q _ h => hFc q h) hFc (fun r_430 u t H locs ht hvm w_429 hB hz1 hk1 hS => ?_)
                    obtain ⟨v_431, fa_432⟩ := u
                    obtain ⟨hP1, hK1, hD1⟩ := hB
                    rw [ht] at hP1
                    have hP : va_P (dC, dI) vwCl (mW g0 pq cp v_431 fa_432) H := hP1
                    have hD : va_D A (mW g0 pq cp v_431 fa_432) := hD1.weaken (fun _ _ _ h => hFc _ h)
                    clear hP1 hK1 hD1 hk1 hz1 hvm ht hFc
                    obtain ⟨rfl, ev_433, ef_434⟩ := w_429
                    dsimp only at ev_433 ef_434
                    have ef2 := ef_434.symm
                    subst ef2
                    have ea_v_431 : v_431 47 = nI k_346 := by rw [ev_433]; exact ea_v_421
                    have es_v_431 : v_431 50 = nI n := by rw [ev_433]; exact es_v_421
                    have hb_v_431 : hbF (v_431 49) fa f n := by rw [ev_433]; exact hb_v_421
                    have we_v_431 : v_431 51 = 0 := by rw [ev_433]; rfl
                    have de_v_431 : v_431 48 = nI 4 := by rw [ev_433]; exact de_v_421
                    have sm_v_431 : ∀ i, i ≠ 47 → i ≠ 48 → i ≠ 51 → v_431 i = v i := by intro i h1 h2 h3; rw [ev_433]; exact (if_neg h3).trans (sm_v_421 i h1 h2 h3)
                    exact W.iret (v := 0) hx hb hr (fun t ht hW => ⟨⟨0, (v_431, fa), rfl, ⟨⟨k_346, false, _, (congrFun pU_s _).trans ((uX_b c_12).trans (uB_c2 er_97 (Or.inr (Or.inr c_322)) er_349 (Or.resolve_left hc_425 (fun q => absurd (q.symm.trans we_399) (by decide +kernel))))), by omega, hb_351, ea_v_431, (Or.inl ⟨rfl, we_v_431⟩), sm_v_431⟩, rfl⟩, ⟨by rw [ht]; exact hP, va_K.moved hW.alike hK, hD⟩⟩, hS.F ht⟩) hS.2.2 dX11_unit_197
                  · have ev2_v_421 : v_421 = upd v_344 47 (nI (k_346 + 1)) := by rw [ev_424, ea_352]; exact congrArg _ (nI_1 _)
                    have ea_v_421 : v_421 47 = nI (k_346 + 1) := by rw [ev2_v_421]; rfl
                    have es_v_421 : v_421 50 = nI n := by rw [ev2_v_421]; exact es_v_344
                    have hb_v_421 : hbF (v_421 49) fa f n := by rw [ev2_v_421]; exact hb_v_344
                    have we_v_421 : v_421 51 = 1 := by rw [ev2_v_421]; exact we_399
                    have de_v_421 : v_421 48 = nI 4 := by rw [ev2_v_421]; exact de_400
                    have sm_v_421 : ∀ i, i ≠ 47 → i ≠ 48 → i ≠ 51 → v_421 i = v i := by intro i h1 h2 h3; rw [ev2_v_421]; exact (if_neg h1).trans (sm_v_344 i h1 h2 h3)
                    refine lv_if_ne (tgt := 198) hx hb dX11_unit_190 (by decide +kernel) (fun _ => ?_) (fun c_435 => absurd c_435 (by decide +kernel))
                    refine lv_aload_n hx hb dX11_unit_198 rfl (lv_at hl 4 rfl) ?_
                    refine lv_dup hx hb dX11_unit_199 rfl ?_
                    refine va_get (D := (dC, dI)) (ci := 11) (v := .int (v_421 48)) (C := RX11) (T := TX11) (N := 63) hx hb hts in_wsX11_unit_X11 hown hK hP 0 rfl rfl 48 (by decide +kernel) (hts (.fieldLink RX11 244 "ShipOfficeModel" "deep" "I") iw_X11_unit_3) (fun _ h9 => h9) rfl dX11_unit_200 ?_
                    refine lv_topi (fun y ey => ?_)
                    obtain rfl : y = 4 := ey.trans (de_v_421.trans (by decide +kernel))
                    refine lv_iconst (v := 1) hx hb dX11_unit_203 (by decide +kernel) ?_
                    refine lv_isub hx hb dX11_unit_204 ?_
                    refine lv_topi (fun y ey => ?_)
                    obtain rfl : y = 3 := ey.trans (by decide +kernel)
                    refine va_put (D := (dC, dI)) (ci := 11) (v := .int 3) (ty := .int) (C := RX11) (T := TX11) (N := 63) hx hb hts in_wsX11_unit_X11 tyX11 tyX11_ok nmX11 hown hK hP hD hS 0 rfl rfl 48 (by decide +kernel) (hts (.fieldLink RX11 244 "ShipOfficeModel" "deep" "I") iw_X11_unit_3) (fun _ h9 => h9) rfl (by decide +kernel) rfl rfl (Nat.le_of_ble_eq_true rfl) dX11_unit_205 (fun H locs hP hD hS => ?_)
                    have hP : va_P (dC, dI) vwCl (mW g0 pq cp (upd v_421 48 3) fa) H := hP
                    have hD : va_D A (mW g0 pq cp (upd v_421 48 3) fa) := hD
                    obtain ⟨z_436, ez_436⟩ : ∃ zq, zq = (upd v_421 48 3) := ⟨_, rfl⟩
                    rw [← ez_436] at hP hD
                    have ea_z_436 : z_436 47 = nI (k_346 + 1) := by rw [ez_436]; exact ea_v_421
                    have es_z_436 : z_436 50 = nI n := by rw [ez_436]; exact es_v_421
                    have hb_z_436 : hbF (z_436 49) fa f n := by rw [ez_436]; exact hb_v_421
                    have we_z_436 : z_436 51 = 1 := by rw [ez_436]; exact we_v_421
                    have de_z_436 : z_436 48 = nI 3 := by rw [ez_436]; rfl
                    have sm_z_436 : ∀ i, i ≠ 47 → i ≠ 48 → i ≠ 51 → z_436 i = v i := by intro i h1 h2 h3; rw [ez_436]; exact (if_neg h2).trans (sm_v_421 i h1 h2 h3)
                    refine lv_iload_n hx hb dX11_unit_208 rfl (lv_at hl 0 rfl) ?_
                    exact W.iret (v := 1) hx hb hr (fun t ht hW => ⟨⟨1, (z_436, fa), rfl, ⟨⟨(k_346 + 1), true, _, (congrFun pU_s _).trans ((uX_b c_12).trans (uB_c1 er_97 (Or.inr (Or.inr c_322)) er_349 hc_425)), by omega, hlt_427, ea_z_436, (Or.inr ⟨rfl, we_z_436, de_z_436, (by rw [c_322, mop_62]; exact (if_neg c_358).symm)⟩), sm_z_436⟩, rfl⟩, ⟨by rw [ht]; exact hP, va_K.moved hW.alike hK, hD⟩⟩, hS.F ht⟩) hS.2.2 dX11_unit_209
set_option maxHeartbeats 4000000 in
set_option maxRecDepth 100000 in
theorem c_X11_term_3f (l : Launch) (dC : Nat → ClassId) (dI : Nat → Nat → Nat) (sz : Nat) (g0 : Nat) (pq : Nat → Nat) (cp : Nat → ClassId) (v : Nat → Int32) (fa : Nat → Nat → Int32) (k n : Nat) (hk : k ≤ n) (hn : n ≤ 60) (ea : v 47 = nI k) (es : v 50 = nI n) (f : Nat → Int32) (hb0 : hbF (v 49) fa f n) (hwe : v 51 = 1) (hde : v 48 = nI 3) : Met l yX11_term wsX11_term ({ frames := 8, cells := 0, slots := 0, locals := 185 }) (va_Pc [.ref g0] (pcW (dC, dI) (mT cp) (mW g0 pq cp v fa) sz)) (va_Qi (fun (r : Int32) (u : (Nat → Int32) × (Nat → Nat → Int32)) => pzf (mvT (mL fa) (cI f n) 2 k) v k n 3 u.1 r ∧ u.2 = fa) (fun u t => va_P (dC, dI) vwCl (mW g0 pq cp u.1 u.2) t.heap ∧ va_K (dC, dI) vwCl (mT cp) t ∧ va_D (va_A (mW g0 pq cp v fa) sz) (mW g0 pq cp u.1 u.2)) (va_A (mW g0 pq cp v fa) sz)) 0 0 (va_A (mW g0 pq cp v fa) sz) := by
  refine Met.ofW (cc := cX11_term) (maxL := 4) (ret := (some .int)) (by decide +kernel) rfl ?_
  intro p e s m args below meth c s₁ B hml hv
  obtain ⟨rfl, hsz, hP, hK, hD0⟩ := hv
  have hx := B.exec
  have hb := B.bytes
  have hr := B.returns
  have hts := atoms_spec (ws := wsX11_term) B.pre
  have hown : s.vm.findClass RX11 = some m.cls := findClass_of_methodNamed B.named
  have hlocks := B.notSynchronized
  subst hsz
  have hD := hD0.self (sz := s.heap.size)
  generalize hAe : va_A (mW g0 pq cp v fa) s.heap.size = A at hD ⊢
  have hA : ∀ q : Nat, s.heap.size ≤ q → A q := fun q h => by rw [← hAe]; exact Or.inr h
  have hS : va_S A s.heap s.heap [] := va_S.rf
  have hP : va_P (dC, dI) vwCl (mW g0 pq cp v fa) s.heap := hP
  have hl := lv_entry ([.ref g0]) (n := 4) (Nat.le_of_ble_eq_true rfl)
  rw [lg_entry_eq]
  generalize (lg_sl ([.ref g0]) ++ List.replicate (4 - (lg_sl ([.ref g0])).length) Slot.unset).toArray = ls at hl ⊢
  have hl : lv_has ls 4 [(0, .ref g0)] := hl
  refine lv_aload_n hx hb dX11_term_0 rfl (lv_at hl 0 rfl) ?_
  have hFc := va_free (wc := (mW g0 pq cp v fa)) hD hS hA (List.range 48) rfl
  refine va_calli (va_runV (As := []) (rest := []) ⟨hx, hb, hml, hown, hts⟩ (c_X11_unit_3f l dC dI s.heap.size g0 pq cp v fa k n hk hn ea es f hb0 hwe hde) (cwV 0 hts gX11_term_X11_unit rfl rfl rfl (by decide +kernel) ⟨(Nat.le_of_ble_eq_true rfl), (Nat.le_of_ble_eq_true rfl)⟩) (pr_V (r := (RX11, TX11, 63)) hP hK hD 0 11 rfl rfl) rfl rfl hl.1 rfl (lv_room (Nat.le_of_ble_eq_true rfl)) dX11_term_1 ⟨(Nat.le_of_ble_eq_true rfl), (Nat.le_of_ble_eq_true rfl)⟩) hS (fun q _ h => hFc q h) hFc (fun r_2 u t H locs ht hvm w_1 hB hz1 hk1 hS => ?_)
  obtain ⟨v_3, fa_4⟩ := u
  obtain ⟨hP1, hK1, hD1⟩ := hB
  rw [ht] at hP1
  have hP : va_P (dC, dI) vwCl (mW g0 pq cp v_3 fa_4) H := hP1
  have hD : va_D A (mW g0 pq cp v_3 fa_4) := hD1.weaken (fun _ _ _ h => hFc _ h)
  clear hP1 hK1 hD1 hk1 hz1 hvm ht hFc
  obtain ⟨⟨k_5, w_6, y_7, er_8, ha_9, hb_10, ea_11, wd_12, sm_13⟩, ef_14⟩ := w_1
  dsimp only at ea_11 wd_12 sm_13 ef_14
  have ef2 := ef_14.symm
  subst ef2
  have es_v_3 : v_3 50 = nI n := (sm_13 50 (by decide +kernel) (by decide +kernel) (by decide +kernel)).trans es
  have hb_v_3 : hbF (v_3 49) fa f n := by rw [sm_13 49 (by decide +kernel) (by decide +kernel) (by decide +kernel)]; exact hb0
  have sm_v_3 : ∀ i, i ≠ 47 → i ≠ 48 → i ≠ 51 → v_3 i = v i := fun i h1 h2 h3 => (sm_13 i h1 h2 h3).trans ((fun i _ _ _ => rfl) i h1 h2 h3)
  refine lv_istore_n (lv' := [(1, .int r_2), (0, .ref g0)]) hx hb dX11_term_4 rfl hl (by decide +kernel) rfl (fun ls hl => ?_)
  have hloop : ∀ (N : Nat) (z : Nat → Int32) (kz : Nat) (wz : Bool) (yz x : Int32) (H : Heap) (locs : List Loc) (ls : Array Slot), n ≤ kz + N → k ≤ kz → kz ≤ n → z 47 = nI kz → z 50 = nI n → hbF (z 49) fa f n → pL (mvU (mL fa) (cI f n) 2) (cI f n) 42 47 mop N (kz, wz, yz) = mvT (mL fa) (cI f n) 2 k → ((wz = false ∧ z 51 = 0) ∨ (wz = true ∧ z 51 = 1 ∧ z 48 = nI 3 ∧ x = yz)) → (∀ i, i ≠ 47 → i ≠ 48 → i ≠ 51 → z i = v i) → va_P (dC, dI) vwCl (mW g0 pq cp z fa) H → va_D A (mW g0 pq cp z fa) → va_S A s.heap H locs → lv_has ls 4 [(1, .int x), (0, .ref g0)] → W p l e (headSpec wsX11_term { frames := 8, cells := 0, slots := 0, locals := 185 }).room s m #[Value.ref g0] below meth c H locs 0 0 (MQ below (va_Qi (fun (r : Int32) (u : (Nat → Int32) × (Nat → Nat → Int32)) => pzf (mvT (mL fa) (cI f n) 2 k) v k n 3 u.1 r ∧ u.2 = fa) (fun u t => va_P (dC, dI) vwCl (mW g0 pq cp u.1 u.2) t.heap ∧ va_K (dC, dI) vwCl (mT cp) t ∧ va_D A (mW g0 pq cp u.1 u.2)) A) #[Value.ref g0] s 0 0 A) (F0 m 5 ls []) := by
    intro N
    induction N with
    | zero =>
      intro z kz wz yz x H locs ls hN hk0 hkn eaz esz hbz hpl wdz smz hP hD hS hl
      refine lv_aload_n hx hb dX11_term_5 rfl (lv_at hl 1 rfl) ?_
      rcases wdz with ⟨ew_18, we_15⟩ | ⟨ew_18, we_16, de_17, rx_19⟩
      · subst ew_18
        refine va_get (D := (dC, dI)) (ci := 11) (v := .int (z 51)) (C := RX11) (T := TX11) (N := 63) hx hb hts in_wsX11_term_X11 hown hK hP 0 rfl rfl 51 (by decide +kernel) (hts (.fieldLink RX11 223 "ShipOfficeModel" "isWell" "Z") iw_X11_term_1) (fun _ h9 => h9) rfl dX11_term_6 ?_
        refine lv_topi (fun y ey => ?_)
        obtain rfl : y = 0 := ey.trans (we_15.trans (by decide +kernel))
        refine lv_if_eq (tgt := 87) hx hb dX11_term_9 (by decide +kernel) (fun _ => ?_) (fun c_20 => absurd c_20 (by decide +kernel))
        refine lv_iload_n hx hb dX11_term_87 rfl (lv_at hl 0 rfl) ?_
        exact W.iret (v := x) hx hb hr (fun t ht hW => ⟨⟨x, (z, fa), rfl, ⟨⟨kz, false, _, hpl.symm.trans (pL_stop (fun h => Bool.false_ne_true h.1)), by omega, hkn, eaz, (Or.inl ⟨rfl, we_15⟩), smz⟩, rfl⟩, ⟨by rw [ht]; exact hP, va_K.moved hW.alike hK, hD⟩⟩, hS.F ht⟩) hS.2.2 dX11_term_88
      · subst ew_18
        subst rx_19
        refine va_get (D := (dC, dI)) (ci := 11) (v := .int (z 51)) (C := RX11) (T := TX11) (N := 63) hx hb hts in_wsX11_term_X11 hown hK hP 0 rfl rfl 51 (by decide +kernel) (hts (.fieldLink RX11 223 "ShipOfficeModel" "isWell" "Z") iw_X11_term_1) (fun _ h9 => h9) rfl dX11_term_6 ?_
        refine lv_topi (fun y ey => ?_)
        obtain rfl : y = 1 := ey.trans (we_16.trans (by decide +kernel))
        refine lv_if_eq (tgt := 87) hx hb dX11_term_9 (by decide +kernel) (fun c_21 => absurd c_21 (by decide +kernel)) (fun _ => ?_)
        refine lv_aload_n hx hb dX11_term_12 rfl (lv_at hl 1 rfl) ?_
        have hFc : ∀ q, va_A [] H.size q → A q := pu_free hS hA
        refine va_calli (va_runV (As := []) (rest := []) ⟨hx, hb, hml, hown, hts⟩ (c_X11_sign_f l dC dI H.size g0 pq cp z fa kz n hkn hn eaz esz f hbz) (cwV 0 hts gX11_term_X11_sign rfl rfl rfl (by decide +kernel) ⟨(Nat.le_of_ble_eq_true rfl), (Nat.le_of_ble_eq_true rfl)⟩) (pr_V (r := (RX11, TX11, 63)) hP hK hD 0 11 rfl rfl) rfl rfl hl.1 rfl (lv_room (Nat.le_of_ble_eq_true rfl)) dX11_term_13 ⟨(Nat.le_of_ble_eq_true rfl), (Nat.le_of_ble_eq_true rfl)⟩) hS (fun q _ h => hFc q h) hFc (fun r_23 u t H locs ht hvm w_22 hB hz1 hk1 hS => ?_)
        have hP := pu_keep hP hk1
        clear hk1 hz1 hvm hB ht hFc
        subst w_22
        refine lv_bipush (v := 42) hx hb dX11_term_16 (by decide +kernel) ?_
        refine lv_icmp_eq (tgt := 30) hx hb dX11_term_18 (by decide +kernel) (fun c_24 => ?_) (fun c_24 => ?_)
        · have hlt : kz < n := (cI_in c_24 (by decide +kernel))
          exact absurd hlt (by omega)
        · refine lv_aload_n hx hb dX11_term_21 rfl (lv_at hl 1 rfl) ?_
          have hFc : ∀ q, va_A [] H.size q → A q := pu_free hS hA
          refine va_calli (va_runV (As := []) (rest := []) ⟨hx, hb, hml, hown, hts⟩ (c_X11_sign_f l dC dI H.size g0 pq cp z fa kz n hkn hn eaz esz f hbz) (cwV 0 hts gX11_term_X11_sign rfl rfl rfl (by decide +kernel) ⟨(Nat.le_of_ble_eq_true rfl), (Nat.le_of_ble_eq_true rfl)⟩) (pr_V (r := (RX11, TX11, 63)) hP hK hD 0 11 rfl rfl) rfl rfl hl.1 rfl (lv_room (Nat.le_of_ble_eq_true rfl)) dX11_term_22 ⟨(Nat.le_of_ble_eq_true rfl), (Nat.le_of_ble_eq_true rfl)⟩) hS (fun q _ h => hFc q h) hFc (fun r_26 u t H locs ht hvm w_25 hB hz1 hk1 hS => ?_)
          have hP := pu_keep hP hk1
          clear hk1 hz1 hvm hB ht hFc
          subst w_25
          refine lv_bipush (v := 47) hx hb dX11_term_25 (by decide +kernel) ?_
          refine lv_icmp_ne (tgt := 87) hx hb dX11_term_27 (by decide +kernel) (fun c_27 => ?_) (fun c_27 => ?_)
          · refine lv_iload_n hx hb dX11_term_87 rfl (lv_at hl 0 rfl) ?_
            exact W.iret (v := x) hx hb hr (fun t ht hW => ⟨⟨x, (z, fa), rfl, ⟨⟨kz, true, _, hpl.symm.trans (pL_stop (fun h => h.2.elim c_24 c_27)), by omega, hkn, eaz, (Or.inr ⟨rfl, we_16, de_17, rfl⟩), smz⟩, rfl⟩, ⟨by rw [ht]; exact hP, va_K.moved hW.alike hK, hD⟩⟩, hS.F ht⟩) hS.2.2 dX11_term_88
          · have hlt : kz < n := (cI_in c_27 (by decide +kernel))
            exact absurd hlt (by omega)
    | succ N ih =>
      intro z kz wz yz x H locs ls hN hk0 hkn eaz esz hbz hpl wdz smz hP hD hS hl
      refine lv_aload_n hx hb dX11_term_5 rfl (lv_at hl 1 rfl) ?_
      rcases wdz with ⟨ew_31, we_28⟩ | ⟨ew_31, we_29, de_30, rx_32⟩
      · subst ew_31
        refine va_get (D := (dC, dI)) (ci := 11) (v := .int (z 51)) (C := RX11) (T := TX11) (N := 63) hx hb hts in_wsX11_term_X11 hown hK hP 0 rfl rfl 51 (by decide +kernel) (hts (.fieldLink RX11 223 "ShipOfficeModel" "isWell" "Z") iw_X11_term_1) (fun _ h9 => h9) rfl dX11_term_6 ?_
        refine lv_topi (fun y ey => ?_)
        obtain rfl : y = 0 := ey.trans (we_28.trans (by decide +kernel))
        refine lv_if_eq (tgt := 87) hx hb dX11_term_9 (by decide +kernel) (fun _ => ?_) (fun c_33 => absurd c_33 (by decide +kernel))
        refine lv_iload_n hx hb dX11_term_87 rfl (lv_at hl 0 rfl) ?_
        exact W.iret (v := x) hx hb hr (fun t ht hW => ⟨⟨x, (z, fa), rfl, ⟨⟨kz, false, _, hpl.symm.trans (pL_stop (fun h => Bool.false_ne_true h.1)), by omega, hkn, eaz, (Or.inl ⟨rfl, we_28⟩), smz⟩, rfl⟩, ⟨by rw [ht]; exact hP, va_K.moved hW.alike hK, hD⟩⟩, hS.F ht⟩) hS.2.2 dX11_term_88
      · subst ew_31
        subst rx_32
        refine va_get (D := (dC, dI)) (ci := 11) (v := .int (z 51)) (C := RX11) (T := TX11) (N := 63) hx hb hts in_wsX11_term_X11 hown hK hP 0 rfl rfl 51 (by decide +kernel) (hts (.fieldLink RX11 223 "ShipOfficeModel" "isWell" "Z") iw_X11_term_1) (fun _ h9 => h9) rfl dX11_term_6 ?_
        refine lv_topi (fun y ey => ?_)
        obtain rfl : y = 1 := ey.trans (we_29.trans (by decide +kernel))
        refine lv_if_eq (tgt := 87) hx hb dX11_term_9 (by decide +kernel) (fun c_34 => absurd c_34 (by decide +kernel)) (fun _ => ?_)
        refine lv_aload_n hx hb dX11_term_12 rfl (lv_at hl 1 rfl) ?_
        have hFc : ∀ q, va_A [] H.size q → A q := pu_free hS hA
        refine va_calli (va_runV (As := []) (rest := []) ⟨hx, hb, hml, hown, hts⟩ (c_X11_sign_f l dC dI H.size g0 pq cp z fa kz n hkn hn eaz esz f hbz) (cwV 0 hts gX11_term_X11_sign rfl rfl rfl (by decide +kernel) ⟨(Nat.le_of_ble_eq_true rfl), (Nat.le_of_ble_eq_true rfl)⟩) (pr_V (r := (RX11, TX11, 63)) hP hK hD 0 11 rfl rfl) rfl rfl hl.1 rfl (lv_room (Nat.le_of_ble_eq_true rfl)) dX11_term_13 ⟨(Nat.le_of_ble_eq_true rfl), (Nat.le_of_ble_eq_true rfl)⟩) hS (fun q _ h => hFc q h) hFc (fun r_36 u t H locs ht hvm w_35 hB hz1 hk1 hS => ?_)
        have hP := pu_keep hP hk1
        clear hk1 hz1 hvm hB ht hFc
        subst w_35
        refine lv_bipush (v := 42) hx hb dX11_term_16 (by decide +kernel) ?_
        refine lv_icmp_eq (tgt := 30) hx hb dX11_term_18 (by decide +kernel) (fun c_37 => ?_) (fun c_37 => ?_)
        · refine lv_aload_n hx hb dX11_term_30 rfl (lv_at hl 1 rfl) ?_
          have hFc : ∀ q, va_A [] H.size q → A q := pu_free hS hA
          refine va_calli (va_runV (As := []) (rest := []) ⟨hx, hb, hml, hown, hts⟩ (c_X11_sign_f l dC dI H.size g0 pq cp z fa kz n hkn hn eaz esz f hbz) (cwV 0 hts gX11_term_X11_sign rfl rfl rfl (by decide +kernel) ⟨(Nat.le_of_ble_eq_true rfl), (Nat.le_of_ble_eq_true rfl)⟩) (pr_V (r := (RX11, TX11, 63)) hP hK hD 0 11 rfl rfl) rfl rfl hl.1 rfl (lv_room (Nat.le_of_ble_eq_true rfl)) dX11_term_31 ⟨(Nat.le_of_ble_eq_true rfl), (Nat.le_of_ble_eq_true rfl)⟩) hS (fun q _ h => hFc q h) hFc (fun r_39 u t H locs ht hvm w_38 hB hz1 hk1 hS => ?_)
          have hP := pu_keep hP hk1
          clear hk1 hz1 hvm hB ht hFc
          subst w_38
          refine lv_istore_n (lv' := [(2, .int (cI f n kz)), (1, .int x), (0, .ref g0)]) hx hb dX11_term_34 rfl hl (by decide +kernel) rfl (fun ls hl => ?_)
          refine lv_aload_n hx hb dX11_term_35 rfl (lv_at hl 2 rfl) ?_
          refine lv_dup hx hb dX11_term_36 rfl ?_
          refine va_get (D := (dC, dI)) (ci := 11) (v := .int (z 47)) (C := RX11) (T := TX11) (N := 63) hx hb hts in_wsX11_term_X11 hown hK hP 0 rfl rfl 47 (by decide +kernel) (hts (.fieldLink RX11 210 "ShipOfficeModel" "at" "I") iw_X11_term_2) (fun _ h9 => h9) rfl dX11_term_37 ?_
          refine lv_iconst (v := 1) hx hb dX11_term_40 (by decide +kernel) ?_
          refine lv_iadd hx hb dX11_term_41 ?_
          refine lv_topi (fun y ey => ?_)
          obtain rfl : y = nI (kz + 1) := ey.trans (by rw [eaz]; exact nI_1 _)
          refine va_put (D := (dC, dI)) (ci := 11) (v := .int (nI (kz + 1))) (ty := .int) (C := RX11) (T := TX11) (N := 63) hx hb hts in_wsX11_term_X11 tyX11 tyX11_ok nmX11 hown hK hP hD hS 0 rfl rfl 47 (by decide +kernel) (hts (.fieldLink RX11 210 "ShipOfficeModel" "at" "I") iw_X11_term_2) (fun _ h9 => h9) rfl (by decide +kernel) rfl rfl (Nat.le_of_ble_eq_true rfl) dX11_term_42 (fun H locs hP hD hS => ?_)
          have hP : va_P (dC, dI) vwCl (mW g0 pq cp (upd z 47 (nI (kz + 1))) fa) H := hP
          have hD : va_D A (mW g0 pq cp (upd z 47 (nI (kz + 1))) fa) := hD
          obtain ⟨z_40, ez_40⟩ : ∃ zq, zq = (upd z 47 (nI (kz + 1))) := ⟨_, rfl⟩
          rw [← ez_40] at hP hD
          have ea_z_40 : z_40 47 = nI (kz + 1) := by rw [ez_40]; rfl
          have es_z_40 : z_40 50 = nI n := by rw [ez_40]; exact esz
          have hb_z_40 : hbF (z_40 49) fa f n := by rw [ez_40]; exact hbz
          have we_z_40 : z_40 51 = 1 := by rw [ez_40]; exact we_29
          have de_z_40 : z_40 48 = nI 3 := by rw [ez_40]; exact de_30
          have sm_z_40 : ∀ i, i ≠ 47 → i ≠ 48 → i ≠ 51 → z_40 i = v i := by intro i h1 h2 h3; rw [ez_40]; exact (if_neg h1).trans (smz i h1 h2 h3)
          have hkn_z_40 : (kz + 1) ≤ n := (cI_in c_37 (by decide +kernel))
          have hk0_z_40 : k ≤ (kz + 1) := by omega
          refine lv_aload_n hx hb dX11_term_45 rfl (lv_at hl 2 rfl) ?_
          have hFc := va_free (wc := (mW g0 pq cp z_40 fa)) hD hS hA (List.range 48) rfl
          refine va_calli (va_runV (As := []) (rest := []) ⟨hx, hb, hml, hown, hts⟩ (c_X11_unit_3f l dC dI H.size g0 pq cp z_40 fa (kz + 1) n hkn_z_40 hn ea_z_40 es_z_40 f hb_z_40 we_z_40 de_z_40) (cwV 0 hts gX11_term_X11_unit rfl rfl rfl (by decide +kernel) ⟨(Nat.le_of_ble_eq_true rfl), (Nat.le_of_ble_eq_true rfl)⟩) (pr_V (r := (RX11, TX11, 63)) hP hK hD 0 11 rfl rfl) rfl rfl hl.1 rfl (lv_room (Nat.le_of_ble_eq_true rfl)) dX11_term_46 ⟨(Nat.le_of_ble_eq_true rfl), (Nat.le_of_ble_eq_true rfl)⟩) hS (fun q _ h => hFc q h) hFc (fun r_42 u t H locs ht hvm w_41 hB hz1 hk1 hS => ?_)
          obtain ⟨v_43, fa_44⟩ := u
          obtain ⟨hP1, hK1, hD1⟩ := hB
          rw [ht] at hP1
          have hP : va_P (dC, dI) vwCl (mW g0 pq cp v_43 fa_44) H := hP1
          have hD : va_D A (mW g0 pq cp v_43 fa_44) := hD1.weaken (fun _ _ _ h => hFc _ h)
          clear hP1 hK1 hD1 hk1 hz1 hvm ht hFc
          obtain ⟨⟨k_45, w_46, y_47, er_48, ha_49, hb_50, ea_51, wd_52, sm_53⟩, ef_54⟩ := w_41
          dsimp only at ea_51 wd_52 sm_53 ef_54
          have ef2 := ef_54.symm
          subst ef2
          have es_v_43 : v_43 50 = nI n := (sm_53 50 (by decide +kernel) (by decide +kernel) (by decide +kernel)).trans es_z_40
          have hb_v_43 : hbF (v_43 49) fa f n := by rw [sm_53 49 (by decide +kernel) (by decide +kernel) (by decide +kernel)]; exact hb_z_40
          have sm_v_43 : ∀ i, i ≠ 47 → i ≠ 48 → i ≠ 51 → v_43 i = v i := fun i h1 h2 h3 => (sm_53 i h1 h2 h3).trans (sm_z_40 i h1 h2 h3)
          refine lv_istore_n (lv' := [(3, .int r_42), (2, .int (cI f n kz)), (1, .int x), (0, .ref g0)]) hx hb dX11_term_49 rfl hl (by decide +kernel) rfl (fun ls hl => ?_)
          refine lv_iload_n hx hb dX11_term_50 rfl (lv_at hl 1 rfl) ?_
          refine lv_bipush (v := 42) hx hb dX11_term_51 (by decide +kernel) ?_
          refine lv_icmp_ne (tgt := 67) hx hb dX11_term_53 (by decide +kernel) (fun c_55 => absurd c_55 (fun h => h c_37)) (fun c_55 => ?_)
          refine lv_iload_n hx hb dX11_term_56 rfl (lv_at hl 2 rfl) ?_
          refine lv_i2l (v := (x : Int32).toInt64) hx hb dX11_term_57 rfl ?_
          refine lv_iload_n hx hb dX11_term_58 rfl (lv_at hl 0 rfl) ?_
          refine lv_i2l (v := (r_42 : Int32).toInt64) hx hb dX11_term_59 rfl ?_
          refine lv_lmul hx hb dX11_term_60 ?_
          have hFc : ∀ q, va_A [] H.size q → A q := pu_free hS hA
          have hPc := hP.sub (ws' := []) [] rfl
          have hDc := hD.sub (ws' := []) [] (by decide +kernel) rfl
          have hKc := hK.sub (tys' := []) [] rfl
          refine va_calli (va_runS (As := [.long (((x : Int32).toInt64) * ((r_42 : Int32).toInt64))]) (rest := []) ⟨hx, hb, hml, hown, hts⟩ (c_X11_held_f l dC dI H.size (((x : Int32).toInt64) * ((r_42 : Int32).toInt64))) (va_cwS 1 hts gX11_term_X11_held rfl rfl rfl (by decide +kernel) ⟨(Nat.le_of_ble_eq_true rfl), (Nat.le_of_ble_eq_true rfl)⟩) (pr_S hPc hKc hDc) rfl rfl hl.1 rfl (lv_room (Nat.le_of_ble_eq_true rfl)) dX11_term_61 ⟨(Nat.le_of_ble_eq_true rfl), (Nat.le_of_ble_eq_true rfl)⟩) hS (fun q _ h => hFc q h) hFc (fun r_57 u t H locs ht hvm w_56 hB hz1 hk1 hS => ?_)
          have hP := pu_keep hP hk1
          clear hk1 hz1 hvm hB ht hFc hPc hDc hKc
          subst w_56
          refine lv_goto (tgt := 83) hx hb dX11_term_64 (by decide +kernel) ?_
          refine lv_istore_n (lv' := [(1, .int (hld (((x : Int32).toInt64) * ((r_42 : Int32).toInt64)))), (3, .int r_42), (2, .int (cI f n kz)), (0, .ref g0)]) hx hb dX11_term_83 rfl hl (by decide +kernel) rfl (fun ls hl => ?_)
          refine lv_goto (tgt := 5) hx hb dX11_term_84 (by decide +kernel) ?_
          exact ih v_43 k_45 w_46 (mop (cI f n kz) x y_47) (hld (((x : Int32).toInt64) * ((r_42 : Int32).toInt64))) _ _ ls (by omega) (by omega) hb_50 ea_51 es_v_43 hb_v_43 ((pL_go (Or.inl c_37) er_48).symm.trans hpl) (Or.imp_right (fun h => ⟨h.1, h.2.1, h.2.2.1, by rw [← h.2.2.2, c_37, mop_42]⟩) wd_52) sm_v_43 hP hD hS (lv_sub hl [0, 3] rfl)
        · refine lv_aload_n hx hb dX11_term_21 rfl (lv_at hl 1 rfl) ?_
          have hFc : ∀ q, va_A [] H.size q → A q := pu_free hS hA
          refine va_calli (va_runV (As := []) (rest := []) ⟨hx, hb, hml, hown, hts⟩ (c_X11_sign_f l dC dI H.size g0 pq cp z fa kz n hkn hn eaz esz f hbz) (cwV 0 hts gX11_term_X11_sign rfl rfl rfl (by decide +kernel) ⟨(Nat.le_of_ble_eq_true rfl), (Nat.le_of_ble_eq_true rfl)⟩) (pr_V (r := (RX11, TX11, 63)) hP hK hD 0 11 rfl rfl) rfl rfl hl.1 rfl (lv_room (Nat.le_of_ble_eq_true rfl)) dX11_term_22 ⟨(Nat.le_of_ble_eq_true rfl), (Nat.le_of_ble_eq_true rfl)⟩) hS (fun q _ h => hFc q h) hFc (fun r_59 u t H locs ht hvm w_58 hB hz1 hk1 hS => ?_)
          have hP := pu_keep hP hk1
          clear hk1 hz1 hvm hB ht hFc
          subst w_58
          refine lv_bipush (v := 47) hx hb dX11_term_25 (by decide +kernel) ?_
          refine lv_icmp_ne (tgt := 87) hx hb dX11_term_27 (by decide +kernel) (fun c_60 => ?_) (fun c_60 => ?_)
          · refine lv_iload_n hx hb dX11_term_87 rfl (lv_at hl 0 rfl) ?_
            exact W.iret (v := x) hx hb hr (fun t ht hW => ⟨⟨x, (z, fa), rfl, ⟨⟨kz, true, _, hpl.symm.trans (pL_stop (fun h => h.2.elim c_37 c_60)), by omega, hkn, eaz, (Or.inr ⟨rfl, we_29, de_30, rfl⟩), smz⟩, rfl⟩, ⟨by rw [ht]; exact hP, va_K.moved hW.alike hK, hD⟩⟩, hS.F ht⟩) hS.2.2 dX11_term_88
          · refine lv_aload_n hx hb dX11_term_30 rfl (lv_at hl 1 rfl) ?_
            have hFc : ∀ q, va_A [] H.size q → A q := pu_free hS hA
            refine va_calli (va_runV (As := []) (rest := []) ⟨hx, hb, hml, hown, hts⟩ (c_X11_sign_f l dC dI H.size g0 pq cp z fa kz n hkn hn eaz esz f hbz) (cwV 0 hts gX11_term_X11_sign rfl rfl rfl (by decide +kernel) ⟨(Nat.le_of_ble_eq_true rfl), (Nat.le_of_ble_eq_true rfl)⟩) (pr_V (r := (RX11, TX11, 63)) hP hK hD 0 11 rfl rfl) rfl rfl hl.1 rfl (lv_room (Nat.le_of_ble_eq_true rfl)) dX11_term_31 ⟨(Nat.le_of_ble_eq_true rfl), (Nat.le_of_ble_eq_true rfl)⟩) hS (fun q _ h => hFc q h) hFc (fun r_62 u t H locs ht hvm w_61 hB hz1 hk1 hS => ?_)
            have hP := pu_keep hP hk1
            clear hk1 hz1 hvm hB ht hFc
            subst w_61
            refine lv_istore_n (lv' := [(2, .int (cI f n kz)), (1, .int x), (0, .ref g0)]) hx hb dX11_term_34 rfl hl (by decide +kernel) rfl (fun ls hl => ?_)
            refine lv_aload_n hx hb dX11_term_35 rfl (lv_at hl 2 rfl) ?_
            refine lv_dup hx hb dX11_term_36 rfl ?_
            refine va_get (D := (dC, dI)) (ci := 11) (v := .int (z 47)) (C := RX11) (T := TX11) (N := 63) hx hb hts in_wsX11_term_X11 hown hK hP 0 rfl rfl 47 (by decide +kernel) (hts (.fieldLink RX11 210 "ShipOfficeModel" "at" "I") iw_X11_term_2) (fun _ h9 => h9) rfl dX11_term_37 ?_
            refine lv_iconst (v := 1) hx hb dX11_term_40 (by decide +kernel) ?_
            refine lv_iadd hx hb dX11_term_41 ?_
            refine lv_topi (fun y ey => ?_)
            obtain rfl : y = nI (kz + 1) := ey.trans (by rw [eaz]; exact nI_1 _)
            refine va_put (D := (dC, dI)) (ci := 11) (v := .int (nI (kz + 1))) (ty := .int) (C := RX11) (T := TX11) (N := 63) hx hb hts in_wsX11_term_X11 tyX11 tyX11_ok nmX11 hown hK hP hD hS 0 rfl rfl 47 (by decide +kernel) (hts (.fieldLink RX11 210 "ShipOfficeModel" "at" "I") iw_X11_term_2) (fun _ h9 => h9) rfl (by decide +kernel) rfl rfl (Nat.le_of_ble_eq_true rfl) dX11_term_42 (fun H locs hP hD hS => ?_)
            have hP : va_P (dC, dI) vwCl (mW g0 pq cp (upd z 47 (nI (kz + 1))) fa) H := hP
            have hD : va_D A (mW g0 pq cp (upd z 47 (nI (kz + 1))) fa) := hD
            obtain ⟨z_63, ez_63⟩ : ∃ zq, zq = (upd z 47 (nI (kz + 1))) := ⟨_, rfl⟩
            rw [← ez_63] at hP hD
            have ea_z_63 : z_63 47 = nI (kz + 1) := by rw [ez_63]; rfl
            have es_z_63 : z_63 50 = nI n := by rw [ez_63]; exact esz
            have hb_z_63 : hbF (z_63 49) fa f n := by rw [ez_63]; exact hbz
            have we_z_63 : z_63 51 = 1 := by rw [ez_63]; exact we_29
            have de_z_63 : z_63 48 = nI 3 := by rw [ez_63]; exact de_30
            have sm_z_63 : ∀ i, i ≠ 47 → i ≠ 48 → i ≠ 51 → z_63 i = v i := by intro i h1 h2 h3; rw [ez_63]; exact (if_neg h1).trans (smz i h1 h2 h3)
            have hkn_z_63 : (kz + 1) ≤ n := (cI_in c_60 (by decide +kernel))
            have hk0_z_63 : k ≤ (kz + 1) := by omega
            refine lv_aload_n hx hb dX11_term_45 rfl (lv_at hl 2 rfl) ?_
            have hFc := va_free (wc := (mW g0 pq cp z_63 fa)) hD hS hA (List.range 48) rfl
            refine va_calli (va_runV (As := []) (rest := []) ⟨hx, hb, hml, hown, hts⟩ (c_X11_unit_3f l dC dI H.size g0 pq cp z_63 fa (kz + 1) n hkn_z_63 hn ea_z_63 es_z_63 f hb_z_63 we_z_63 de_z_63) (cwV 0 hts gX11_term_X11_unit rfl rfl rfl (by decide +kernel) ⟨(Nat.le_of_ble_eq_true rfl), (Nat.le_of_ble_eq_true rfl)⟩) (pr_V (r := (RX11, TX11, 63)) hP hK hD 0 11 rfl rfl) rfl rfl hl.1 rfl (lv_room (Nat.le_of_ble_eq_true rfl)) dX11_term_46 ⟨(Nat.le_of_ble_eq_true rfl), (Nat.le_of_ble_eq_true rfl)⟩) hS (fun q _ h => hFc q h) hFc (fun r_65 u t H locs ht hvm w_64 hB hz1 hk1 hS => ?_)
            obtain ⟨v_66, fa_67⟩ := u
            obtain ⟨hP1, hK1, hD1⟩ := hB
            rw [ht] at hP1
            have hP : va_P (dC, dI) vwCl (mW g0 pq cp v_66 fa_67) H := hP1
            have hD : va_D A (mW g0 pq cp v_66 fa_67) := hD1.weaken (fun _ _ _ h => hFc _ h)
            clear hP1 hK1 hD1 hk1 hz1 hvm ht hFc
            obtain ⟨⟨k_68, w_69, y_70, er_71, ha_72, hb_73, ea_74, wd_75, sm_76⟩, ef_77⟩ := w_64
            dsimp only at ea_74 wd_75 sm_76 ef_77
            have ef2 := ef_77.symm
            subst ef2
            have es_v_66 : v_66 50 = nI n := (sm_76 50 (by decide +kernel) (by decide +kernel) (by decide +kernel)).trans es_z_63
            have hb_v_66 : hbF (v_66 49) fa f n := by rw [sm_76 49 (by decide +kernel) (by decide +kernel) (by decide +kernel)]; exact hb_z_63
            have sm_v_66 : ∀ i, i ≠ 47 → i ≠ 48 → i ≠ 51 → v_66 i = v i := fun i h1 h2 h3 => (sm_76 i h1 h2 h3).trans (sm_z_63 i h1 h2 h3)
            refine lv_istore_n (lv' := [(3, .int r_65), (2, .int (cI f n kz)), (1, .int x), (0, .ref g0)]) hx hb dX11_term_49 rfl hl (by decide +kernel) rfl (fun ls hl => ?_)
            refine lv_iload_n hx hb dX11_term_50 rfl (lv_at hl 1 rfl) ?_
            refine lv_bipush (v := 42) hx hb dX11_term_51 (by decide +kernel) ?_
            refine lv_icmp_ne (tgt := 67) hx hb dX11_term_53 (by decide +kernel) (fun c_78 => ?_) (fun c_78 => absurd c_78 (fun h => absurd (c_60.symm.trans h) (by decide +kernel)))
            refine lv_iload_n hx hb dX11_term_67 rfl (lv_at hl 0 rfl) ?_
            refine lv_if_ne (tgt := 75) hx hb dX11_term_68 (by decide +kernel) (fun c_79 => ?_) (fun c_79 => ?_)
            · refine lv_iload_n hx hb dX11_term_75 rfl (lv_at hl 2 rfl) ?_
              refine lv_i2l (v := (x : Int32).toInt64) hx hb dX11_term_76 rfl ?_
              refine lv_iload_n hx hb dX11_term_77 rfl (lv_at hl 0 rfl) ?_
              refine lv_i2l (v := (r_65 : Int32).toInt64) hx hb dX11_term_78 rfl ?_
              refine lv_ldiv hx hb dX11_term_79 (wd_ne c_79) ?_
              have hFc : ∀ q, va_A [] H.size q → A q := pu_free hS hA
              have hPc := hP.sub (ws' := []) [] rfl
              have hDc := hD.sub (ws' := []) [] (by decide +kernel) rfl
              have hKc := hK.sub (tys' := []) [] rfl
              refine va_calli (va_runS (As := [.long (((x : Int32).toInt64) / ((r_65 : Int32).toInt64))]) (rest := []) ⟨hx, hb, hml, hown, hts⟩ (c_X11_held_f l dC dI H.size (((x : Int32).toInt64) / ((r_65 : Int32).toInt64))) (va_cwS 1 hts gX11_term_X11_held rfl rfl rfl (by decide +kernel) ⟨(Nat.le_of_ble_eq_true rfl), (Nat.le_of_ble_eq_true rfl)⟩) (pr_S hPc hKc hDc) rfl rfl hl.1 rfl (lv_room (Nat.le_of_ble_eq_true rfl)) dX11_term_80 ⟨(Nat.le_of_ble_eq_true rfl), (Nat.le_of_ble_eq_true rfl)⟩) hS (fun q _ h => hFc q h) hFc (fun r_81 u t H locs ht hvm w_80 hB hz1 hk1 hS => ?_)
              have hP := pu_keep hP hk1
              clear hk1 hz1 hvm hB ht hFc hPc hDc hKc
              subst w_80
              refine lv_istore_n (lv' := [(1, .int (hld (((x : Int32).toInt64) / ((r_65 : Int32).toInt64)))), (3, .int r_65), (2, .int (cI f n kz)), (0, .ref g0)]) hx hb dX11_term_83 rfl hl (by decide +kernel) rfl (fun ls hl => ?_)
              refine lv_goto (tgt := 5) hx hb dX11_term_84 (by decide +kernel) ?_
              exact ih v_66 k_68 w_69 (mop (cI f n kz) x y_70) (hld (((x : Int32).toInt64) / ((r_65 : Int32).toInt64))) _ _ ls (by omega) (by omega) hb_73 ea_74 es_v_66 hb_v_66 ((pL_go (Or.inr c_60) er_71).symm.trans hpl) (Or.imp_right (fun h => ⟨h.1, h.2.1, h.2.2.1, by rw [← h.2.2.2, c_60, mop_47]; exact (if_neg c_79).symm⟩) wd_75) sm_v_66 hP hD hS (lv_sub hl [0, 3] rfl)
            · refine lv_iconst (v := 0) hx hb dX11_term_71 (by decide +kernel) ?_
              refine lv_goto (tgt := 83) hx hb dX11_term_72 (by decide +kernel) ?_
              refine lv_istore_n (lv' := [(1, .int 0), (3, .int r_65), (2, .int (cI f n kz)), (0, .ref g0)]) hx hb dX11_term_83 rfl hl (by decide +kernel) rfl (fun ls hl => ?_)
              refine lv_goto (tgt := 5) hx hb dX11_term_84 (by decide +kernel) ?_
              exact ih v_66 k_68 w_69 (mop (cI f n kz) x y_70) 0 _ _ ls (by omega) (by omega) hb_73 ea_74 es_v_66 hb_v_66 ((pL_go (Or.inr c_60) er_71).symm.trans hpl) (Or.imp_right (fun h => ⟨h.1, h.2.1, h.2.2.1, by rw [← h.2.2.2, c_60, mop_47]; exact (if_pos c_79).symm⟩) wd_75) sm_v_66 hP hD hS (lv_sub hl [0, 3] rfl)
  exact hloop 60 v_3 k_5 w_6 y_7 r_2 _ _ ls (by omega) (by omega) hb_10 ea_11 es_v_3 hb_v_3 ((congrArg (pL (mvU (mL fa) (cI f n) 2) (cI f n) 42 47 mop 60) er_8).symm) wd_12 sm_v_3 hP hD hS (lv_sub hl [0, 1] rfl)
set_option maxHeartbeats 4000000 in
set_option maxRecDepth 100000 in
theorem c_X11_sum_3f (l : Launch) (dC : Nat → ClassId) (dI : Nat → Nat → Nat) (sz : Nat) (g0 : Nat) (pq : Nat → Nat) (cp : Nat → ClassId) (v : Nat → Int32) (fa : Nat → Nat → Int32) (k n : Nat) (hk : k ≤ n) (hn : n ≤ 60) (ea : v 47 = nI k) (es : v 50 = nI n) (f : Nat → Int32) (hb0 : hbF (v 49) fa f n) (hwe : v 51 = 1) (hde : v 48 = nI 3) : Met l yX11_sum wsX11_sum ({ frames := 9, cells := 0, slots := 0, locals := 208 }) (va_Pc [.ref g0] (pcW (dC, dI) (mT cp) (mW g0 pq cp v fa) sz)) (va_Qi (fun (r : Int32) (u : (Nat → Int32) × (Nat → Nat → Int32)) => pzf (mvS (mL fa) (cI f n) 2 k) v k n 3 u.1 r ∧ u.2 = fa) (fun u t => va_P (dC, dI) vwCl (mW g0 pq cp u.1 u.2) t.heap ∧ va_K (dC, dI) vwCl (mT cp) t ∧ va_D (va_A (mW g0 pq cp v fa) sz) (mW g0 pq cp u.1 u.2)) (va_A (mW g0 pq cp v fa) sz)) 0 0 (va_A (mW g0 pq cp v fa) sz) := by
  refine Met.ofW (cc := cX11_sum) (maxL := 4) (ret := (some .int)) (by decide +kernel) rfl ?_
  intro p e s m args below meth c s₁ B hml hv
  obtain ⟨rfl, hsz, hP, hK, hD0⟩ := hv
  have hx := B.exec
  have hb := B.bytes
  have hr := B.returns
  have hts := atoms_spec (ws := wsX11_sum) B.pre
  have hown : s.vm.findClass RX11 = some m.cls := findClass_of_methodNamed B.named
  have hlocks := B.notSynchronized
  subst hsz
  have hD := hD0.self (sz := s.heap.size)
  generalize hAe : va_A (mW g0 pq cp v fa) s.heap.size = A at hD ⊢
  have hA : ∀ q : Nat, s.heap.size ≤ q → A q := fun q h => by rw [← hAe]; exact Or.inr h
  have hS : va_S A s.heap s.heap [] := va_S.rf
  have hP : va_P (dC, dI) vwCl (mW g0 pq cp v fa) s.heap := hP
  have hl := lv_entry ([.ref g0]) (n := 4) (Nat.le_of_ble_eq_true rfl)
  rw [lg_entry_eq]
  generalize (lg_sl ([.ref g0]) ++ List.replicate (4 - (lg_sl ([.ref g0])).length) Slot.unset).toArray = ls at hl ⊢
  have hl : lv_has ls 4 [(0, .ref g0)] := hl
  refine lv_aload_n hx hb dX11_sum_0 rfl (lv_at hl 0 rfl) ?_
  have hFc := va_free (wc := (mW g0 pq cp v fa)) hD hS hA (List.range 48) rfl
  refine va_calli (va_runV (As := []) (rest := []) ⟨hx, hb, hml, hown, hts⟩ (c_X11_term_3f l dC dI s.heap.size g0 pq cp v fa k n hk hn ea es f hb0 hwe hde) (cwV 0 hts gX11_sum_X11_term rfl rfl rfl (by decide +kernel) ⟨(Nat.le_of_ble_eq_true rfl), (Nat.le_of_ble_eq_true rfl)⟩) (pr_V (r := (RX11, TX11, 63)) hP hK hD 0 11 rfl rfl) rfl rfl hl.1 rfl (lv_room (Nat.le_of_ble_eq_true rfl)) dX11_sum_1 ⟨(Nat.le_of_ble_eq_true rfl), (Nat.le_of_ble_eq_true rfl)⟩) hS (fun q _ h => hFc q h) hFc (fun r_2 u t H locs ht hvm w_1 hB hz1 hk1 hS => ?_)
  obtain ⟨v_3, fa_4⟩ := u
  obtain ⟨hP1, hK1, hD1⟩ := hB
  rw [ht] at hP1
  have hP : va_P (dC, dI) vwCl (mW g0 pq cp v_3 fa_4) H := hP1
  have hD : va_D A (mW g0 pq cp v_3 fa_4) := hD1.weaken (fun _ _ _ h => hFc _ h)
  clear hP1 hK1 hD1 hk1 hz1 hvm ht hFc
  obtain ⟨⟨k_5, w_6, y_7, er_8, ha_9, hb_10, ea_11, wd_12, sm_13⟩, ef_14⟩ := w_1
  dsimp only at ea_11 wd_12 sm_13 ef_14
  have ef2 := ef_14.symm
  subst ef2
  have es_v_3 : v_3 50 = nI n := (sm_13 50 (by decide +kernel) (by decide +kernel) (by decide +kernel)).trans es
  have hb_v_3 : hbF (v_3 49) fa f n := by rw [sm_13 49 (by decide +kernel) (by decide +kernel) (by decide +kernel)]; exact hb0
  have sm_v_3 : ∀ i, i ≠ 47 → i ≠ 48 → i ≠ 51 → v_3 i = v i := fun i h1 h2 h3 => (sm_13 i h1 h2 h3).trans ((fun i _ _ _ => rfl) i h1 h2 h3)
  refine lv_istore_n (lv' := [(1, .int r_2), (0, .ref g0)]) hx hb dX11_sum_4 rfl hl (by decide +kernel) rfl (fun ls hl => ?_)
  have hloop : ∀ (N : Nat) (z : Nat → Int32) (kz : Nat) (wz : Bool) (yz x : Int32) (H : Heap) (locs : List Loc) (ls : Array Slot), n ≤ kz + N → k ≤ kz → kz ≤ n → z 47 = nI kz → z 50 = nI n → hbF (z 49) fa f n → pL (mvT (mL fa) (cI f n) 2) (cI f n) 43 45 mop N (kz, wz, yz) = mvS (mL fa) (cI f n) 2 k → ((wz = false ∧ z 51 = 0) ∨ (wz = true ∧ z 51 = 1 ∧ z 48 = nI 3 ∧ x = yz)) → (∀ i, i ≠ 47 → i ≠ 48 → i ≠ 51 → z i = v i) → va_P (dC, dI) vwCl (mW g0 pq cp z fa) H → va_D A (mW g0 pq cp z fa) → va_S A s.heap H locs → lv_has ls 4 [(1, .int x), (0, .ref g0)] → W p l e (headSpec wsX11_sum { frames := 9, cells := 0, slots := 0, locals := 208 }).room s m #[Value.ref g0] below meth c H locs 0 0 (MQ below (va_Qi (fun (r : Int32) (u : (Nat → Int32) × (Nat → Nat → Int32)) => pzf (mvS (mL fa) (cI f n) 2 k) v k n 3 u.1 r ∧ u.2 = fa) (fun u t => va_P (dC, dI) vwCl (mW g0 pq cp u.1 u.2) t.heap ∧ va_K (dC, dI) vwCl (mT cp) t ∧ va_D A (mW g0 pq cp u.1 u.2)) A) #[Value.ref g0] s 0 0 A) (F0 m 5 ls []) := by
    intro N
    induction N with
    | zero =>
      intro z kz wz yz x H locs ls hN hk0 hkn eaz esz hbz hpl wdz smz hP hD hS hl
      refine lv_aload_n hx hb dX11_sum_5 rfl (lv_at hl 1 rfl) ?_
      rcases wdz with ⟨ew_18, we_15⟩ | ⟨ew_18, we_16, de_17, rx_19⟩
      · subst ew_18
        refine va_get (D := (dC, dI)) (ci := 11) (v := .int (z 51)) (C := RX11) (T := TX11) (N := 63) hx hb hts in_wsX11_sum_X11 hown hK hP 0 rfl rfl 51 (by decide +kernel) (hts (.fieldLink RX11 223 "ShipOfficeModel" "isWell" "Z") iw_X11_sum_1) (fun _ h9 => h9) rfl dX11_sum_6 ?_
        refine lv_topi (fun y ey => ?_)
        obtain rfl : y = 0 := ey.trans (we_15.trans (by decide +kernel))
        refine lv_if_eq (tgt := 76) hx hb dX11_sum_9 (by decide +kernel) (fun _ => ?_) (fun c_20 => absurd c_20 (by decide +kernel))
        refine lv_iload_n hx hb dX11_sum_76 rfl (lv_at hl 0 rfl) ?_
        exact W.iret (v := x) hx hb hr (fun t ht hW => ⟨⟨x, (z, fa), rfl, ⟨⟨kz, false, _, hpl.symm.trans (pL_stop (fun h => Bool.false_ne_true h.1)), by omega, hkn, eaz, (Or.inl ⟨rfl, we_15⟩), smz⟩, rfl⟩, ⟨by rw [ht]; exact hP, va_K.moved hW.alike hK, hD⟩⟩, hS.F ht⟩) hS.2.2 dX11_sum_77
      · subst ew_18
        subst rx_19
        refine va_get (D := (dC, dI)) (ci := 11) (v := .int (z 51)) (C := RX11) (T := TX11) (N := 63) hx hb hts in_wsX11_sum_X11 hown hK hP 0 rfl rfl 51 (by decide +kernel) (hts (.fieldLink RX11 223 "ShipOfficeModel" "isWell" "Z") iw_X11_sum_1) (fun _ h9 => h9) rfl dX11_sum_6 ?_
        refine lv_topi (fun y ey => ?_)
        obtain rfl : y = 1 := ey.trans (we_16.trans (by decide +kernel))
        refine lv_if_eq (tgt := 76) hx hb dX11_sum_9 (by decide +kernel) (fun c_21 => absurd c_21 (by decide +kernel)) (fun _ => ?_)
        refine lv_aload_n hx hb dX11_sum_12 rfl (lv_at hl 1 rfl) ?_
        have hFc : ∀ q, va_A [] H.size q → A q := pu_free hS hA
        refine va_calli (va_runV (As := []) (rest := []) ⟨hx, hb, hml, hown, hts⟩ (c_X11_sign_f l dC dI H.size g0 pq cp z fa kz n hkn hn eaz esz f hbz) (cwV 0 hts gX11_sum_X11_sign rfl rfl rfl (by decide +kernel) ⟨(Nat.le_of_ble_eq_true rfl), (Nat.le_of_ble_eq_true rfl)⟩) (pr_V (r := (RX11, TX11, 63)) hP hK hD 0 11 rfl rfl) rfl rfl hl.1 rfl (lv_room (Nat.le_of_ble_eq_true rfl)) dX11_sum_13 ⟨(Nat.le_of_ble_eq_true rfl), (Nat.le_of_ble_eq_true rfl)⟩) hS (fun q _ h => hFc q h) hFc (fun r_23 u t H locs ht hvm w_22 hB hz1 hk1 hS => ?_)
        have hP := pu_keep hP hk1
        clear hk1 hz1 hvm hB ht hFc
        subst w_22
        refine lv_bipush (v := 43) hx hb dX11_sum_16 (by decide +kernel) ?_
        refine lv_icmp_eq (tgt := 30) hx hb dX11_sum_18 (by decide +kernel) (fun c_24 => ?_) (fun c_24 => ?_)
        · have hlt : kz < n := (cI_in c_24 (by decide +kernel))
          exact absurd hlt (by omega)
        · refine lv_aload_n hx hb dX11_sum_21 rfl (lv_at hl 1 rfl) ?_
          have hFc : ∀ q, va_A [] H.size q → A q := pu_free hS hA
          refine va_calli (va_runV (As := []) (rest := []) ⟨hx, hb, hml, hown, hts⟩ (c_X11_sign_f l dC dI H.size g0 pq cp z fa kz n hkn hn eaz esz f hbz) (cwV 0 hts gX11_sum_X11_sign rfl rfl rfl (by decide +kernel) ⟨(Nat.le_of_ble_eq_true rfl), (Nat.le_of_ble_eq_true rfl)⟩) (pr_V (r := (RX11, TX11, 63)) hP hK hD 0 11 rfl rfl) rfl rfl hl.1 rfl (lv_room (Nat.le_of_ble_eq_true rfl)) dX11_sum_22 ⟨(Nat.le_of_ble_eq_true rfl), (Nat.le_of_ble_eq_true rfl)⟩) hS (fun q _ h => hFc q h) hFc (fun r_26 u t H locs ht hvm w_25 hB hz1 hk1 hS => ?_)
          have hP := pu_keep hP hk1
          clear hk1 hz1 hvm hB ht hFc
          subst w_25
          refine lv_bipush (v := 45) hx hb dX11_sum_25 (by decide +kernel) ?_
          refine lv_icmp_ne (tgt := 76) hx hb dX11_sum_27 (by decide +kernel) (fun c_27 => ?_) (fun c_27 => ?_)
          · refine lv_iload_n hx hb dX11_sum_76 rfl (lv_at hl 0 rfl) ?_
            exact W.iret (v := x) hx hb hr (fun t ht hW => ⟨⟨x, (z, fa), rfl, ⟨⟨kz, true, _, hpl.symm.trans (pL_stop (fun h => h.2.elim c_24 c_27)), by omega, hkn, eaz, (Or.inr ⟨rfl, we_16, de_17, rfl⟩), smz⟩, rfl⟩, ⟨by rw [ht]; exact hP, va_K.moved hW.alike hK, hD⟩⟩, hS.F ht⟩) hS.2.2 dX11_sum_77
          · have hlt : kz < n := (cI_in c_27 (by decide +kernel))
            exact absurd hlt (by omega)
    | succ N ih =>
      intro z kz wz yz x H locs ls hN hk0 hkn eaz esz hbz hpl wdz smz hP hD hS hl
      refine lv_aload_n hx hb dX11_sum_5 rfl (lv_at hl 1 rfl) ?_
      rcases wdz with ⟨ew_31, we_28⟩ | ⟨ew_31, we_29, de_30, rx_32⟩
      · subst ew_31
        refine va_get (D := (dC, dI)) (ci := 11) (v := .int (z 51)) (C := RX11) (T := TX11) (N := 63) hx hb hts in_wsX11_sum_X11 hown hK hP 0 rfl rfl 51 (by decide +kernel) (hts (.fieldLink RX11 223 "ShipOfficeModel" "isWell" "Z") iw_X11_sum_1) (fun _ h9 => h9) rfl dX11_sum_6 ?_
        refine lv_topi (fun y ey => ?_)
        obtain rfl : y = 0 := ey.trans (we_28.trans (by decide +kernel))
        refine lv_if_eq (tgt := 76) hx hb dX11_sum_9 (by decide +kernel) (fun _ => ?_) (fun c_33 => absurd c_33 (by decide +kernel))
        refine lv_iload_n hx hb dX11_sum_76 rfl (lv_at hl 0 rfl) ?_
        exact W.iret (v := x) hx hb hr (fun t ht hW => ⟨⟨x, (z, fa), rfl, ⟨⟨kz, false, _, hpl.symm.trans (pL_stop (fun h => Bool.false_ne_true h.1)), by omega, hkn, eaz, (Or.inl ⟨rfl, we_28⟩), smz⟩, rfl⟩, ⟨by rw [ht]; exact hP, va_K.moved hW.alike hK, hD⟩⟩, hS.F ht⟩) hS.2.2 dX11_sum_77
      · subst ew_31
        subst rx_32
        refine va_get (D := (dC, dI)) (ci := 11) (v := .int (z 51)) (C := RX11) (T := TX11) (N := 63) hx hb hts in_wsX11_sum_X11 hown hK hP 0 rfl rfl 51 (by decide +kernel) (hts (.fieldLink RX11 223 "ShipOfficeModel" "isWell" "Z") iw_X11_sum_1) (fun _ h9 => h9) rfl dX11_sum_6 ?_
        refine lv_topi (fun y ey => ?_)
        obtain rfl : y = 1 := ey.trans (we_29.trans (by decide +kernel))
        refine lv_if_eq (tgt := 76) hx hb dX11_sum_9 (by decide +kernel) (fun c_34 => absurd c_34 (by decide +kernel)) (fun _ => ?_)
        refine lv_aload_n hx hb dX11_sum_12 rfl (lv_at hl 1 rfl) ?_
        have hFc : ∀ q, va_A [] H.size q → A q := pu_free hS hA
        refine va_calli (va_runV (As := []) (rest := []) ⟨hx, hb, hml, hown, hts⟩ (c_X11_sign_f l dC dI H.size g0 pq cp z fa kz n hkn hn eaz esz f hbz) (cwV 0 hts gX11_sum_X11_sign rfl rfl rfl (by decide +kernel) ⟨(Nat.le_of_ble_eq_true rfl), (Nat.le_of_ble_eq_true rfl)⟩) (pr_V (r := (RX11, TX11, 63)) hP hK hD 0 11 rfl rfl) rfl rfl hl.1 rfl (lv_room (Nat.le_of_ble_eq_true rfl)) dX11_sum_13 ⟨(Nat.le_of_ble_eq_true rfl), (Nat.le_of_ble_eq_true rfl)⟩) hS (fun q _ h => hFc q h) hFc (fun r_36 u t H locs ht hvm w_35 hB hz1 hk1 hS => ?_)
        have hP := pu_keep hP hk1
        clear hk1 hz1 hvm hB ht hFc
        subst w_35
        refine lv_bipush (v := 43) hx hb dX11_sum_16 (by decide +kernel) ?_
        refine lv_icmp_eq (tgt := 30) hx hb dX11_sum_18 (by decide +kernel) (fun c_37 => ?_) (fun c_37 => ?_)
        · refine lv_aload_n hx hb dX11_sum_30 rfl (lv_at hl 1 rfl) ?_
          have hFc : ∀ q, va_A [] H.size q → A q := pu_free hS hA
          refine va_calli (va_runV (As := []) (rest := []) ⟨hx, hb, hml, hown, hts⟩ (c_X11_sign_f l dC dI H.size g0 pq cp z fa kz n hkn hn eaz esz f hbz) (cwV 0 hts gX11_sum_X11_sign rfl rfl rfl (by decide +kernel) ⟨(Nat.le_of_ble_eq_true rfl), (Nat.le_of_ble_eq_true rfl)⟩) (pr_V (r := (RX11, TX11, 63)) hP hK hD 0 11 rfl rfl) rfl rfl hl.1 rfl (lv_room (Nat.le_of_ble_eq_true rfl)) dX11_sum_31 ⟨(Nat.le_of_ble_eq_true rfl), (Nat.le_of_ble_eq_true rfl)⟩) hS (fun q _ h => hFc q h) hFc (fun r_39 u t H locs ht hvm w_38 hB hz1 hk1 hS => ?_)
          have hP := pu_keep hP hk1
          clear hk1 hz1 hvm hB ht hFc
          subst w_38
          refine lv_istore_n (lv' := [(2, .int (cI f n kz)), (1, .int x), (0, .ref g0)]) hx hb dX11_sum_34 rfl hl (by decide +kernel) rfl (fun ls hl => ?_)
          refine lv_aload_n hx hb dX11_sum_35 rfl (lv_at hl 2 rfl) ?_
          refine lv_dup hx hb dX11_sum_36 rfl ?_
          refine va_get (D := (dC, dI)) (ci := 11) (v := .int (z 47)) (C := RX11) (T := TX11) (N := 63) hx hb hts in_wsX11_sum_X11 hown hK hP 0 rfl rfl 47 (by decide +kernel) (hts (.fieldLink RX11 210 "ShipOfficeModel" "at" "I") iw_X11_sum_2) (fun _ h9 => h9) rfl dX11_sum_37 ?_
          refine lv_iconst (v := 1) hx hb dX11_sum_40 (by decide +kernel) ?_
          refine lv_iadd hx hb dX11_sum_41 ?_
          refine lv_topi (fun y ey => ?_)
          obtain rfl : y = nI (kz + 1) := ey.trans (by rw [eaz]; exact nI_1 _)
          refine va_put (D := (dC, dI)) (ci := 11) (v := .int (nI (kz + 1))) (ty := .int) (C := RX11) (T := TX11) (N := 63) hx hb hts in_wsX11_sum_X11 tyX11 tyX11_ok nmX11 hown hK hP hD hS 0 rfl rfl 47 (by decide +kernel) (hts (.fieldLink RX11 210 "ShipOfficeModel" "at" "I") iw_X11_sum_2) (fun _ h9 => h9) rfl (by decide +kernel) rfl rfl (Nat.le_of_ble_eq_true rfl) dX11_sum_42 (fun H locs hP hD hS => ?_)
          have hP : va_P (dC, dI) vwCl (mW g0 pq cp (upd z 47 (nI (kz + 1))) fa) H := hP
          have hD : va_D A (mW g0 pq cp (upd z 47 (nI (kz + 1))) fa) := hD
          obtain ⟨z_40, ez_40⟩ : ∃ zq, zq = (upd z 47 (nI (kz + 1))) := ⟨_, rfl⟩
          rw [← ez_40] at hP hD
          have ea_z_40 : z_40 47 = nI (kz + 1) := by rw [ez_40]; rfl
          have es_z_40 : z_40 50 = nI n := by rw [ez_40]; exact esz
          have hb_z_40 : hbF (z_40 49) fa f n := by rw [ez_40]; exact hbz
          have we_z_40 : z_40 51 = 1 := by rw [ez_40]; exact we_29
          have de_z_40 : z_40 48 = nI 3 := by rw [ez_40]; exact de_30
          have sm_z_40 : ∀ i, i ≠ 47 → i ≠ 48 → i ≠ 51 → z_40 i = v i := by intro i h1 h2 h3; rw [ez_40]; exact (if_neg h1).trans (smz i h1 h2 h3)
          have hkn_z_40 : (kz + 1) ≤ n := (cI_in c_37 (by decide +kernel))
          have hk0_z_40 : k ≤ (kz + 1) := by omega
          refine lv_aload_n hx hb dX11_sum_45 rfl (lv_at hl 2 rfl) ?_
          have hFc := va_free (wc := (mW g0 pq cp z_40 fa)) hD hS hA (List.range 48) rfl
          refine va_calli (va_runV (As := []) (rest := []) ⟨hx, hb, hml, hown, hts⟩ (c_X11_term_3f l dC dI H.size g0 pq cp z_40 fa (kz + 1) n hkn_z_40 hn ea_z_40 es_z_40 f hb_z_40 we_z_40 de_z_40) (cwV 0 hts gX11_sum_X11_term rfl rfl rfl (by decide +kernel) ⟨(Nat.le_of_ble_eq_true rfl), (Nat.le_of_ble_eq_true rfl)⟩) (pr_V (r := (RX11, TX11, 63)) hP hK hD 0 11 rfl rfl) rfl rfl hl.1 rfl (lv_room (Nat.le_of_ble_eq_true rfl)) dX11_sum_46 ⟨(Nat.le_of_ble_eq_true rfl), (Nat.le_of_ble_eq_true rfl)⟩) hS (fun q _ h => hFc q h) hFc (fun r_42 u t H locs ht hvm w_41 hB hz1 hk1 hS => ?_)
          obtain ⟨v_43, fa_44⟩ := u
          obtain ⟨hP1, hK1, hD1⟩ := hB
          rw [ht] at hP1
          have hP : va_P (dC, dI) vwCl (mW g0 pq cp v_43 fa_44) H := hP1
          have hD : va_D A (mW g0 pq cp v_43 fa_44) := hD1.weaken (fun _ _ _ h => hFc _ h)
          clear hP1 hK1 hD1 hk1 hz1 hvm ht hFc
          obtain ⟨⟨k_45, w_46, y_47, er_48, ha_49, hb_50, ea_51, wd_52, sm_53⟩, ef_54⟩ := w_41
          dsimp only at ea_51 wd_52 sm_53 ef_54
          have ef2 := ef_54.symm
          subst ef2
          have es_v_43 : v_43 50 = nI n := (sm_53 50 (by decide +kernel) (by decide +kernel) (by decide +kernel)).trans es_z_40
          have hb_v_43 : hbF (v_43 49) fa f n := by rw [sm_53 49 (by decide +kernel) (by decide +kernel) (by decide +kernel)]; exact hb_z_40
          have sm_v_43 : ∀ i, i ≠ 47 → i ≠ 48 → i ≠ 51 → v_43 i = v i := fun i h1 h2 h3 => (sm_53 i h1 h2 h3).trans (sm_z_40 i h1 h2 h3)
          refine lv_istore_n (lv' := [(3, .int r_42), (2, .int (cI f n kz)), (1, .int x), (0, .ref g0)]) hx hb dX11_sum_49 rfl hl (by decide +kernel) rfl (fun ls hl => ?_)
          refine lv_iload_n hx hb dX11_sum_50 rfl (lv_at hl 1 rfl) ?_
          refine lv_bipush (v := 43) hx hb dX11_sum_51 (by decide +kernel) ?_
          refine lv_icmp_ne (tgt := 64) hx hb dX11_sum_53 (by decide +kernel) (fun c_55 => absurd c_55 (fun h => h c_37)) (fun c_55 => ?_)
          refine lv_iload_n hx hb dX11_sum_56 rfl (lv_at hl 2 rfl) ?_
          refine lv_i2l (v := (x : Int32).toInt64) hx hb dX11_sum_57 rfl ?_
          refine lv_iload_n hx hb dX11_sum_58 rfl (lv_at hl 0 rfl) ?_
          refine lv_i2l (v := (r_42 : Int32).toInt64) hx hb dX11_sum_59 rfl ?_
          refine lv_ladd hx hb dX11_sum_60 ?_
          refine lv_goto (tgt := 69) hx hb dX11_sum_61 (by decide +kernel) ?_
          have hFc : ∀ q, va_A [] H.size q → A q := pu_free hS hA
          have hPc := hP.sub (ws' := []) [] rfl
          have hDc := hD.sub (ws' := []) [] (by decide +kernel) rfl
          have hKc := hK.sub (tys' := []) [] rfl
          refine va_calli (va_runS (As := [.long (((x : Int32).toInt64) + ((r_42 : Int32).toInt64))]) (rest := []) ⟨hx, hb, hml, hown, hts⟩ (c_X11_held_f l dC dI H.size (((x : Int32).toInt64) + ((r_42 : Int32).toInt64))) (va_cwS 1 hts gX11_sum_X11_held rfl rfl rfl (by decide +kernel) ⟨(Nat.le_of_ble_eq_true rfl), (Nat.le_of_ble_eq_true rfl)⟩) (pr_S hPc hKc hDc) rfl rfl hl.1 rfl (lv_room (Nat.le_of_ble_eq_true rfl)) dX11_sum_69 ⟨(Nat.le_of_ble_eq_true rfl), (Nat.le_of_ble_eq_true rfl)⟩) hS (fun q _ h => hFc q h) hFc (fun r_57 u t H locs ht hvm w_56 hB hz1 hk1 hS => ?_)
          have hP := pu_keep hP hk1
          clear hk1 hz1 hvm hB ht hFc hPc hDc hKc
          subst w_56
          refine lv_istore_n (lv' := [(1, .int (hld (((x : Int32).toInt64) + ((r_42 : Int32).toInt64)))), (3, .int r_42), (2, .int (cI f n kz)), (0, .ref g0)]) hx hb dX11_sum_72 rfl hl (by decide +kernel) rfl (fun ls hl => ?_)
          refine lv_goto (tgt := 5) hx hb dX11_sum_73 (by decide +kernel) ?_
          exact ih v_43 k_45 w_46 (mop (cI f n kz) x y_47) (hld (((x : Int32).toInt64) + ((r_42 : Int32).toInt64))) _ _ ls (by omega) (by omega) hb_50 ea_51 es_v_43 hb_v_43 ((pL_go (Or.inl c_37) er_48).symm.trans hpl) (Or.imp_right (fun h => ⟨h.1, h.2.1, h.2.2.1, by rw [← h.2.2.2, c_37, mop_43]⟩) wd_52) sm_v_43 hP hD hS (lv_sub hl [0, 3] rfl)
        · refine lv_aload_n hx hb dX11_sum_21 rfl (lv_at hl 1 rfl) ?_
          have hFc : ∀ q, va_A [] H.size q → A q := pu_free hS hA
          refine va_calli (va_runV (As := []) (rest := []) ⟨hx, hb, hml, hown, hts⟩ (c_X11_sign_f l dC dI H.size g0 pq cp z fa kz n hkn hn eaz esz f hbz) (cwV 0 hts gX11_sum_X11_sign rfl rfl rfl (by decide +kernel) ⟨(Nat.le_of_ble_eq_true rfl), (Nat.le_of_ble_eq_true rfl)⟩) (pr_V (r := (RX11, TX11, 63)) hP hK hD 0 11 rfl rfl) rfl rfl hl.1 rfl (lv_room (Nat.le_of_ble_eq_true rfl)) dX11_sum_22 ⟨(Nat.le_of_ble_eq_true rfl), (Nat.le_of_ble_eq_true rfl)⟩) hS (fun q _ h => hFc q h) hFc (fun r_59 u t H locs ht hvm w_58 hB hz1 hk1 hS => ?_)
          have hP := pu_keep hP hk1
          clear hk1 hz1 hvm hB ht hFc
          subst w_58
          refine lv_bipush (v := 45) hx hb dX11_sum_25 (by decide +kernel) ?_
          refine lv_icmp_ne (tgt := 76) hx hb dX11_sum_27 (by decide +kernel) (fun c_60 => ?_) (fun c_60 => ?_)
          · refine lv_iload_n hx hb dX11_sum_76 rfl (lv_at hl 0 rfl) ?_
            exact W.iret (v := x) hx hb hr (fun t ht hW => ⟨⟨x, (z, fa), rfl, ⟨⟨kz, true, _, hpl.symm.trans (pL_stop (fun h => h.2.elim c_37 c_60)), by omega, hkn, eaz, (Or.inr ⟨rfl, we_29, de_30, rfl⟩), smz⟩, rfl⟩, ⟨by rw [ht]; exact hP, va_K.moved hW.alike hK, hD⟩⟩, hS.F ht⟩) hS.2.2 dX11_sum_77
          · refine lv_aload_n hx hb dX11_sum_30 rfl (lv_at hl 1 rfl) ?_
            have hFc : ∀ q, va_A [] H.size q → A q := pu_free hS hA
            refine va_calli (va_runV (As := []) (rest := []) ⟨hx, hb, hml, hown, hts⟩ (c_X11_sign_f l dC dI H.size g0 pq cp z fa kz n hkn hn eaz esz f hbz) (cwV 0 hts gX11_sum_X11_sign rfl rfl rfl (by decide +kernel) ⟨(Nat.le_of_ble_eq_true rfl), (Nat.le_of_ble_eq_true rfl)⟩) (pr_V (r := (RX11, TX11, 63)) hP hK hD 0 11 rfl rfl) rfl rfl hl.1 rfl (lv_room (Nat.le_of_ble_eq_true rfl)) dX11_sum_31 ⟨(Nat.le_of_ble_eq_true rfl), (Nat.le_of_ble_eq_true rfl)⟩) hS (fun q _ h => hFc q h) hFc (fun r_62 u t H locs ht hvm w_61 hB hz1 hk1 hS => ?_)
            have hP := pu_keep hP hk1
            clear hk1 hz1 hvm hB ht hFc
            subst w_61
            refine lv_istore_n (lv' := [(2, .int (cI f n kz)), (1, .int x), (0, .ref g0)]) hx hb dX11_sum_34 rfl hl (by decide +kernel) rfl (fun ls hl => ?_)
            refine lv_aload_n hx hb dX11_sum_35 rfl (lv_at hl 2 rfl) ?_
            refine lv_dup hx hb dX11_sum_36 rfl ?_
            refine va_get (D := (dC, dI)) (ci := 11) (v := .int (z 47)) (C := RX11) (T := TX11) (N := 63) hx hb hts in_wsX11_sum_X11 hown hK hP 0 rfl rfl 47 (by decide +kernel) (hts (.fieldLink RX11 210 "ShipOfficeModel" "at" "I") iw_X11_sum_2) (fun _ h9 => h9) rfl dX11_sum_37 ?_
            refine lv_iconst (v := 1) hx hb dX11_sum_40 (by decide +kernel) ?_
            refine lv_iadd hx hb dX11_sum_41 ?_
            refine lv_topi (fun y ey => ?_)
            obtain rfl : y = nI (kz + 1) := ey.trans (by rw [eaz]; exact nI_1 _)
            refine va_put (D := (dC, dI)) (ci := 11) (v := .int (nI (kz + 1))) (ty := .int) (C := RX11) (T := TX11) (N := 63) hx hb hts in_wsX11_sum_X11 tyX11 tyX11_ok nmX11 hown hK hP hD hS 0 rfl rfl 47 (by decide +kernel) (hts (.fieldLink RX11 210 "ShipOfficeModel" "at" "I") iw_X11_sum_2) (fun _ h9 => h9) rfl (by decide +kernel) rfl rfl (Nat.le_of_ble_eq_true rfl) dX11_sum_42 (fun H locs hP hD hS => ?_)
            have hP : va_P (dC, dI) vwCl (mW g0 pq cp (upd z 47 (nI (kz + 1))) fa) H := hP
            have hD : va_D A (mW g0 pq cp (upd z 47 (nI (kz + 1))) fa) := hD
            obtain ⟨z_63, ez_63⟩ : ∃ zq, zq = (upd z 47 (nI (kz + 1))) := ⟨_, rfl⟩
            rw [← ez_63] at hP hD
            have ea_z_63 : z_63 47 = nI (kz + 1) := by rw [ez_63]; rfl
            have es_z_63 : z_63 50 = nI n := by rw [ez_63]; exact esz
            have hb_z_63 : hbF (z_63 49) fa f n := by rw [ez_63]; exact hbz
            have we_z_63 : z_63 51 = 1 := by rw [ez_63]; exact we_29
            have de_z_63 : z_63 48 = nI 3 := by rw [ez_63]; exact de_30
            have sm_z_63 : ∀ i, i ≠ 47 → i ≠ 48 → i ≠ 51 → z_63 i = v i := by intro i h1 h2 h3; rw [ez_63]; exact (if_neg h1).trans (smz i h1 h2 h3)
            have hkn_z_63 : (kz + 1) ≤ n := (cI_in c_60 (by decide +kernel))
            have hk0_z_63 : k ≤ (kz + 1) := by omega
            refine lv_aload_n hx hb dX11_sum_45 rfl (lv_at hl 2 rfl) ?_
            have hFc := va_free (wc := (mW g0 pq cp z_63 fa)) hD hS hA (List.range 48) rfl
            refine va_calli (va_runV (As := []) (rest := []) ⟨hx, hb, hml, hown, hts⟩ (c_X11_term_3f l dC dI H.size g0 pq cp z_63 fa (kz + 1) n hkn_z_63 hn ea_z_63 es_z_63 f hb_z_63 we_z_63 de_z_63) (cwV 0 hts gX11_sum_X11_term rfl rfl rfl (by decide +kernel) ⟨(Nat.le_of_ble_eq_true rfl), (Nat.le_of_ble_eq_true rfl)⟩) (pr_V (r := (RX11, TX11, 63)) hP hK hD 0 11 rfl rfl) rfl rfl hl.1 rfl (lv_room (Nat.le_of_ble_eq_true rfl)) dX11_sum_46 ⟨(Nat.le_of_ble_eq_true rfl), (Nat.le_of_ble_eq_true rfl)⟩) hS (fun q _ h => hFc q h) hFc (fun r_65 u t H locs ht hvm w_64 hB hz1 hk1 hS => ?_)
            obtain ⟨v_66, fa_67⟩ := u
            obtain ⟨hP1, hK1, hD1⟩ := hB
            rw [ht] at hP1
            have hP : va_P (dC, dI) vwCl (mW g0 pq cp v_66 fa_67) H := hP1
            have hD : va_D A (mW g0 pq cp v_66 fa_67) := hD1.weaken (fun _ _ _ h => hFc _ h)
            clear hP1 hK1 hD1 hk1 hz1 hvm ht hFc
            obtain ⟨⟨k_68, w_69, y_70, er_71, ha_72, hb_73, ea_74, wd_75, sm_76⟩, ef_77⟩ := w_64
            dsimp only at ea_74 wd_75 sm_76 ef_77
            have ef2 := ef_77.symm
            subst ef2
            have es_v_66 : v_66 50 = nI n := (sm_76 50 (by decide +kernel) (by decide +kernel) (by decide +kernel)).trans es_z_63
            have hb_v_66 : hbF (v_66 49) fa f n := by rw [sm_76 49 (by decide +kernel) (by decide +kernel) (by decide +kernel)]; exact hb_z_63
            have sm_v_66 : ∀ i, i ≠ 47 → i ≠ 48 → i ≠ 51 → v_66 i = v i := fun i h1 h2 h3 => (sm_76 i h1 h2 h3).trans (sm_z_63 i h1 h2 h3)
            refine lv_istore_n (lv' := [(3, .int r_65), (2, .int (cI f n kz)), (1, .int x), (0, .ref g0)]) hx hb dX11_sum_49 rfl hl (by decide +kernel) rfl (fun ls hl => ?_)
            refine lv_iload_n hx hb dX11_sum_50 rfl (lv_at hl 1 rfl) ?_
            refine lv_bipush (v := 43) hx hb dX11_sum_51 (by decide +kernel) ?_
            refine lv_icmp_ne (tgt := 64) hx hb dX11_sum_53 (by decide +kernel) (fun c_78 => ?_) (fun c_78 => absurd c_78 (fun h => absurd (c_60.symm.trans h) (by decide +kernel)))
            refine lv_iload_n hx hb dX11_sum_64 rfl (lv_at hl 2 rfl) ?_
            refine lv_i2l (v := (x : Int32).toInt64) hx hb dX11_sum_65 rfl ?_
            refine lv_iload_n hx hb dX11_sum_66 rfl (lv_at hl 0 rfl) ?_
            refine lv_i2l (v := (r_65 : Int32).toInt64) hx hb dX11_sum_67 rfl ?_
            refine lv_lsub hx hb dX11_sum_68 ?_
            have hFc : ∀ q, va_A [] H.size q → A q := pu_free hS hA
            have hPc := hP.sub (ws' := []) [] rfl
            have hDc := hD.sub (ws' := []) [] (by decide +kernel) rfl
            have hKc := hK.sub (tys' := []) [] rfl
            refine va_calli (va_runS (As := [.long (((x : Int32).toInt64) - ((r_65 : Int32).toInt64))]) (rest := []) ⟨hx, hb, hml, hown, hts⟩ (c_X11_held_f l dC dI H.size (((x : Int32).toInt64) - ((r_65 : Int32).toInt64))) (va_cwS 1 hts gX11_sum_X11_held rfl rfl rfl (by decide +kernel) ⟨(Nat.le_of_ble_eq_true rfl), (Nat.le_of_ble_eq_true rfl)⟩) (pr_S hPc hKc hDc) rfl rfl hl.1 rfl (lv_room (Nat.le_of_ble_eq_true rfl)) dX11_sum_69 ⟨(Nat.le_of_ble_eq_true rfl), (Nat.le_of_ble_eq_true rfl)⟩) hS (fun q _ h => hFc q h) hFc (fun r_80 u t H locs ht hvm w_79 hB hz1 hk1 hS => ?_)
            have hP := pu_keep hP hk1
            clear hk1 hz1 hvm hB ht hFc hPc hDc hKc
            subst w_79
            refine lv_istore_n (lv' := [(1, .int (hld (((x : Int32).toInt64) - ((r_65 : Int32).toInt64)))), (3, .int r_65), (2, .int (cI f n kz)), (0, .ref g0)]) hx hb dX11_sum_72 rfl hl (by decide +kernel) rfl (fun ls hl => ?_)
            refine lv_goto (tgt := 5) hx hb dX11_sum_73 (by decide +kernel) ?_
            exact ih v_66 k_68 w_69 (mop (cI f n kz) x y_70) (hld (((x : Int32).toInt64) - ((r_65 : Int32).toInt64))) _ _ ls (by omega) (by omega) hb_73 ea_74 es_v_66 hb_v_66 ((pL_go (Or.inr c_60) er_71).symm.trans hpl) (Or.imp_right (fun h => ⟨h.1, h.2.1, h.2.2.1, by rw [← h.2.2.2, c_60, mop_45]⟩) wd_75) sm_v_66 hP hD hS (lv_sub hl [0, 3] rfl)
  exact hloop 60 v_3 k_5 w_6 y_7 r_2 _ _ ls (by omega) (by omega) hb_10 ea_11 es_v_3 hb_v_3 ((congrArg (pL (mvT (mL fa) (cI f n) 2) (cI f n) 43 45 mop 60) er_8).symm) wd_12 sm_v_3 hP hD hS (lv_sub hl [0, 1] rfl)
