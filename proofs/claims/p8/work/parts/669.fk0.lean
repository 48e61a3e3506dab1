

/-- k bytes of the text were laid from 60 n on -/
def txI (fa fz : Nat → Nat → Int32) (n k : Nat) : Prop := (∀ j, j < k → fz 19 (60 * n + j) = fa 44 j) ∧ ∀ i, i < 60 * n → fz 19 i = fa 19 i
def smT (fa fz : Nat → Nat → Int32) : Prop := fz 16 = fa 16 ∧ fz 17 = fa 17 ∧ fz 18 = fa 18 ∧ fz 44 = fa 44
theorem txI_0 {fa fz : Nat → Nat → Int32} {n : Nat} {i : Int32} (h : fz = fa) (hi : i.toInt = 0) : txI fa fz n i.toNatClampNeg := ⟨al_0 hi, fun _ _ => by rw [h]⟩
theorem txI_s {fa fz fy : Nat → Nat → Int32} {n : Nat} {i i1 x y : Int32} (h : txI fa fz n i.toNatClampNeg) (ef : fy 19 = upd (fz 19) x.toNatClampNeg y) (hx : x.toInt = 60 * (n : Int) + i.toInt) (hy : y = fa 44 i.toNatClampNeg) (h0 : 0 ≤ i.toInt) (e : i1.toInt = i.toInt + 1) : txI fa fy n i1.toNatClampNeg := by
  have ex : x.toNatClampNeg = 60 * n + i.toNatClampNeg := (show x.toInt.toNat = 60 * n + i.toInt.toNat by omega)
  refine ⟨al_s (fun j hj => ?_) ?_ e h0, fun j hj => ?_⟩
  · rw [ef, upd_ne (by omega)]; exact h.1 j hj
  · rw [ef, ex, upd_eq]; exact hy
  · rw [ef, upd_ne (by omega)]; exact h.2 j hj
theorem smT_s {fa fz fy : Nat → Nat → Int32} {j : Nat} {y : Int32} (h : smT fa fz) (e : fy = upF fz 19 j y) : smT fa fy := by
  rw [e]
  exact ⟨(if_neg (by decide +kernel)).trans h.1, (if_neg (by decide +kernel)).trans h.2.1, (if_neg (by decide +kernel)).trans h.2.2.1, (if_neg (by decide +kernel)).trans h.2.2.2⟩
/-- an act more -/
def acM (v : Nat → Int32) (fa : Nat → Nat → Int32) (p d : Int32) (u : (Nat → Int32) × (Nat → Nat → Int32)) : Prop := u.2 16 = upd (fa 16) (v 42).toNatClampNeg (v 46) ∧ u.2 17 = upd (fa 17) (v 42).toNatClampNeg p ∧ u.2 18 = upd (fa 18) (v 42).toNatClampNeg d ∧ txI fa u.2 (v 42).toNatClampNeg (v 46).toNatClampNeg
set_option maxHeartbeats 4000000 in
set_option maxRecDepth 100000 in
theorem c_X11_act_g (l : Launch) (dC : Nat → ClassId) (dI : Nat → Nat → Nat) (sz : Nat) (g0 : Nat) (pq : Nat → Nat) (cp : Nat → ClassId) (v : Nat → Int32) (fa : Nat → Nat → Int32) (gV : mV v) (gA : mA fa) (x1 : Int32) (x2 : Int32) : Met l yX11_act wsX11_act ({ frames := 20, cells := 0, slots := 0, locals := 463 }) (va_Pc [.ref g0, .int x1, .int x2] (pcW (dC, dI) (mT cp) (mW g0 pq cp v fa) sz)) (va_Qi (fun (r : Int32) (u : (Nat → Int32) × (Nat → Nat → Int32)) => mV u.1 ∧ mA u.2 ∧ mX [0, 16, 17, 18, 19, 42, 45, 46, 47, 48, 49, 50, 51, 52, 53, 54, 55, 56, 57, 58, 59, 60] v fa u.1 u.2 ∧ (gac (v 38).toInt (v 42).toInt (v 46).toInt x1.toInt x2.toInt ((mvS (mL fa) (cI (fa 44) (v 46).toNatClampNeg) 5 0).1 : Int) (bI (mvS (mL fa) (cI (fa 44) (v 46).toNatClampNeg) 5 0).2.1) r.toInt (u.1 42).toInt (u.1 46).toInt ∧ (1 ≤ r.toInt → acM v fa x1 x2 u) ∧ (r.toInt < 1 → ∀ k ∈ [19, 16, 17, 18], u.2 k = fa k))) (fun u t => va_P (dC, dI) vwCl (mW g0 pq cp u.1 u.2) t.heap ∧ va_K (dC, dI) vwCl (mT cp) t ∧ va_D (va_A (mW g0 pq cp v fa) sz) (mW g0 pq cp u.1 u.2)) (va_A (mW g0 pq cp v fa) sz)) 0 0 (va_A (mW g0 pq cp v fa) sz) := by
  refine Met.ofW (cc := cX11_act) (maxL := 7) (ret := (some .int)) (by decide +kernel) rfl ?_
  intro p e s m args below meth c s₁ B hml hv
  obtain ⟨rfl, hsz, hP, hK, hD0⟩ := hv
  have hx := B.exec
  have hb := B.bytes
  have hr := B.returns
  have hts := atoms_spec (ws := wsX11_act) B.pre
  have hown : s.vm.findClass RX11 = some m.cls := findClass_of_methodNamed B.named
  have hlocks := B.notSynchronized
  subst hsz
  have hD := hD0.self (sz := s.heap.size)
  generalize hAe : va_A (mW g0 pq cp v fa) s.heap.size = A at hD ⊢
  have hA : ∀ q : Nat, s.heap.size ≤ q → A q := fun q h => by rw [← hAe]; exact Or.inr h
  have hS : va_S A s.heap s.heap [] := va_S.rf
  have hP : va_P (dC, dI) vwCl (mW g0 pq cp v fa) s.heap := hP
  have hl := lv_entry ([.ref g0, .int x1, .int x2]) (n := 7) (Nat.le_of_ble_eq_true rfl)
  rw [lg_entry_eq]
  generalize (lg_sl ([.ref g0, .int x1, .int x2]) ++ List.replicate (7 - (lg_sl ([.ref g0, .int x1, .int x2])).length) Slot.unset).toArray = ls at hl ⊢
  have hl : lv_has ls 7 [(0, .ref g0), (1, .int x1), (2, .int x2)] := hl
  have iv_1 : 0 ≤ (v 38).toInt ∧ (v 38).toInt ≤ 3000 := gV 38
  have iv_2 : 0 ≤ (v 42).toInt ∧ (v 42).toInt ≤ 30 := gV 42
  have iv_3 : 0 ≤ (v 46).toInt ∧ (v 46).toInt ≤ 60 := gV 46
  refine lv_iload_n hx hb dX11_act_0 rfl (lv_at hl 1 rfl) ?_
  refine lv_iconst (v := 5) hx hb dX11_act_1 (by decide +kernel) ?_
  have hFc : ∀ q, va_A [] s.heap.size q → A q := pu_free hS hA
  have hPc := hP.sub (ws' := []) [] rfl
  have hDc := hD.sub (ws' := []) [] (by decide +kernel) rfl
  have hKc := hK.sub (tys' := []) [] rfl
  refine va_calli (va_runS (As := [.int x1, .int 5]) (rest := []) ⟨hx, hb, hml, hown, hts⟩ (c_X11_isIn l dC dI s.heap.size x1 5) (va_cwS 2 hts gX11_act_X11_isIn rfl rfl rfl (by decide +kernel) ⟨(Nat.le_of_ble_eq_true rfl), (Nat.le_of_ble_eq_true rfl)⟩) (pr_S hPc hKc hDc) rfl rfl hl.1 rfl (lv_room (Nat.le_of_ble_eq_true rfl)) dX11_act_2 ⟨(Nat.le_of_ble_eq_true rfl), (Nat.le_of_ble_eq_true rfl)⟩) hS (fun q _ h => hFc q h) hFc (fun r_5 u t H locs ht hvm w_4 hB hz1 hk1 hS => ?_)
  have hP := pu_keep hP hk1
  clear hk1 hz1 hvm hB ht hFc hPc hDc hKc
  have hbr_5 : 0 ≤ r_5.toInt ∧ r_5.toInt ≤ 1 := iv_of w_4 (isI_i _ _)
  refine lv_if_ne (tgt := 15) hx hb dX11_act_5 (by decide +kernel) (fun c_6 => ?_) (fun c_6 => ?_)
  · have dc_6 := c_ne (a := r_5.toInt) (b := 0) rfl (by decide +kernel) c_6
    have hi_7 := isI_t w_4 (fun q => c_6 (Int32.toInt_inj.mp q))
    have khi_7 : (5 : Int32).toInt = 5 := by decide
    refine lv_iload_n hx hb dX11_act_15 rfl (lv_at hl 2 rfl) ?_
    refine lv_aload_n hx hb dX11_act_16 rfl (lv_at hl 0 rfl) ?_
    refine va_get (D := (dC, dI)) (ci := 11) (v := .int (v 38)) (C := RX11) (T := TX11) (N := 63) hx hb hts in_wsX11_act_X11 hown hK hP 0 rfl rfl 38 (by decide +kernel) (hts (.fieldLink RX11 171 "ShipOfficeModel" "now" "I") iw_X11_act_1) (fun _ h9 => h9) rfl dX11_act_17 ?_
    refine lv_topi (fun x_8 ex_8 => ?_)
    have hx_8 : 0 ≤ x_8.toInt ∧ x_8.toInt ≤ 3000 := iv_of ex_8 (gV 38)
    have gx_8 : x_8.toInt = (v 38).toInt := iv_to ex_8
    clear ex_8
    refine lv_icmp_ge (tgt := 30) hx hb dX11_act_20 (by decide +kernel) (fun c_9 => ?_) (fun c_9 => ?_)
    · have dc_9 := c_le (a := x_8.toInt) (b := x2.toInt) rfl rfl c_9
      refine lv_iload_n hx hb dX11_act_30 rfl (lv_at hl 2 rfl) ?_
      refine lv_sipush (v := 3000) hx hb dX11_act_31 (by decide +kernel) ?_
      refine lv_icmp_gt (tgt := 46) hx hb dX11_act_34 (by decide +kernel) (fun c_10 => ?_) (fun c_10 => ?_)
      · have dc_10 := c_lt (a := 3000) (b := x2.toInt) (by decide +kernel) rfl c_10
        refine lv_aload_n hx hb dX11_act_46 rfl (lv_at hl 0 rfl) ?_
        refine lv_bipush (v := (-6)) hx hb dX11_act_47 (by decide +kernel) ?_
        have hFc := va_free (wc := (mW g0 pq cp v fa)) hD hS hA (List.range 48) rfl
        refine va_calli (va_runV (As := [.int (-6)]) (rest := []) ⟨hx, hb, hml, hown, hts⟩ (c_X11_refuse_f l dC dI H.size g0 pq cp v fa (-6) (by unfold vp_in; decide)) (cwV 1 hts gX11_act_X11_refuse rfl rfl rfl (by decide +kernel) ⟨(Nat.le_of_ble_eq_true rfl), (Nat.le_of_ble_eq_true rfl)⟩) (pr_V (r := (RX11, TX11, 63)) hP hK hD 0 11 rfl rfl) rfl rfl hl.1 rfl (lv_room (Nat.le_of_ble_eq_true rfl)) dX11_act_49 ⟨(Nat.le_of_ble_eq_true rfl), (Nat.le_of_ble_eq_true rfl)⟩) hS (fun q _ h => hFc q h) hFc (fun r_12 u t H locs ht hvm w_11 hB hz1 hk1 hS => ?_)
        obtain ⟨v_13, fa_14⟩ := u
        obtain ⟨hP1, hK1, hD1⟩ := hB
        rw [ht] at hP1
        have hP : va_P (dC, dI) vwCl (mW g0 pq cp v_13 fa_14) H := hP1
        have hD : va_D A (mW g0 pq cp v_13 fa_14) := hD1.weaken (fun _ _ _ h => hFc _ h)
        clear hP1 hK1 hD1 hk1 hz1 hvm ht hFc
        obtain ⟨rfl, hs1_15⟩ := w_11
        have hVv_13 : mV v_13 := sm0_V (sm1_0 hs1_15) gV
        have hAv_13 : mA fa_14 := sm0_A (sm1_0 hs1_15) gA
        have g_16 : (v_13 38).toInt = (v 38).toInt := congrArg Int32.toInt (congrFun hs1_15.1 38)
        have g_17 : (v_13 42).toInt = (v 42).toInt := congrArg Int32.toInt (congrFun hs1_15.1 42)
        have g_18 : (v_13 46).toInt = (v 46).toInt := congrArg Int32.toInt (congrFun hs1_15.1 46)
        have g_19 : (v_13 47).toInt = (v 47).toInt := congrArg Int32.toInt (congrFun hs1_15.1 47)
        have g_20 : (v_13 51).toInt = (v 51).toInt := congrArg Int32.toInt (congrFun hs1_15.1 51)
        have hRv_13 : mX [0, 16, 17, 18, 19, 42, 45, 46, 47, 48, 49, 50, 51, 52, 53, 54, 55, 56, 57, 58, 59, 60] v fa v_13 fa_14 := mX.st mX.rf (mX.s0 (sm1_0 hs1_15)) (by decide +kernel)
        exact W.iret (v := (-6)) hx hb hr (fun t ht hW => ⟨⟨(-6), (v_13, fa_14), rfl, ⟨hVv_13, hAv_13, hRv_13, ⟨(by unfold gac; dsimp only; have n0 : (v 46).toNatClampNeg = (v 46).toInt.toNat := rfl; have h0 : ((-6) : Int32).toInt = -6 := (by decide +kernel); refine Or.inr (Or.inr (Or.inl ?_)); omega), fun h => by have h0 : ((-6) : Int32).toInt = -6 := (by decide +kernel); exfalso; omega, (fun _ k hk => (sm1_0 hs1_15).2 k (by revert k; decide))⟩⟩, ⟨by rw [ht]; exact hP, va_K.moved hW.alike hK, hD⟩⟩, hS.F ht⟩) hS.2.2 dX11_act_52
      · have dc_10 := c_nlt (a := 3000) (b := x2.toInt) (by decide +kernel) rfl c_10
        refine lv_aload_n hx hb dX11_act_37 rfl (lv_at hl 0 rfl) ?_
        refine va_get (D := (dC, dI)) (ci := 11) (v := .int (v 42)) (C := RX11) (T := TX11) (N := 63) hx hb hts in_wsX11_act_X11 hown hK hP 0 rfl rfl 42 (by decide +kernel) (hts (.fieldLink RX11 256 "ShipOfficeModel" "acts" "I") iw_X11_act_2) (fun _ h9 => h9) rfl dX11_act_38 ?_
        refine lv_topi (fun x_21 ex_21 => ?_)
        have hx_21 : 0 ≤ x_21.toInt ∧ x_21.toInt ≤ 30 := iv_of ex_21 (gV 42)
        have gx_21 : x_21.toInt = (v 42).toInt := iv_to ex_21
        clear ex_21
        refine lv_bipush (v := 30) hx hb dX11_act_41 (by decide +kernel) ?_
        refine lv_icmp_ne (tgt := 53) hx hb dX11_act_43 (by decide +kernel) (fun c_22 => ?_) (fun c_22 => ?_)
        · have dc_22 := c_ne (a := x_21.toInt) (b := 30) rfl (by decide +kernel) c_22
          refine lv_aload_n hx hb dX11_act_53 rfl (lv_at hl 0 rfl) ?_
          refine lv_iconst (v := (-1)) hx hb dX11_act_54 (by decide +kernel) ?_
          refine lv_aload_n hx hb dX11_act_55 rfl (lv_at hl 0 rfl) ?_
          refine va_get (D := (dC, dI)) (ci := 11) (v := .int (v 46)) (C := RX11) (T := TX11) (N := 63) hx hb hts in_wsX11_act_X11 hown hK hP 0 rfl rfl 46 (by decide +kernel) (hts (.fieldLink RX11 205 "ShipOfficeModel" "taped" "I") iw_X11_act_3) (fun _ h9 => h9) rfl dX11_act_56 ?_
          refine lv_topi (fun x_23 ex_23 => ?_)
          have hx_23 : 0 ≤ x_23.toInt ∧ x_23.toInt ≤ 60 := iv_of ex_23 (gV 46)
          have gx_23 : x_23.toInt = (v 46).toInt := iv_to ex_23
          clear ex_23
          have hFc := va_free (wc := (mW g0 pq cp v fa)) hD hS hA (List.range 48) rfl
          refine va_calli (va_runV (As := [.int (-1), .int x_23]) (rest := []) ⟨hx, hb, hml, hown, hts⟩ (c_X11_goesThrough_f l dC dI H.size g0 pq cp v fa (-1) x_23 x_23.toNatClampNeg (cn_le (n := 60) (by omega)) (cn_eq (n := 60) (by omega)) (fa 44) (Or.inl ⟨by decide, fun _ _ => rfl⟩)) (cwV 2 hts gX11_act_X11_goesThrough rfl rfl rfl (by decide +kernel) ⟨(Nat.le_of_ble_eq_true rfl), (Nat.le_of_ble_eq_true rfl)⟩) (pr_V (r := (RX11, TX11, 63)) hP hK hD 0 11 rfl rfl) rfl rfl hl.1 rfl (lv_room (Nat.le_of_ble_eq_true rfl)) dX11_act_59 ⟨(Nat.le_of_ble_eq_true rfl), (Nat.le_of_ble_eq_true rfl)⟩) hS (fun q _ h => hFc q h) hFc (fun r_25 u t H locs ht hvm w_24 hB hz1 hk1 hS => ?_)
          obtain ⟨v_26, fa_27⟩ := u
          obtain ⟨hP1, hK1, hD1⟩ := hB
          rw [ht] at hP1
          have hP : va_P (dC, dI) vwCl (mW g0 pq cp v_26 fa_27) H := hP1
          have hD : va_D A (mW g0 pq cp v_26 fa_27) := hD1.weaken (fun _ _ _ h => hFc _ h)
          clear hP1 hK1 hD1 hk1 hz1 hvm ht hFc
          obtain ⟨w_24, hrv⟩ := w_24
          dsimp only at hrv
          rw [show x_23 = v 46 from Int32.toInt_inj.mp (by omega)] at hrv
          obtain ⟨hrv0, hrv1, hrv2, -⟩ := hrv
          have hrv3 := bI_01 (mvS (mL fa) (cI (fa 44) (v 46).toNatClampNeg) 5 0).2.1
          have hrv4 : (v 46).toNatClampNeg = (v 46).toInt.toNat := rfl
          obtain ⟨hr_28, efhr_28⟩ := w_24
          dsimp only at hr_28 efhr_28
          have hVv_26 : mV v_26 := rd_V gV hr_28
          have hAfa_27 : mA fa_27 := by rw [efhr_28]; exact gA
          have hr_28 := rd_R hr_28 efhr_28
          have g_29 : (v_26 38).toInt = (v 38).toInt := congrArg Int32.toInt (hr_28.1 38 rfl)
          have g_30 : (v_26 42).toInt = (v 42).toInt := congrArg Int32.toInt (hr_28.1 42 rfl)
          have g_31 : (v_26 46).toInt = (v 46).toInt := congrArg Int32.toInt (hr_28.1 46 rfl)
          have R_32 : mX [0, 16, 17, 18, 19, 42, 45, 46, 47, 48, 49, 50, 51, 52, 53, 54, 55, 56, 57, 58, 59, 60] v fa v_26 fa_27 := mX.st mX.rf (mX.scr hr_28) (by decide +kernel)
          refine lv_istore_n (lv' := [(3, .int r_25), (0, .ref g0), (1, .int x1), (2, .int x2)]) hx hb dX11_act_62 rfl hl (by decide +kernel) rfl (fun ls hl => ?_)
          refine lv_aload_n hx hb dX11_act_63 rfl (lv_at hl 1 rfl) ?_
          refine va_get (D := (dC, dI)) (ci := 11) (v := .int (v_26 51)) (C := RX11) (T := TX11) (N := 63) hx hb hts in_wsX11_act_X11 hown hK hP 0 rfl rfl 51 (by decide +kernel) (hts (.fieldLink RX11 223 "ShipOfficeModel" "isWell" "Z") iw_X11_act_4) (fun _ h9 => h9) rfl dX11_act_64 ?_
          refine lv_topi (fun x_33 ex_33 => ?_)
          have gx_33 : x_33.toInt = (v_26 51).toInt := iv_to ex_33
          clear ex_33
          refine lv_if_eq (tgt := 85) hx hb dX11_act_67 (by decide +kernel) (fun c_34 => ?_) (fun c_34 => ?_)
          · have dc_34 := c_eq (a := x_33.toInt) (b := 0) rfl (by decide +kernel) c_34
            refine lv_iconst (v := 0) hx hb dX11_act_85 (by decide +kernel) ?_
            refine lv_istore (lv' := [(4, .int 0), (3, .int r_25), (0, .ref g0), (1, .int x1), (2, .int x2)]) hx hb dX11_act_86 hl (by decide +kernel) rfl (fun ls hl => ?_)
            refine lv_aload_n hx hb dX11_act_88 rfl (lv_at hl 2 rfl) ?_
            refine va_get (D := (dC, dI)) (ci := 11) (v := .int (v_26 46)) (C := RX11) (T := TX11) (N := 63) hx hb hts in_wsX11_act_X11 hown hK hP 0 rfl rfl 46 (by decide +kernel) (hts (.fieldLink RX11 205 "ShipOfficeModel" "taped" "I") iw_X11_act_3) (fun _ h9 => h9) rfl dX11_act_89 ?_
            refine lv_topi (fun x_35 ex_35 => ?_)
            have hx_35 : 0 ≤ x_35.toInt ∧ x_35.toInt ≤ 60 := iv_of ex_35 (hVv_26 46)
            have gx_35 : x_35.toInt = (v_26 46).toInt := iv_to ex_35
            clear ex_35
            refine lv_istore (lv' := [(5, .int x_35), (4, .int 0), (3, .int r_25), (0, .ref g0), (1, .int x1), (2, .int x2)]) hx hb dX11_act_92 hl (by decide +kernel) rfl (fun ls hl => ?_)
            refine lv_aload_n hx hb dX11_act_94 rfl (lv_at hl 3 rfl) ?_
            refine lv_iconst (v := 0) hx hb dX11_act_95 (by decide +kernel) ?_
            refine va_put (D := (dC, dI)) (ci := 11) (v := .int 0) (ty := .int) (C := RX11) (T := TX11) (N := 63) hx hb hts in_wsX11_act_X11 tyX11 tyX11_ok nmX11 hown hK hP hD hS 0 rfl rfl 46 (by decide +kernel) (hts (.fieldLink RX11 205 "ShipOfficeModel" "taped" "I") iw_X11_act_3) (fun _ h9 => h9) rfl (by decide +kernel) rfl rfl (Nat.le_of_ble_eq_true rfl) dX11_act_96 (fun H locs hP hD hS => ?_)
            have hP : va_P (dC, dI) vwCl (mW g0 pq cp (upd v_26 46 0) fa_27) H := hP
            have hD : va_D A (mW g0 pq cp (upd v_26 46 0) fa_27) := hD
            obtain ⟨z_36, ez_36⟩ : ∃ zq, zq = (upd v_26 46 0) := ⟨_, rfl⟩
            rw [← ez_36] at hP hD
            have hVz_36 : mV z_36 := by rw [ez_36]; exact mV_upd (lo := 0) (hi := 60) hVv_26 rfl rfl (by decide +kernel)
            have hRz_36 : mX [0, 16, 17, 18, 19, 42, 45, 46, 47, 48, 49, 50, 51, 52, 53, 54, 55, 56, 57, 58, 59, 60] v fa z_36 fa_27 := by rw [ez_36]; exact mX.up R_32 (by decide +kernel)
            have g_37 : (z_36 38).toInt = (v_26 38).toInt := by rw [ez_36]; exact congrArg Int32.toInt (if_neg (by decide +kernel))
            have g_38 : (z_36 42).toInt = (v_26 42).toInt := by rw [ez_36]; exact congrArg Int32.toInt (if_neg (by decide +kernel))
            have g_39 : (z_36 46).toInt = 0 := by rw [ez_36, show upd v_26 46 0 46 = 0 from if_pos rfl]; decide
            have g_40 : (z_36 47).toInt = (v_26 47).toInt := by rw [ez_36]; exact congrArg Int32.toInt (if_neg (by decide +kernel))
            have g_41 : (z_36 51).toInt = (v_26 51).toInt := by rw [ez_36]; exact congrArg Int32.toInt (if_neg (by decide +kernel))
            refine lv_iload hx hb dX11_act_99 (lv_at hl 1 rfl) ?_
            refine lv_if_ne (tgt := 112) hx hb dX11_act_101 (by decide +kernel) (fun c_42 => absurd c_42 (by decide +kernel)) (fun _ => ?_)
            refine lv_bipush (v := (-20)) hx hb dX11_act_104 (by decide +kernel) ?_
            refine lv_aload_n hx hb dX11_act_106 rfl (lv_at hl 3 rfl) ?_
            refine va_get (D := (dC, dI)) (ci := 11) (v := .int (z_36 47)) (C := RX11) (T := TX11) (N := 63) hx hb hts in_wsX11_act_X11 hown hK hP 0 rfl rfl 47 (by decide +kernel) (hts (.fieldLink RX11 210 "ShipOfficeModel" "at" "I") iw_X11_act_5) (fun _ h9 => h9) rfl dX11_act_107 ?_
            refine lv_topi (fun x_43 ex_43 => ?_)
            have hx_43 : 0 ≤ x_43.toInt ∧ x_43.toInt ≤ 60 := iv_of ex_43 (by omega)
            have gx_43 : x_43.toInt = (z_36 47).toInt := iv_to ex_43
            clear ex_43
            refine lv_isub hx hb dX11_act_110 ?_
            refine lv_topi (fun x_44 ex_44 => ?_)
            have hx_44 : x_44.toInt = (-20) - x_43.toInt := (iv_to ex_44).trans (sb_i (by decide +kernel) rfl (by omega) (by omega))
            clear ex_44
            exact W.iret (v := x_44) hx hb hr (fun t ht hW => ⟨⟨x_44, (z_36, fa_27), rfl, ⟨hVz_36, hAfa_27, hRz_36, ⟨(by unfold gac; dsimp only; have n0 : (v 46).toNatClampNeg = (v 46).toInt.toNat := rfl; refine Or.inr (Or.inr (Or.inr (Or.inl ?_))); omega), fun h => by exfalso; omega, (fun _ k _ => by dsimp only; rw [efhr_28])⟩⟩, ⟨by rw [ht]; exact hP, va_K.moved hW.alike hK, hD⟩⟩, hS.F ht⟩) hS.2.2 dX11_act_111
          · have dc_34 := c_ne (a := x_33.toInt) (b := 0) rfl (by decide +kernel) c_34
            refine lv_aload_n hx hb dX11_act_70 rfl (lv_at hl 1 rfl) ?_
            refine va_get (D := (dC, dI)) (ci := 11) (v := .int (v_26 47)) (C := RX11) (T := TX11) (N := 63) hx hb hts in_wsX11_act_X11 hown hK hP 0 rfl rfl 47 (by decide +kernel) (hts (.fieldLink RX11 210 "ShipOfficeModel" "at" "I") iw_X11_act_5) (fun _ h9 => h9) rfl dX11_act_71 ?_
            refine lv_topi (fun x_45 ex_45 => ?_)
            have hx_45 : 0 ≤ x_45.toInt ∧ x_45.toInt ≤ 60 := iv_of ex_45 (by omega)
            have gx_45 : x_45.toInt = (v_26 47).toInt := iv_to ex_45
            clear ex_45
            refine lv_aload_n hx hb dX11_act_74 rfl (lv_at hl 1 rfl) ?_
            refine va_get (D := (dC, dI)) (ci := 11) (v := .int (v_26 46)) (C := RX11) (T := TX11) (N := 63) hx hb hts in_wsX11_act_X11 hown hK hP 0 rfl rfl 46 (by decide +kernel) (hts (.fieldLink RX11 205 "ShipOfficeModel" "taped" "I") iw_X11_act_3) (fun _ h9 => h9) rfl dX11_act_75 ?_
            refine lv_topi (fun x_46 ex_46 => ?_)
            have hx_46 : 0 ≤ x_46.toInt ∧ x_46.toInt ≤ 60 := iv_of ex_46 (hVv_26 46)
            have gx_46 : x_46.toInt = (v_26 46).toInt := iv_to ex_46
            clear ex_46
            refine lv_icmp_ne (tgt := 85) hx hb dX11_act_78 (by decide +kernel) (fun c_47 => ?_) (fun c_47 => ?_)
            · have dc_47 := c_ne (a := x_45.toInt) (b := x_46.toInt) rfl rfl c_47
              refine lv_iconst (v := 0) hx hb dX11_act_85 (by decide +kernel) ?_
              refine lv_istore (lv' := [(4, .int 0), (3, .int r_25), (0, .ref g0), (1, .int x1), (2, .int x2)]) hx hb dX11_act_86 hl (by decide +kernel) rfl (fun ls hl => ?_)
              refine lv_aload_n hx hb dX11_act_88 rfl (lv_at hl 2 rfl) ?_
              refine va_get (D := (dC, dI)) (ci := 11) (v := .int (v_26 46)) (C := RX11) (T := TX11) (N := 63) hx hb hts in_wsX11_act_X11 hown hK hP 0 rfl rfl 46 (by decide +kernel) (hts (.fieldLink RX11 205 "ShipOfficeModel" "taped" "I") iw_X11_act_3) (fun _ h9 => h9) rfl dX11_act_89 ?_
              refine lv_topi (fun x_48 ex_48 => ?_)
              have hx_48 : 0 ≤ x_48.toInt ∧ x_48.toInt ≤ 60 := iv_of ex_48 (hVv_26 46)
              have gx_48 : x_48.toInt = (v_26 46).toInt := iv_to ex_48
              clear ex_48
              refine lv_istore (lv' := [(5, .int x_48), (4, .int 0), (3, .int r_25), (0, .ref g0), (1, .int x1), (2, .int x2)]) hx hb dX11_act_92 hl (by decide +kernel) rfl (fun ls hl => ?_)
              refine lv_aload_n hx hb dX11_act_94 rfl (lv_at hl 3 rfl) ?_
              refine lv_iconst (v := 0) hx hb dX11_act_95 (by decide +kernel) ?_
              refine va_put (D := (dC, dI)) (ci := 11) (v := .int 0) (ty := .int) (C := RX11) (T := TX11) (N := 63) hx hb hts in_wsX11_act_X11 tyX11 tyX11_ok nmX11 hown hK hP hD hS 0 rfl rfl 46 (by decide +kernel) (hts (.fieldLink RX11 205 "ShipOfficeModel" "taped" "I") iw_X11_act_3) (fun _ h9 => h9) rfl (by decide +kernel) rfl rfl (Nat.le_of_ble_eq_true rfl) dX11_act_96 (fun H locs hP hD hS => ?_)
              have hP : va_P (dC, dI) vwCl (mW g0 pq cp (upd v_26 46 0) fa_27) H := hP
              have hD : va_D A (mW g0 pq cp (upd v_26 46 0) fa_27) := hD
              obtain ⟨z_49, ez_49⟩ : ∃ zq, zq = (upd v_26 46 0) := ⟨_, rfl⟩
              rw [← ez_49] at hP hD
              have hVz_49 : mV z_49 := by rw [ez_49]; exact mV_upd (lo := 0) (hi := 60) hVv_26 rfl rfl (by decide +kernel)
              have hRz_49 : mX [0, 16, 17, 18, 19, 42, 45, 46, 47, 48, 49, 50, 51, 52, 53, 54, 55, 56, 57, 58, 59, 60] v fa z_49 fa_27 := by rw [ez_49]; exact mX.up R_32 (by decide +kernel)
              have g_50 : (z_49 38).toInt = (v_26 38).toInt := by rw [ez_49]; exact congrArg Int32.toInt (if_neg (by decide +kernel))
              have g_51 : (z_49 42).toInt = (v_26 42).toInt := by rw [ez_49]; exact congrArg Int32.toInt (if_neg (by decide +kernel))
              have g_52 : (z_49 46).toInt = 0 := by rw [ez_49, show upd v_26 46 0 46 = 0 from if_pos rfl]; decide
              have g_53 : (z_49 47).toInt = (v_26 47).toInt := by rw [ez_49]; exact congrArg Int32.toInt (if_neg (by decide +kernel))
              have g_54 : (z_49 51).toInt = (v_26 51).toInt := by rw [ez_49]; exact congrArg Int32.toInt (if_neg (by decide +kernel))
              refine lv_iload hx hb dX11_act_99 (lv_at hl 1 rfl) ?_
              refine lv_if_ne (tgt := 112) hx hb dX11_act_101 (by decide +kernel) (fun c_55 => absurd c_55 (by decide +kernel)) (fun _ => ?_)
              refine lv_bipush (v := (-20)) hx hb dX11_act_104 (by decide +kernel) ?_
              refine lv_aload_n hx hb dX11_act_106 rfl (lv_at hl 3 rfl) ?_
              refine va_get (D := (dC, dI)) (ci := 11) (v := .int (z_49 47)) (C := RX11) (T := TX11) (N := 63) hx hb hts in_wsX11_act_X11 hown hK hP 0 rfl rfl 47 (by decide +kernel) (hts (.fieldLink RX11 210 "ShipOfficeModel" "at" "I") iw_X11_act_5) (fun _ h9 => h9) rfl dX11_act_107 ?_
              refine lv_topi (fun x_56 ex_56 => ?_)
              have hx_56 : 0 ≤ x_56.toInt ∧ x_56.toInt ≤ 60 := iv_of ex_56 (by omega)
              have gx_56 : x_56.toInt = (z_49 47).toInt := iv_to ex_56
              clear ex_56
              refine lv_isub hx hb dX11_act_110 ?_
              refine lv_topi (fun x_57 ex_57 => ?_)
              have hx_57 : x_57.toInt = (-20) - x_56.toInt := (iv_to ex_57).trans (sb_i (by decide +kernel) rfl (by omega) (by omega))
              clear ex_57
              exact W.iret (v := x_57) hx hb hr (fun t ht hW => ⟨⟨x_57, (z_49, fa_27), rfl, ⟨hVz_49, hAfa_27, hRz_49, ⟨(by unfold gac; dsimp only; have n0 : (v 46).toNatClampNeg = (v 46).toInt.toNat := rfl; refine Or.inr (Or.inr (Or.inr (Or.inl ?_))); omega), fun h => by exfalso; omega, (fun _ k _ => by dsimp only; rw [efhr_28])⟩⟩, ⟨by rw [ht]; exact hP, va_K.moved hW.alike hK, hD⟩⟩, hS.F ht⟩) hS.2.2 dX11_act_111
            · have dc_47 := c_eq (a := x_45.toInt) (b := x_46.toInt) rfl rfl c_47
              refine lv_iconst (v := 1) hx hb dX11_act_81 (by decide +kernel) ?_
              refine lv_goto (tgt := 86) hx hb dX11_act_82 (by decide +kernel) ?_
              refine lv_istore (lv' := [(4, .int 1), (3, .int r_25), (0, .ref g0), (1, .int x1), (2, .int x2)]) hx hb dX11_act_86 hl (by decide +kernel) rfl (fun ls hl => ?_)
              refine lv_aload_n hx hb dX11_act_88 rfl (lv_at hl 2 rfl) ?_
              refine va_get (D := (dC, dI)) (ci := 11) (v := .int (v_26 46)) (C := RX11) (T := TX11) (N := 63) hx hb hts in_wsX11_act_X11 hown hK hP 0 rfl rfl 46 (by decide +kernel) (hts (.fieldLink RX11 205 "ShipOfficeModel" "taped" "I") iw_X11_act_3) (fun _ h9 => h9) rfl dX11_act_89 ?_
              refine lv_topi (fun x_58 ex_58 => ?_)
              have hx_58 : 0 ≤ x_58.toInt ∧ x_58.toInt ≤ 60 := iv_of ex_58 (hVv_26 46)
              have gx_58 : x_58.toInt = (v_26 46).toInt := iv_to ex_58
              clear ex_58
              refine lv_istore (lv' := [(5, .int x_58), (4, .int 1), (3, .int r_25), (0, .ref g0), (1, .int x1), (2, .int x2)]) hx hb dX11_act_92 hl (by decide +kernel) rfl (fun ls hl => ?_)
              refine lv_aload_n hx hb dX11_act_94 rfl (lv_at hl 3 rfl) ?_
              refine lv_iconst (v := 0) hx hb dX11_act_95 (by decide +kernel) ?_
              refine va_put (D := (dC, dI)) (ci := 11) (v := .int 0) (ty := .int) (C := RX11) (T := TX11) (N := 63) hx hb hts in_wsX11_act_X11 tyX11 tyX11_ok nmX11 hown hK hP hD hS 0 rfl rfl 46 (by decide +kernel) (hts (.fieldLink RX11 205 "ShipOfficeModel" "taped" "I") iw_X11_act_3) (fun _ h9 => h9) rfl (by decide +kernel) rfl rfl (Nat.le_of_ble_eq_true rfl) dX11_act_96 (fun H locs hP hD hS => ?_)
              have hP : va_P (dC, dI) vwCl (mW g0 pq cp (upd v_26 46 0) fa_27) H := hP
              have hD : va_D A (mW g0 pq cp (upd v_26 46 0) fa_27) := hD
              obtain ⟨z_59, ez_59⟩ : ∃ zq, zq = (upd v_26 46 0) := ⟨_, rfl⟩
              rw [← ez_59] at hP hD
              have hVz_59 : mV z_59 := by rw [ez_59]; exact mV_upd (lo := 0) (hi := 60) hVv_26 rfl rfl (by decide +kernel)
              have hRz_59 : mX [0, 16, 17, 18, 19, 42, 45, 46, 47, 48, 49, 50, 51, 52, 53, 54, 55, 56, 57, 58, 59, 60] v fa z_59 fa_27 := by rw [ez_59]; exact mX.up R_32 (by decide +kernel)
              have g_60 : (z_59 38).toInt = (v_26 38).toInt := by rw [ez_59]; exact congrArg Int32.toInt (if_neg (by decide +kernel))
              have g_61 : (z_59 42).toInt = (v_26 42).toInt := by rw [ez_59]; exact congrArg Int32.toInt (if_neg (by decide +kernel))
              have g_62 : (z_59 46).toInt = 0 := by rw [ez_59, show upd v_26 46 0 46 = 0 from if_pos rfl]; decide
              have g_63 : (z_59 47).toInt = (v_26 47).toInt := by rw [ez_59]; exact congrArg Int32.toInt (if_neg (by decide +kernel))
              have g_64 : (z_59 51).toInt = (v_26 51).toInt := by rw [ez_59]; exact congrArg Int32.toInt (if_neg (by decide +kernel))
              refine lv_iload hx hb dX11_act_99 (lv_at hl 1 rfl) ?_
              refine lv_if_ne (tgt := 112) hx hb dX11_act_101 (by decide +kernel) (fun _ => ?_) (fun c_65 => absurd c_65 (by decide +kernel))
              refine lv_iconst (v := 0) hx hb dX11_act_112 (by decide +kernel) ?_
              refine lv_istore (lv' := [(6, .int 0), (5, .int x_58), (4, .int 1), (3, .int r_25), (0, .ref g0), (1, .int x1), (2, .int x2)]) hx hb dX11_act_113 hl (by decide +kernel) rfl (fun ls hl => ?_)
              have cut_66 : ∀ (n : Nat) (y_67 : Int32) (z_68 : Nat → Int32) (fz_69 : Nat → Nat → Int32) (H : Heap) (locs : List Loc) (ls : Array Slot), 60 - y_67.toInt ≤ (n : Int) → (0 ≤ y_67.toInt ∧ y_67.toInt ≤ 60) → txI fa fz_69 (v 42).toNatClampNeg y_67.toNatClampNeg → smT fa fz_69 → y_67.toInt ≤ (v 46).toInt → mV z_68 → mA fz_69 → mX [0, 16, 17, 18, 19, 42, 45, 46, 47, 48, 49, 50, 51, 52, 53, 54, 55, 56, 57, 58, 59, 60] v fa z_68 fz_69 → va_P (dC, dI) vwCl (mW g0 pq cp z_68 fz_69) H → va_D A (mW g0 pq cp z_68 fz_69) → va_S A s.heap H locs → (z_68 38).toInt = (z_59 38).toInt → (z_68 42).toInt = (z_59 42).toInt → (z_68 46).toInt = (z_59 46).toInt → (z_68 47).toInt = (z_59 47).toInt → (z_68 51).toInt = (z_59 51).toInt → lv_has ls 7 [(6, .int y_67), (5, .int x_58), (4, .int 1), (3, .int r_25), (0, .ref g0), (1, .int x1), (2, .int x2)] → W p l e (headSpec wsX11_act { frames := 20, cells := 0, slots := 0, locals := 463 }).room s m #[Value.ref g0, Value.int x1, Value.int x2] below meth c H locs 0 0 (MQ below (va_Qi (fun (r : Int32) (u : (Nat → Int32) × (Nat → Nat → Int32)) => mV u.1 ∧ mA u.2 ∧ mX [0, 16, 17, 18, 19, 42, 45, 46, 47, 48, 49, 50, 51, 52, 53, 54, 55, 56, 57, 58, 59, 60] v fa u.1 u.2 ∧ (gac (v 38).toInt (v 42).toInt (v 46).toInt x1.toInt x2.toInt ((mvS (mL fa) (cI (fa 44) (v 46).toNatClampNeg) 5 0).1 : Int) (bI (mvS (mL fa) (cI (fa 44) (v 46).toNatClampNeg) 5 0).2.1) r.toInt (u.1 42).toInt (u.1 46).toInt ∧ (1 ≤ r.toInt → acM v fa x1 x2 u) ∧ (r.toInt < 1 → ∀ k ∈ [19, 16, 17, 18], u.2 k = fa k))) (fun u t => va_P (dC, dI) vwCl (mW g0 pq cp u.1 u.2) t.heap ∧ va_K (dC, dI) vwCl (mT cp) t ∧ va_D A (mW g0 pq cp u.1 u.2)) A) #[Value.ref g0, Value.int x1, Value.int x2] s 0 0 A) (F0 m 115 ls []) := by
                intro n
                induction n using Nat.strongRecOn with
                | ind n ih =>
                  intro y_67 z_68 fz_69 H locs ls hm hy_67 hq0_cut_66 hq1_cut_66 hq2_cut_66 hVz_68 hAz_68 hRz_68 hP hD hS g_70 g_71 g_72 g_73 g_74 hl
                  refine lv_iload hx hb dX11_act_115 (lv_at hl 0 rfl) ?_
                  refine lv_iload hx hb dX11_act_117 (lv_at hl 1 rfl) ?_
                  refine lv_icmp_ge (tgt := 150) hx hb dX11_act_119 (by decide +kernel) (fun c_75 => ?_) (fun c_75 => ?_)
                  · have dc_75 := c_le (a := x_58.toInt) (b := y_67.toInt) rfl rfl c_75
                    refine lv_aload_n hx hb dX11_act_150 rfl (lv_at hl 4 rfl) ?_
                    refine va_get (D := (dC, dI)) (ci := 11) (v := .ref (pq 16)) (C := RX11) (T := TX11) (N := 63) hx hb hts in_wsX11_act_X11 hown hK hP 0 rfl rfl 16 (by decide +kernel) (hts (.fieldLink RX11 58 "ShipOfficeModel" "textSize" "[I") iw_X11_act_6) (fun _ h9 => h9) rfl dX11_act_151 ?_
                    refine lv_aload_n hx hb dX11_act_154 rfl (lv_at hl 4 rfl) ?_
                    refine va_get (D := (dC, dI)) (ci := 11) (v := .int (z_68 42)) (C := RX11) (T := TX11) (N := 63) hx hb hts in_wsX11_act_X11 hown hK hP 0 rfl rfl 42 (by decide +kernel) (hts (.fieldLink RX11 256 "ShipOfficeModel" "acts" "I") iw_X11_act_2) (fun _ h9 => h9) rfl dX11_act_155 ?_
                    refine lv_topi (fun x_76 ex_76 => ?_)
                    have hx_76 : 0 ≤ x_76.toInt ∧ x_76.toInt ≤ 30 := iv_of ex_76 (hVz_68 42)
                    have gx_76 : x_76.toInt = (z_68 42).toInt := iv_to ex_76
                    clear ex_76
                    refine lv_iload hx hb dX11_act_158 (lv_at hl 1 rfl) ?_
                    refine va_iast hx hb hK hP hD hS 17 16 rfl rfl (vp_in_iff.mpr (by omega)) dX11_act_160 (fun H locs hP hD hS => ?_)
                    have hP : va_P (dC, dI) vwCl (mW g0 pq cp z_68 (upF fz_69 16 (x_76 : Int32).toNatClampNeg x_58)) H := hP
                    have hD : va_D A (mW g0 pq cp z_68 (upF fz_69 16 (x_76 : Int32).toNatClampNeg x_58)) := hD
                    obtain ⟨fz_77, efz_77⟩ : ∃ zq, zq = (upF fz_69 16 (x_76 : Int32).toNatClampNeg x_58) := ⟨_, rfl⟩
                    rw [← efz_77] at hP hD
                    have hAfz_77 : mA fz_77 := by rw [efz_77]; exact mA_upF (lo := 0) (hi := 60) hAz_68 rfl rfl (by omega)
                    have hRfz_77 : mX [0, 16, 17, 18, 19, 42, 45, 46, 47, 48, 49, 50, 51, 52, 53, 54, 55, 56, 57, 58, 59, 60] v fa z_68 fz_77 := by rw [efz_77]; exact mX.uF hRz_68 (by decide +kernel)
                    refine lv_aload_n hx hb dX11_act_161 rfl (lv_at hl 4 rfl) ?_
                    refine va_get (D := (dC, dI)) (ci := 11) (v := .ref (pq 17)) (C := RX11) (T := TX11) (N := 63) hx hb hts in_wsX11_act_X11 hown hK hP 0 rfl rfl 17 (by decide +kernel) (hts (.fieldLink RX11 61 "ShipOfficeModel" "purpose" "[I") iw_X11_act_7) (fun _ h9 => h9) rfl dX11_act_162 ?_
                    refine lv_aload_n hx hb dX11_act_165 rfl (lv_at hl 4 rfl) ?_
                    refine va_get (D := (dC, dI)) (ci := 11) (v := .int (z_68 42)) (C := RX11) (T := TX11) (N := 63) hx hb hts in_wsX11_act_X11 hown hK hP 0 rfl rfl 42 (by decide +kernel) (hts (.fieldLink RX11 256 "ShipOfficeModel" "acts" "I") iw_X11_act_2) (fun _ h9 => h9) rfl dX11_act_166 ?_
                    refine lv_topi (fun x_78 ex_78 => ?_)
                    have hx_78 : 0 ≤ x_78.toInt ∧ x_78.toInt ≤ 30 := iv_of ex_78 (hVz_68 42)
                    have gx_78 : x_78.toInt = (z_68 42).toInt := iv_to ex_78
                    clear ex_78
                    refine lv_iload_n hx hb dX11_act_169 rfl (lv_at hl 5 rfl) ?_
                    refine va_iast hx hb hK hP hD hS 18 17 rfl rfl (vp_in_iff.mpr (by omega)) dX11_act_170 (fun H locs hP hD hS => ?_)
                    have hP : va_P (dC, dI) vwCl (mW g0 pq cp z_68 (upF fz_77 17 (x_78 : Int32).toNatClampNeg x1)) H := hP
                    have hD : va_D A (mW g0 pq cp z_68 (upF fz_77 17 (x_78 : Int32).toNatClampNeg x1)) := hD
                    obtain ⟨fz_79, efz_79⟩ : ∃ zq, zq = (upF fz_77 17 (x_78 : Int32).toNatClampNeg x1) := ⟨_, rfl⟩
                    rw [← efz_79] at hP hD
                    have hAfz_79 : mA fz_79 := by rw [efz_79]; exact mA_upF (lo := -2147483648) (hi := 2147483647) hAfz_77 rfl rfl (iv_all _)
                    have hRfz_79 : mX [0, 16, 17, 18, 19, 42, 45, 46, 47, 48, 49, 50, 51, 52, 53, 54, 55, 56, 57, 58, 59, 60] v fa z_68 fz_79 := by rw [efz_79]; exact mX.uF hRfz_77 (by decide +kernel)
                    refine lv_aload_n hx hb dX11_act_171 rfl (lv_at hl 4 rfl) ?_
                    refine va_get (D := (dC, dI)) (ci := 11) (v := .ref (pq 18)) (C := RX11) (T := TX11) (N := 63) hx hb hts in_wsX11_act_X11 hown hK hP 0 rfl rfl 18 (by decide +kernel) (hts (.fieldLink RX11 64 "ShipOfficeModel" "from" "[I") iw_X11_act_8) (fun _ h9 => h9) rfl dX11_act_172 ?_
                    refine lv_aload_n hx hb dX11_act_175 rfl (lv_at hl 4 rfl) ?_
                    refine va_get (D := (dC, dI)) (ci := 11) (v := .int (z_68 42)) (C := RX11) (T := TX11) (N := 63) hx hb hts in_wsX11_act_X11 hown hK hP 0 rfl rfl 42 (by decide +kernel) (hts (.fieldLink RX11 256 "ShipOfficeModel" "acts" "I") iw_X11_act_2) (fun _ h9 => h9) rfl dX11_act_176 ?_
                    refine lv_topi (fun x_80 ex_80 => ?_)
                    have hx_80 : 0 ≤ x_80.toInt ∧ x_80.toInt ≤ 30 := iv_of ex_80 (hVz_68 42)
                    have gx_80 : x_80.toInt = (z_68 42).toInt := iv_to ex_80
                    clear ex_80
                    refine lv_iload_n hx hb dX11_act_179 rfl (lv_at hl 6 rfl) ?_
                    refine va_iast hx hb hK hP hD hS 19 18 rfl rfl (vp_in_iff.mpr (by omega)) dX11_act_180 (fun H locs hP hD hS => ?_)
                    have hP : va_P (dC, dI) vwCl (mW g0 pq cp z_68 (upF fz_79 18 (x_80 : Int32).toNatClampNeg x2)) H := hP
                    have hD : va_D A (mW g0 pq cp z_68 (upF fz_79 18 (x_80 : Int32).toNatClampNeg x2)) := hD
                    obtain ⟨fz_81, efz_81⟩ : ∃ zq, zq = (upF fz_79 18 (x_80 : Int32).toNatClampNeg x2) := ⟨_, rfl⟩
                    rw [← efz_81] at hP hD
                    have hAfz_81 : mA fz_81 := by rw [efz_81]; exact mA_upF (lo := -2147483648) (hi := 2147483647) hAfz_79 rfl rfl (iv_all _)
                    have hRfz_81 : mX [0, 16, 17, 18, 19, 42, 45, 46, 47, 48, 49, 50, 51, 52, 53, 54, 55, 56, 57, 58, 59, 60] v fa z_68 fz_81 := by rw [efz_81]; exact mX.uF hRfz_79 (by decide +kernel)
                    refine lv_aload_n hx hb dX11_act_181 rfl (lv_at hl 4 rfl) ?_
                    refine lv_dup hx hb dX11_act_182 rfl ?_
                    refine va_get (D := (dC, dI)) (ci := 11) (v := .int (z_68 42)) (C := RX11) (T := TX11) (N := 63) hx hb hts in_wsX11_act_X11 hown hK hP 0 rfl rfl 42 (by decide +kernel) (hts (.fieldLink RX11 256 "ShipOfficeModel" "acts" "I") iw_X11_act_2) (fun _ h9 => h9) rfl dX11_act_183 ?_
                    refine lv_topi (fun x_82 ex_82 => ?_)
                    have hx_82 : 0 ≤ x_82.toInt ∧ x_82.toInt ≤ 30 := iv_of ex_82 (hVz_68 42)
                    have gx_82 : x_82.toInt = (z_68 42).toInt := iv_to ex_82
                    clear ex_82
                    refine lv_iconst (v := 1) hx hb dX11_act_186 (by decide +kernel) ?_
                    refine lv_iadd hx hb dX11_act_187 ?_
                    refine lv_topi (fun x_83 ex_83 => ?_)
                    have hx_83 : x_83.toInt = x_82.toInt + 1 := (iv_to ex_83).trans (ad_i rfl (by decide +kernel) (by omega) (by omega))
                    clear ex_83
                    refine va_put (D := (dC, dI)) (ci := 11) (v := .int x_83) (ty := .int) (C := RX11) (T := TX11) (N := 63) hx hb hts in_wsX11_act_X11 tyX11 tyX11_ok nmX11 hown hK hP hD hS 0 rfl rfl 42 (by decide +kernel) (hts (.fieldLink RX11 256 "ShipOfficeModel" "acts" "I") iw_X11_act_2) (fun _ h9 => h9) rfl (by decide +kernel) rfl rfl (Nat.le_of_ble_eq_true rfl) dX11_act_188 (fun H locs hP hD hS => ?_)
                    have hP : va_P (dC, dI) vwCl (mW g0 pq cp (upd z_68 42 x_83) fz_81) H := hP
                    have hD : va_D A (mW g0 pq cp (upd z_68 42 x_83) fz_81) := hD
                    obtain ⟨z_84, ez_84⟩ : ∃ zq, zq = (upd z_68 42 x_83) := ⟨_, rfl⟩
                    rw [← ez_84] at hP hD
                    have hVz_84 : mV z_84 := by rw [ez_84]; exact mV_upd (lo := 0) (hi := 30) hVz_68 rfl rfl (by omega)
                    have hRz_84 : mX [0, 16, 17, 18, 19, 42, 45, 46, 47, 48, 49, 50, 51, 52, 53, 54, 55, 56, 57, 58, 59, 60] v fa z_84 fz_81 := by rw [ez_84]; exact mX.up hRfz_81 (by decide +kernel)
                    have g_85 : (z_84 38).toInt = (z_68 38).toInt := by rw [ez_84]; exact congrArg Int32.toInt (if_neg (by decide +kernel))
                    have g_86 : (z_84 42).toInt = x_83.toInt := by rw [ez_84, show upd z_68 42 x_83 42 = x_83 from if_pos rfl]
                    have g_87 : (z_84 46).toInt = (z_68 46).toInt := by rw [ez_84]; exact congrArg Int32.toInt (if_neg (by decide +kernel))
                    have g_88 : (z_84 47).toInt = (z_68 47).toInt := by rw [ez_84]; exact congrArg Int32.toInt (if_neg (by decide +kernel))
                    have g_89 : (z_84 51).toInt = (z_68 51).toInt := by rw [ez_84]; exact congrArg Int32.toInt (if_neg (by decide +kernel))
                    refine lv_aload_n hx hb dX11_act_191 rfl (lv_at hl 4 rfl) ?_
                    refine va_get (D := (dC, dI)) (ci := 11) (v := .int (z_84 42)) (C := RX11) (T := TX11) (N := 63) hx hb hts in_wsX11_act_X11 hown hK hP 0 rfl rfl 42 (by decide +kernel) (hts (.fieldLink RX11 256 "ShipOfficeModel" "acts" "I") iw_X11_act_2) (fun _ h9 => h9) rfl dX11_act_192 ?_
                    refine lv_topi (fun x_90 ex_90 => ?_)
                    have hx_90 : 0 ≤ x_90.toInt ∧ x_90.toInt ≤ 30 := iv_of ex_90 (hVz_84 42)
                    have gx_90 : x_90.toInt = (z_84 42).toInt := iv_to ex_90
                    clear ex_90
                    exact W.iret (v := x_90) hx hb hr (fun t ht hW => ⟨⟨x_90, (z_84, fz_81), rfl, ⟨hVz_84, hAfz_81, hRz_84, ⟨(by unfold gac; dsimp only; have n0 : (v 46).toNatClampNeg = (v 46).toInt.toNat := rfl; refine Or.inr (Or.inr (Or.inr (Or.inr ?_))); omega), fun _ => ⟨(by dsimp only; rw [efz_81, efz_79, efz_77, show x_76 = v 42 from Int32.toInt_inj.mp (by omega), show x_58 = v 46 from Int32.toInt_inj.mp (by omega)]; exact congrArg (fun f => upd f _ _) hq1_cut_66.1), (by dsimp only; rw [efz_81, efz_79, efz_77, show x_78 = v 42 from Int32.toInt_inj.mp (by omega)]; exact congrArg (fun f => upd f _ _) hq1_cut_66.2.1), (by dsimp only; rw [efz_81, efz_79, efz_77, show x_80 = v 42 from Int32.toInt_inj.mp (by omega)]; exact congrArg (fun f => upd f _ _) hq1_cut_66.2.2.1), (by dsimp only; have g := hq0_cut_66; rw [show y_67.toNatClampNeg = (v 46).toNatClampNeg from (show y_67.toInt.toNat = (v 46).toInt.toNat by omega)] at g; rw [efz_81, efz_79, efz_77]; exact g)⟩, fun h => by exfalso; omega⟩⟩, ⟨by rw [ht]; exact hP, va_K.moved hW.alike hK, hD⟩⟩, hS.F ht⟩) hS.2.2 dX11_act_195
                  · have dc_75 := c_nle (a := x_58.toInt) (b := y_67.toInt) rfl rfl c_75
                    refine lv_aload_n hx hb dX11_act_122 rfl (lv_at hl 4 rfl) ?_
                    refine va_get (D := (dC, dI)) (ci := 11) (v := .ref (pq 19)) (C := RX11) (T := TX11) (N := 63) hx hb hts in_wsX11_act_X11 hown hK hP 0 rfl rfl 19 (by decide +kernel) (hts (.fieldLink RX11 67 "ShipOfficeModel" "text" "[I") iw_X11_act_9) (fun _ h9 => h9) rfl dX11_act_123 ?_
                    refine lv_bipush (v := 60) hx hb dX11_act_126 (by decide +kernel) ?_
                    refine lv_aload_n hx hb dX11_act_128 rfl (lv_at hl 4 rfl) ?_
                    refine va_get (D := (dC, dI)) (ci := 11) (v := .int (z_68 42)) (C := RX11) (T := TX11) (N := 63) hx hb hts in_wsX11_act_X11 hown hK hP 0 rfl rfl 42 (by decide +kernel) (hts (.fieldLink RX11 256 "ShipOfficeModel" "acts" "I") iw_X11_act_2) (fun _ h9 => h9) rfl dX11_act_129 ?_
                    refine lv_topi (fun x_91 ex_91 => ?_)
                    have hx_91 : 0 ≤ x_91.toInt ∧ x_91.toInt ≤ 30 := iv_of ex_91 (hVz_68 42)
                    have gx_91 : x_91.toInt = (z_68 42).toInt := iv_to ex_91
                    clear ex_91
                    refine lv_imul hx hb dX11_act_132 ?_
                    refine lv_topi (fun x_92 ex_92 => ?_)
                    have hx_92 : x_92.toInt = 60 * x_91.toInt := (iv_to ex_92).trans (mu_i (by decide +kernel) rfl (by omega) (by omega))
                    clear ex_92
                    refine lv_iload hx hb dX11_act_133 (lv_at hl 0 rfl) ?_
                    refine lv_iadd hx hb dX11_act_135 ?_
                    refine lv_topi (fun x_93 ex_93 => ?_)
                    have hx_93 : x_93.toInt = x_92.toInt + y_67.toInt := (iv_to ex_93).trans (ad_i rfl rfl (by omega) (by omega))
                    clear ex_93
                    refine lv_aload_n hx hb dX11_act_136 rfl (lv_at hl 4 rfl) ?_
                    refine va_get (D := (dC, dI)) (ci := 11) (v := .ref (pq 44)) (C := RX11) (T := TX11) (N := 63) hx hb hts in_wsX11_act_X11 hown hK hP 0 rfl rfl 44 (by decide +kernel) (hts (.fieldLink RX11 125 "ShipOfficeModel" "tape" "[I") iw_X11_act_10) (fun _ h9 => h9) rfl dX11_act_137 ?_
                    refine lv_iload hx hb dX11_act_140 (lv_at hl 0 rfl) ?_
                    refine va_iald hx hb hK hP 39 38 rfl rfl (vp_in_iff.mpr (by omega)) dX11_act_142 ?_
                    refine lv_topi (fun x_94 ex_94 => ?_)
                    have gx_94 : x_94.toInt = (fz_69 44 (y_67 : Int32).toNatClampNeg).toInt := iv_to ex_94
                    clear ex_94
                    refine va_iast hx hb hK hP hD hS 20 19 rfl rfl (vp_in_iff.mpr (by omega)) dX11_act_143 (fun H locs hP hD hS => ?_)
                    have hP : va_P (dC, dI) vwCl (mW g0 pq cp z_68 (upF fz_69 19 (x_93 : Int32).toNatClampNeg x_94)) H := hP
                    have hD : va_D A (mW g0 pq cp z_68 (upF fz_69 19 (x_93 : Int32).toNatClampNeg x_94)) := hD
                    obtain ⟨fz_95, efz_95⟩ : ∃ zq, zq = (upF fz_69 19 (x_93 : Int32).toNatClampNeg x_94) := ⟨_, rfl⟩
                    rw [← efz_95] at hP hD
                    have hAfz_95 : mA fz_95 := by rw [efz_95]; exact mA_upF (lo := -2147483648) (hi := 2147483647) hAz_68 rfl rfl (iv_all _)
                    have hRfz_95 : mX [0, 16, 17, 18, 19, 42, 45, 46, 47, 48, 49, 50, 51, 52, 53, 54, 55, 56, 57, 58, 59, 60] v fa z_68 fz_95 := by rw [efz_95]; exact mX.uF hRz_68 (by decide +kernel)
                    have g_96 : (fz_95 44 (y_67 : Int32).toNatClampNeg).toInt = (fz_69 44 (y_67 : Int32).toNatClampNeg).toInt := by rw [efz_95]; exact uF_ne (by decide +kernel)
                    obtain ⟨x_97, ex_97⟩ : ∃ zq : Int32, y_67 + 1 = zq := ⟨_, rfl⟩
                    have hx_97 : x_97.toInt = y_67.toInt + 1 := (iv_to ex_97).symm.trans (ad_i rfl (by decide +kernel) (by omega) (by omega))
                    refine lv_iinc (v := x_97) (lv' := [(6, .int x_97), (5, .int x_58), (4, .int 1), (3, .int r_25), (0, .ref g0), (1, .int x1), (2, .int x2)]) hx hb dX11_act_144 hl (k := 0) rfl ex_97 (by decide +kernel) rfl (fun ls hl => ?_)
                    clear ex_97
                    refine lv_goto (tgt := 115) hx hb dX11_act_147 (by decide +kernel) ?_
                    exact ih (n - 1) (by omega) x_97 z_68 fz_95 _ _ ls (by omega) (by omega) (txI_s hq0_cut_66 (by rw [efz_95]; exact if_pos rfl) (by have n5 := tn_i (x := v 42) (by omega); omega) ((Int32.toInt_inj.mp gx_94).trans (congrFun hq1_cut_66.2.2.2 _)) (by omega) (by omega)) (smT_s hq1_cut_66 efz_95) (by omega) hVz_68 hAfz_95 hRfz_95 hP hD hS (by omega) (by omega) (by omega) (by omega) (by omega) (lv_sub hl [0, 1, 2, 3, 4, 5, 6] rfl)
              have kc_98 : (0 : Int32).toInt = 0 := by decide
              exact cut_66 61 0 z_59 fa_27 _ _ ls (by omega) (by decide +kernel) (txI_0 efhr_28 (by decide +kernel)) (by rw [efhr_28]; exact ⟨rfl, rfl, rfl, rfl⟩) (by have rc : (0 : Int32).toInt = 0 := (by decide +kernel); omega) hVz_59 hAfa_27 hRz_59 hP hD hS (by omega) (by omega) (by omega) (by omega) (by omega) (lv_sub hl [0, 1, 2, 3, 4, 5, 6] rfl)
        · have dc_22 := c_eq (a := x_21.toInt) (b := 30) rfl (by decide +kernel) c_22
          refine lv_aload_n hx hb dX11_act_46 rfl (lv_at hl 0 rfl) ?_
          refine lv_bipush (v := (-6)) hx hb dX11_act_47 (by decide +kernel) ?_
          have hFc := va_free (wc := (mW g0 pq cp v fa)) hD hS hA (List.range 48) rfl
          refine va_calli (va_runV (As := [.int (-6)]) (rest := []) ⟨hx, hb, hml, hown, hts⟩ (c_X11_refuse_f l dC dI H.size g0 pq cp v fa (-6) (by unfold vp_in; decide)) (cwV 1 hts gX11_act_X11_refuse rfl rfl rfl (by decide +kernel) ⟨(Nat.le_of_ble_eq_true rfl), (Nat.le_of_ble_eq_true rfl)⟩) (pr_V (r := (RX11, TX11, 63)) hP hK hD 0 11 rfl rfl) rfl rfl hl.1 rfl (lv_room (Nat.le_of_ble_eq_true rfl)) dX11_act_49 ⟨(Nat.le_of_ble_eq_true rfl), (Nat.le_of_ble_eq_true rfl)⟩) hS (fun q _ h => hFc q h) hFc (fun r_100 u t H locs ht hvm w_99 hB hz1 hk1 hS => ?_)
          obtain ⟨v_101, fa_102⟩ := u
          obtain ⟨hP1, hK1, hD1⟩ := hB
          rw [ht] at hP1
          have hP : va_P (dC, dI) vwCl (mW g0 pq cp v_101 fa_102) H := hP1
          have hD : va_D A (mW g0 pq cp v_101 fa_102) := hD1.weaken (fun _ _ _ h => hFc _ h)
          clear hP1 hK1 hD1 hk1 hz1 hvm ht hFc
          obtain ⟨rfl, hs1_103⟩ := w_99
          have hVv_101 : mV v_101 := sm0_V (sm1_0 hs1_103) gV
          have hAv_101 : mA fa_102 := sm0_A (sm1_0 hs1_103) gA
          have g_104 : (v_101 38).toInt = (v 38).toInt := congrArg Int32.toInt (congrFun hs1_103.1 38)
          have g_105 : (v_101 42).toInt = (v 42).toInt := congrArg Int32.toInt (congrFun hs1_103.1 42)
          have g_106 : (v_101 46).toInt = (v 46).toInt := congrArg Int32.toInt (congrFun hs1_103.1 46)
          have g_107 : (v_101 47).toInt = (v 47).toInt := congrArg Int32.toInt (congrFun hs1_103.1 47)
          have g_108 : (v_101 51).toInt = (v 51).toInt := congrArg Int32.toInt (congrFun hs1_103.1 51)
          have hRv_101 : mX [0, 16, 17, 18, 19, 42, 45, 46, 47, 48, 49, 50, 51, 52, 53, 54, 55, 56, 57, 58, 59, 60] v fa v_101 fa_102 := mX.st mX.rf (mX.s0 (sm1_0 hs1_103)) (by decide +kernel)
          exact W.iret (v := (-6)) hx hb hr (fun t ht hW => ⟨⟨(-6), (v_101, fa_102), rfl, ⟨hVv_101, hAv_101, hRv_101, ⟨(by unfold gac; dsimp only; have n0 : (v 46).toNatClampNeg = (v 46).toInt.toNat := rfl; have h0 : ((-6) : Int32).toInt = -6 := (by decide +kernel); refine Or.inr (Or.inr (Or.inl ?_)); omega), fun h => by have h0 : ((-6) : Int32).toInt = -6 := (by decide +kernel); exfalso; omega, (fun _ k hk => (sm1_0 hs1_103).2 k (by revert k; decide))⟩⟩, ⟨by rw [ht]; exact hP, va_K.moved hW.alike hK, hD⟩⟩, hS.F ht⟩) hS.2.2 dX11_act_52
    · have dc_9 := c_nle (a := x_8.toInt) (b := x2.toInt) rfl rfl c_9
      refine lv_aload_n hx hb dX11_act_23 rfl (lv_at hl 0 rfl) ?_
      refine lv_bipush (v := (-4)) hx hb dX11_act_24 (by decide +kernel) ?_
      have hFc := va_free (wc := (mW g0 pq cp v fa)) hD hS hA (List.range 48) rfl
      refine va_calli (va_runV (As := [.int (-4)]) (rest := []) ⟨hx, hb, hml, hown, hts⟩ (c_X11_refuse_f l dC dI H.size g0 pq cp v fa (-4) (by unfold vp_in; decide)) (cwV 1 hts gX11_act_X11_refuse rfl rfl rfl (by decide +kernel) ⟨(Nat.le_of_ble_eq_true rfl), (Nat.le_of_ble_eq_true rfl)⟩) (pr_V (r := (RX11, TX11, 63)) hP hK hD 0 11 rfl rfl) rfl rfl hl.1 rfl (lv_room (Nat.le_of_ble_eq_true rfl)) dX11_act_26 ⟨(Nat.le_of_ble_eq_true rfl), (Nat.le_of_ble_eq_true rfl)⟩) hS (fun q _ h => hFc q h) hFc (fun r_110 u t H locs ht hvm w_109 hB hz1 hk1 hS => ?_)
      obtain ⟨v_111, fa_112⟩ := u
      obtain ⟨hP1, hK1, hD1⟩ := hB
      rw [ht] at hP1
      have hP : va_P (dC, dI) vwCl (mW g0 pq cp v_111 fa_112) H := hP1
      have hD : va_D A (mW g0 pq cp v_111 fa_112) := hD1.weaken (fun _ _ _ h => hFc _ h)
      clear hP1 hK1 hD1 hk1 hz1 hvm ht hFc
      obtain ⟨rfl, hs1_113⟩ := w_109
      have hVv_111 : mV v_111 := sm0_V (sm1_0 hs1_113) gV
      have hAv_111 : mA fa_112 := sm0_A (sm1_0 hs1_113) gA
      have g_114 : (v_111 38).toInt = (v 38).toInt := congrArg Int32.toInt (congrFun hs1_113.1 38)
      have g_115 : (v_111 42).toInt = (v 42).toInt := congrArg Int32.toInt (congrFun hs1_113.1 42)
      have g_116 : (v_111 46).toInt = (v 46).toInt := congrArg Int32.toInt (congrFun hs1_113.1 46)
      have g_117 : (v_111 47).toInt = (v 47).toInt := congrArg Int32.toInt (congrFun hs1_113.1 47)
      have g_118 : (v_111 51).toInt = (v 51).toInt := congrArg Int32.toInt (congrFun hs1_113.1 51)
      have hRv_111 : mX [0, 16, 17, 18, 19, 42, 45, 46, 47, 48, 49, 50, 51, 52, 53, 54, 55, 56, 57, 58, 59, 60] v fa v_111 fa_112 := mX.st mX.rf (mX.s0 (sm1_0 hs1_113)) (by decide +kernel)
      exact W.iret (v := (-4)) hx hb hr (fun t ht hW => ⟨⟨(-4), (v_111, fa_112), rfl, ⟨hVv_111, hAv_111, hRv_111, ⟨(by unfold gac; dsimp only; have n0 : (v 46).toNatClampNeg = (v 46).toInt.toNat := rfl; have h0 : ((-4) : Int32).toInt = -4 := (by decide +kernel); refine Or.inr (Or.inl ?_); omega), fun h => by have h0 : ((-4) : Int32).toInt = -4 := (by decide +kernel); exfalso; omega, (fun _ k hk => (sm1_0 hs1_113).2 k (by revert k; decide))⟩⟩, ⟨by rw [ht]; exact hP, va_K.moved hW.alike hK, hD⟩⟩, hS.F ht⟩) hS.2.2 dX11_act_29
  · have dc_6 := c_eq (a := r_5.toInt) (b := 0) rfl (by decide +kernel) c_6
    have hz_119 := isI_0 (w_4.symm.trans c_6)
    have kc_120 : (5 : Int32).toInt = 5 := by decide
    refine lv_aload_n hx hb dX11_act_8 rfl (lv_at hl 0 rfl) ?_
    refine lv_bipush (v := (-2)) hx hb dX11_act_9 (by decide +kernel) ?_
    have hFc := va_free (wc := (mW g0 pq cp v fa)) hD hS hA (List.range 48) rfl
    refine va_calli (va_runV (As := [.int (-2)]) (rest := []) ⟨hx, hb, hml, hown, hts⟩ (c_X11_refuse_f l dC dI H.size g0 pq cp v fa (-2) (by unfold vp_in; decide)) (cwV 1 hts gX11_act_X11_refuse rfl rfl rfl (by decide +kernel) ⟨(Nat.le_of_ble_eq_true rfl), (Nat.le_of_ble_eq_true rfl)⟩) (pr_V (r := (RX11, TX11, 63)) hP hK hD 0 11 rfl rfl) rfl rfl hl.1 rfl (lv_room (Nat.le_of_ble_eq_true rfl)) dX11_act_11 ⟨(Nat.le_of_ble_eq_true rfl), (Nat.le_of_ble_eq_true rfl)⟩) hS (fun q _ h => hFc q h) hFc (fun r_122 u t H locs ht hvm w_121 hB hz1 hk1 hS => ?_)
    obtain ⟨v_123, fa_124⟩ := u
    obtain ⟨hP1, hK1, hD1⟩ := hB
    rw [ht] at hP1
    have hP : va_P (dC, dI) vwCl (mW g0 pq cp v_123 fa_124) H := hP1
    have hD : va_D A (mW g0 pq cp v_123 fa_124) := hD1.weaken (fun _ _ _ h => hFc _ h)
    clear hP1 hK1 hD1 hk1 hz1 hvm ht hFc
    obtain ⟨rfl, hs1_125⟩ := w_121
    have hVv_123 : mV v_123 := sm0_V (sm1_0 hs1_125) gV
    have hAv_123 : mA fa_124 := sm0_A (sm1_0 hs1_125) gA
    have g_126 : (v_123 38).toInt = (v 38).toInt := congrArg Int32.toInt (congrFun hs1_125.1 38)
    have g_127 : (v_123 42).toInt = (v 42).toInt := congrArg Int32.toInt (congrFun hs1_125.1 42)
    have g_128 : (v_123 46).toInt = (v 46).toInt := congrArg Int32.toInt (congrFun hs1_125.1 46)
    have g_129 : (v_123 47).toInt = (v 47).toInt := congrArg Int32.toInt (congrFun hs1_125.1 47)
    have g_130 : (v_123 51).toInt = (v 51).toInt := congrArg Int32.toInt (congrFun hs1_125.1 51)
    have hRv_123 : mX [0, 16, 17, 18, 19, 42, 45, 46, 47, 48, 49, 50, 51, 52, 53, 54, 55, 56, 57, 58, 59, 60] v fa v_123 fa_124 := mX.st mX.rf (mX.s0 (sm1_0 hs1_125)) (by decide +kernel)
    exact W.iret (v := (-2)) hx hb hr (fun t ht hW => ⟨⟨(-2), (v_123, fa_124), rfl, ⟨hVv_123, hAv_123, hRv_123, ⟨(by unfold gac; dsimp only; have n0 : (v 46).toNatClampNeg = (v 46).toInt.toNat := rfl; have h0 : ((-2) : Int32).toInt = -2 := (by decide +kernel); refine Or.inl ?_; omega), fun h => by have h0 : ((-2) : Int32).toInt = -2 := (by decide +kernel); exfalso; omega, (fun _ k hk => (sm1_0 hs1_125).2 k (by revert k; decide))⟩⟩, ⟨by rw [ht]; exact hP, va_K.moved hW.alike hK, hD⟩⟩, hS.F ht⟩) hS.2.2 dX11_act_14
