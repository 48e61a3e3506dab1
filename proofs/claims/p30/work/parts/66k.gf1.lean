


def rdI (y : Int32) : Int32 := if y = 0 then 0 else 1
/-- what STANDS of the j-th fine, of an agreement, as known on k -/
noncomputable def stW (v : Nat → Int32) (fa : Nat → Nat → Int32) (a j : Nat) (k : Int) : Int := (wrt v fa 1 (fa 33 j).toInt (lP v fa a (fa 33 j) k (fa 34 j) (rdI (fa 37 j)))).toInt
noncomputable def stV (v : Nat → Int32) (fa : Nat → Nat → Int32) (a j : Nat) (k : Int) : Int := if stW v fa a j k < 0 then 0 else if stW v fa a j k < (fa 34 j).toInt then stW v fa a j k else (fa 34 j).toInt
/-- ALLOT's hundredths of the wage -/
def alQ (w h : Int) : Int := (w * h).tdiv 100
noncomputable def alW (v : Nat → Int32) (fa : Nat → Nat → Int32) (a : Nat) (s : Int32) : Int := (wrt v fa 3 (v 38).toInt (lP v fa a (v 38) (v 38).toInt s 0)).toInt
def aAl (ng a al go s q r : Int) : Prop := (¬ (0 ≤ a ∧ a < ng) ∧ r = -1) ∨ ((0 ≤ a ∧ a < ng) ∧ (0 < al ∨ go = 0) ∧ r = -3) ∨ ((0 ≤ a ∧ a < ng) ∧ al ≤ 0 ∧ go = 1 ∧ s < 1 ∧ r = -4) ∨ ((0 ≤ a ∧ a < ng) ∧ al ≤ 0 ∧ go = 1 ∧ 1 ≤ s ∧ (9999 < s ∨ q < s) ∧ r = -6) ∨ ((0 ≤ a ∧ a < ng) ∧ al ≤ 0 ∧ go = 1 ∧ 1 ≤ s ∧ s ≤ 9999 ∧ s ≤ q ∧ r = 1)
theorem lg_al {y s w h : Int32} (e : y = lg_cmp s.toInt64 (w.toInt64 * h.toInt64 / 100)) : (y.toInt ≤ 0 ∧ s.toInt ≤ alQ w.toInt h.toInt) ∨ (0 < y.toInt ∧ alQ w.toInt h.toInt < s.toInt) := by
  have bw := iv_all w
  have bh := iv_all h
  have em : (w.toInt64 * h.toInt64).toInt = w.toInt * h.toInt := by
    rw [Int64.toInt_mul, Int32.toInt_toInt64, Int32.toInt_toInt64]
    have h1 : w.toInt * h.toInt ≤ 2147483648 * 2147483648 := by
      rcases Int.le_total 0 w.toInt with p | p
      · rcases Int.le_total 0 h.toInt with q | q
        · exact Int.mul_le_mul (by omega) (by omega) q (by decide)
        · exact Int.le_trans (Int.mul_nonpos_of_nonneg_of_nonpos p q) (by decide)
      · rcases Int.le_total 0 h.toInt with q | q
        · exact Int.le_trans (Int.mul_nonpos_of_nonpos_of_nonneg p q) (by decide)
        · rw [← Int.neg_mul_neg]
          exact Int.mul_le_mul (by omega) (by omega) (by omega) (by decide)
    have h2 : -(2147483648 * 2147483648) ≤ w.toInt * h.toInt := by
      rcases Int.le_total 0 w.toInt with p | p
      · rcases Int.le_total 0 h.toInt with q | q
        · exact Int.le_trans (by decide) (Int.mul_nonneg p q)
        · have g : w.toInt * (-h.toInt) ≤ 2147483648 * 2147483648 := Int.mul_le_mul (by omega) (by omega) (by omega) (by decide)
          rw [Int.mul_neg] at g
          omega
      · rcases Int.le_total 0 h.toInt with q | q
        · have g : (-w.toInt) * h.toInt ≤ 2147483648 * 2147483648 := Int.mul_le_mul (by omega) (by omega) q (by decide)
          rw [Int.neg_mul] at g
          omega
        · exact Int.le_trans (by decide) (Int.mul_nonneg_of_nonpos_of_nonpos p q)
    exact Int.bmod_eq_of_le (by omega) (by omega)
  have ed : (w.toInt64 * h.toInt64 / 100).toInt = alQ w.toInt h.toInt := by
    rw [Int64.toInt_div_of_ne_right _ _ (by decide), em]
    rfl
  have es : s.toInt64.toInt = s.toInt := Int32.toInt_toInt64 s
  have e0 : (0 : Int32).toInt = 0 := by decide
  by_cases g : s.toInt64 ≤ w.toInt64 * h.toInt64 / 100
  · have g1 := (lg_cmp_le _ _).mpr g
    have g2 := Int64.le_iff_toInt_le.mp g
    rw [← e] at g1
    have g3 := Int32.le_iff_toInt_le.mp g1
    exact Or.inl ⟨by omega, by omega⟩
  · have g1 : ¬ y ≤ 0 := fun q => g ((lg_cmp_le _ _).mp (by rw [← e]; exact q))
    have g2 : ¬ s.toInt64.toInt ≤ (w.toInt64 * h.toInt64 / 100).toInt := fun q => g (Int64.le_iff_toInt_le.mpr q)
    have g3 : ¬ y.toInt ≤ (0 : Int32).toInt := fun q => g1 (Int32.le_iff_toInt_le.mpr q)
    exact Or.inr ⟨by omega, by omega⟩
set_option maxHeartbeats 4000000 in
set_option maxRecDepth 100000 in
theorem c_X11_standsOf_f (l : Launch) (dC : Nat → ClassId) (dI : Nat → Nat → Nat) (sz : Nat) (g0 : Nat) (pq : Nat → Nat) (cp : Nat → ClassId) (v : Nat → Int32) (fa : Nat → Nat → Int32) (gV : mV v) (gA : mA fa) (x1 : Int32) (hx1 : 0 ≤ x1.toInt ∧ x1.toInt ≤ 59) (x2 : Int32) (hx2 : 0 ≤ x2.toInt ∧ x2.toInt ≤ 5) (x3 : Int32) (hWl : wlA v fa) : Met l yX11_standsOf wsX11_standsOf ({ frames := 25, cells := 0, slots := 0, locals := 586 }) (va_Pc [.ref g0, .int x1, .int x2, .int x3] (pcW (dC, dI) (mT cp) (mW g0 pq cp v fa) sz)) (va_Qi (fun (r : Int32) (u : (Nat → Int32) × (Nat → Nat → Int32)) => mV u.1 ∧ mA u.2 ∧ scr v fa u.1 u.2 ∧ (r.toInt = stV v fa x1.toNatClampNeg (6 * x1.toNatClampNeg + x2.toNatClampNeg) x3.toInt)) (fun u t => va_P (dC, dI) vwCl (mW g0 pq cp u.1 u.2) t.heap ∧ va_K (dC, dI) vwCl (mT cp) t ∧ va_D (va_A (mW g0 pq cp v fa) sz) (mW g0 pq cp u.1 u.2)) (va_A (mW g0 pq cp v fa) sz)) 0 0 (va_A (mW g0 pq cp v fa) sz) := by
  refine Met.ofW (cc := cX11_standsOf) (maxL := 6) (ret := (some .int)) (by decide) rfl ?_
  intro p e s m args below meth c s₁ B hml hv
  obtain ⟨rfl, hsz, hP, hK, hD0⟩ := hv
  have hx := B.exec
  have hb := B.bytes
  have hr := B.returns
  have hts := atoms_spec (ws := wsX11_standsOf) B.pre
  have hown : s.vm.findClass RX11 = some m.cls := findClass_of_methodNamed B.named
  have hlocks := B.notSynchronized
  subst hsz
  have hD := hD0.self (sz := s.heap.size)
  generalize hAe : va_A (mW g0 pq cp v fa) s.heap.size = A at hD ⊢
  have hA : ∀ q : Nat, s.heap.size ≤ q → A q := fun q h => by rw [← hAe]; exact Or.inr h
  have hS : va_S A s.heap s.heap [] := va_S.rf
  have hP : va_P (dC, dI) vwCl (mW g0 pq cp v fa) s.heap := hP
  have hl := lv_entry ([.ref g0, .int x1, .int x2, .int x3]) (n := 6) (Nat.le_of_ble_eq_true rfl)
  rw [lg_entry_eq]
  generalize (lg_sl ([.ref g0, .int x1, .int x2, .int x3]) ++ List.replicate (6 - (lg_sl ([.ref g0, .int x1, .int x2, .int x3])).length) Slot.unset).toArray = ls at hl ⊢
  have hl : lv_has ls 6 [(0, .ref g0), (1, .int x1), (2, .int x2), (3, .int x3)] := hl
  refine lv_bipush (v := 6) hx hb dX11_standsOf_0 (by decide) ?_
  refine lv_iload_n hx hb dX11_standsOf_2 rfl (lv_at hl 1 rfl) ?_
  refine lv_imul hx hb dX11_standsOf_3 ?_
  refine lv_topi (fun x_1 ex_1 => ?_)
  have hx_1 : x_1.toInt = 6 * x1.toInt := (iv_to ex_1).trans (mu_i (by decide) rfl (by omega) (by omega))
  refine lv_iload_n hx hb dX11_standsOf_4 rfl (lv_at hl 2 rfl) ?_
  refine lv_iadd hx hb dX11_standsOf_5 ?_
  refine lv_topi (fun x_2 ex_2 => ?_)
  have hx_2 : x_2.toInt = x_1.toInt + x2.toInt := (iv_to ex_2).trans (ad_i rfl rfl (by omega) (by omega))
  refine lv_istore (lv' := [(4, .int x_2), (0, .ref g0), (1, .int x1), (2, .int x2), (3, .int x3)]) hx hb dX11_standsOf_6 hl (by decide) rfl (fun ls hl => ?_)
  refine lv_aload_n hx hb dX11_standsOf_8 rfl (lv_at hl 1 rfl) ?_
  refine lv_iload_n hx hb dX11_standsOf_9 rfl (lv_at hl 2 rfl) ?_
  refine lv_aload_n hx hb dX11_standsOf_10 rfl (lv_at hl 1 rfl) ?_
  refine va_get (D := (dC, dI)) (ci := 11) (v := .ref (pq 33)) (C := RX11) (T := TX11) (N := 63) hx hb hts in_wsX11_standsOf_X11 hown hK hP 0 rfl rfl 33 (by decide) (hts (.fieldLink RX11 109 "ShipOfficeModel" "fineDay" "[I") iw_X11_standsOf_1) (fun _ h9 => h9) rfl dX11_standsOf_11 ?_
  refine lv_iload hx hb dX11_standsOf_14 (lv_at hl 0 rfl) ?_
  refine va_iald hx hb hK hP 34 33 rfl rfl (vp_in_iff.mpr (by omega)) dX11_standsOf_16 ?_
  refine lv_topi (fun x_3 ex_3 => ?_)
  have hx_3 : 0 ≤ x_3.toInt ∧ x_3.toInt ≤ 3000 := iv_of ex_3 (gA 33 _)
  have gx_3 : x_3.toInt = (fa 33 (x_2 : Int32).toNatClampNeg).toInt := iv_to ex_3
  clear ex_3
  rw [show (x_2 : Int32).toNatClampNeg = 6 * x1.toNatClampNeg + x2.toNatClampNeg from (show x_2.toInt.toNat = 6 * x1.toInt.toNat + x2.toInt.toNat by omega)] at gx_3
  refine lv_iload_n hx hb dX11_standsOf_17 rfl (lv_at hl 4 rfl) ?_
  refine lv_aload_n hx hb dX11_standsOf_18 rfl (lv_at hl 1 rfl) ?_
  refine va_get (D := (dC, dI)) (ci := 11) (v := .ref (pq 34)) (C := RX11) (T := TX11) (N := 63) hx hb hts in_wsX11_standsOf_X11 hown hK hP 0 rfl rfl 34 (by decide) (hts (.fieldLink RX11 112 "ShipOfficeModel" "fineSum" "[I") iw_X11_standsOf_2) (fun _ h9 => h9) rfl dX11_standsOf_19 ?_
  refine lv_iload hx hb dX11_standsOf_22 (lv_at hl 0 rfl) ?_
  refine va_iald hx hb hK hP 35 34 rfl rfl (vp_in_iff.mpr (by omega)) dX11_standsOf_24 ?_
  refine lv_topi (fun x_4 ex_4 => ?_)
  have gx_4 : x_4.toInt = (fa 34 (x_2 : Int32).toNatClampNeg).toInt := iv_to ex_4
  clear ex_4
  rw [show (x_2 : Int32).toNatClampNeg = 6 * x1.toNatClampNeg + x2.toNatClampNeg from (show x_2.toInt.toNat = 6 * x1.toInt.toNat + x2.toInt.toNat by omega)] at gx_4
  refine lv_aload_n hx hb dX11_standsOf_25 rfl (lv_at hl 1 rfl) ?_
  refine va_get (D := (dC, dI)) (ci := 11) (v := .ref (pq 37)) (C := RX11) (T := TX11) (N := 63) hx hb hts in_wsX11_standsOf_X11 hown hK hP 0 rfl rfl 37 (by decide) (hts (.fieldLink RX11 121 "ShipOfficeModel" "isRead" "[Z") iw_X11_standsOf_3) (fun _ h9 => h9) rfl dX11_standsOf_26 ?_
  refine lv_iload hx hb dX11_standsOf_29 (lv_at hl 0 rfl) ?_
  refine va_zald hx hb hK hP 38 37 rfl rfl (vp_in_iff.mpr (by omega)) dX11_standsOf_31 ?_
  refine lv_topi (fun x_5 ex_5 => ?_)
  have gx_5 : x_5.toInt = (fa 37 (x_2 : Int32).toNatClampNeg).toInt := iv_to ex_5
  clear ex_5
  rw [show (x_2 : Int32).toNatClampNeg = 6 * x1.toNatClampNeg + x2.toNatClampNeg from (show x_2.toInt.toNat = 6 * x1.toInt.toNat + x2.toInt.toNat by omega)] at gx_5
  have hFc := va_free (wc := (mW g0 pq cp v fa)) hD hS hA (List.range 48) rfl
  refine va_callv (va_runV (As := [.int x1, .int x_3, .int x3, .int x_4, .int x_5]) (rest := []) ⟨hx, hb, hml, hown, hts⟩ (c_X11_puts_f l dC dI s.heap.size g0 pq cp v fa gV gA x1 (by omega) x_3 (by omega) x3 x_4 x_5 hWl) (cwV 5 hts gX11_standsOf_X11_puts rfl rfl rfl (by decide +kernel) ⟨(Nat.le_of_ble_eq_true rfl), (Nat.le_of_ble_eq_true rfl)⟩) (pr_V (r := (RX11, TX11, 63)) hP hK hD 0 11 rfl rfl) rfl rfl hl.1 rfl (lv_room (Nat.le_of_ble_eq_true rfl)) dX11_standsOf_32 ⟨(Nat.le_of_ble_eq_true rfl), (Nat.le_of_ble_eq_true rfl)⟩) hS (fun q _ h => hFc q h) hFc (fun u t H locs ht hvm w_6 hB hz1 hk1 hS => ?_)
  obtain ⟨v_8, fa_9⟩ := u
  obtain ⟨hP1, hK1, hD1⟩ := hB
  rw [ht] at hP1
  have hP : va_P (dC, dI) vwCl (mW g0 pq cp v_8 fa_9) H := hP1
  have hD : va_D A (mW g0 pq cp v_8 fa_9) := hD1.weaken (fun _ _ _ h => hFc _ h)
  clear hP1 hK1 hD1 hk1 hz1 hvm ht hFc
  obtain ⟨hV_10, hA_11, hR_12, hx_13⟩ := w_6
  dsimp only at hV_10 hA_11 hR_12 hx_13
  have g_14 : (fa_9 33 (x_2 : Int32).toNatClampNeg).toInt = (fa 33 (x_2 : Int32).toNatClampNeg).toInt := congrArg (fun h : Nat → Int32 => Int32.toInt (h (x_2 : Int32).toNatClampNeg)) (hR_12.2 33 rfl)
  have g_15 : (fa_9 34 (x_2 : Int32).toNatClampNeg).toInt = (fa 34 (x_2 : Int32).toNatClampNeg).toInt := congrArg (fun h : Nat → Int32 => Int32.toInt (h (x_2 : Int32).toNatClampNeg)) (hR_12.2 34 rfl)
  have g_16 : (fa_9 37 (x_2 : Int32).toNatClampNeg).toInt = (fa 37 (x_2 : Int32).toNatClampNeg).toInt := congrArg (fun h : Nat → Int32 => Int32.toInt (h (x_2 : Int32).toNatClampNeg)) (hR_12.2 37 rfl)
  have R_17 := scr.tr scr.rf hR_12
  try rw [gx_3] at hx_13
  try rw [gx_4] at hx_13
  try rw [gx_5] at hx_13
  have sc_18 := scr.tr scr.rf hR_12
  have q0_19 : fa_9 0 = fa 0 := (hR_12.2 0 rfl).trans rfl
  refine lv_aload_n hx hb dX11_standsOf_35 rfl (lv_at hl 1 rfl) ?_
  refine lv_iconst (v := 1) hx hb dX11_standsOf_36 (by decide) ?_
  refine lv_aload_n hx hb dX11_standsOf_37 rfl (lv_at hl 1 rfl) ?_
  refine va_get (D := (dC, dI)) (ci := 11) (v := .ref (pq 33)) (C := RX11) (T := TX11) (N := 63) hx hb hts in_wsX11_standsOf_X11 hown hK hP 0 rfl rfl 33 (by decide) (hts (.fieldLink RX11 109 "ShipOfficeModel" "fineDay" "[I") iw_X11_standsOf_1) (fun _ h9 => h9) rfl dX11_standsOf_38 ?_
  refine lv_iload hx hb dX11_standsOf_41 (lv_at hl 0 rfl) ?_
  refine va_iald hx hb hK hP 34 33 rfl rfl (vp_in_iff.mpr (by omega)) dX11_standsOf_43 ?_
  refine lv_topi (fun x_20 ex_20 => ?_)
  have hx_20 : 0 ≤ x_20.toInt ∧ x_20.toInt ≤ 3000 := iv_of ex_20 (hA_11 33 _)
  have gx_20 : x_20.toInt = (fa_9 33 (x_2 : Int32).toNatClampNeg).toInt := iv_to ex_20
  clear ex_20
  rw [show fa_9 33 = fa 33 from sc_18.2 33 rfl] at gx_20
  rw [show (x_2 : Int32).toNatClampNeg = 6 * x1.toNatClampNeg + x2.toNatClampNeg from (show x_2.toInt.toNat = 6 * x1.toInt.toNat + x2.toInt.toNat by omega)] at gx_20
  have hFc := va_free (wc := (mW g0 pq cp v_8 fa_9)) hD hS hA (List.range 48) rfl
  refine va_calli (va_runV (As := [.int 1, .int x_20]) (rest := []) ⟨hx, hb, hml, hown, hts⟩ (c_X11_worth_f l dC dI H.size g0 pq cp v_8 fa_9 hV_10 hA_11 1 x_20 (wlA_fr hWl (sc_18.1 42 rfl) (sc_18.2 19 rfl) (sc_18.2 16 rfl))) (cwV 2 hts gX11_standsOf_X11_worth rfl rfl rfl (by decide +kernel) ⟨(Nat.le_of_ble_eq_true rfl), (Nat.le_of_ble_eq_true rfl)⟩) (pr_V (r := (RX11, TX11, 63)) hP hK hD 0 11 rfl rfl) rfl rfl hl.1 rfl (lv_room (Nat.le_of_ble_eq_true rfl)) dX11_standsOf_44 ⟨(Nat.le_of_ble_eq_true rfl), (Nat.le_of_ble_eq_true rfl)⟩) hS (fun q _ h => hFc q h) hFc (fun r_22 u t H locs ht hvm w_21 hB hz1 hk1 hS => ?_)
  obtain ⟨v_23, fa_24⟩ := u
  obtain ⟨hP1, hK1, hD1⟩ := hB
  rw [ht] at hP1
  have hP : va_P (dC, dI) vwCl (mW g0 pq cp v_23 fa_24) H := hP1
  have hD : va_D A (mW g0 pq cp v_23 fa_24) := hD1.weaken (fun _ _ _ h => hFc _ h)
  clear hP1 hK1 hD1 hk1 hz1 hvm ht hFc
  obtain ⟨hV_25, hA_26, hR_27, hx_28⟩ := w_21
  dsimp only at hV_25 hA_26 hR_27 hx_28
  have g_29 : (fa_24 33 (x_2 : Int32).toNatClampNeg).toInt = (fa_9 33 (x_2 : Int32).toNatClampNeg).toInt := congrArg (fun h : Nat → Int32 => Int32.toInt (h (x_2 : Int32).toNatClampNeg)) (hR_27.2 33 rfl)
  have g_30 : (fa_24 34 (x_2 : Int32).toNatClampNeg).toInt = (fa_9 34 (x_2 : Int32).toNatClampNeg).toInt := congrArg (fun h : Nat → Int32 => Int32.toInt (h (x_2 : Int32).toNatClampNeg)) (hR_27.2 34 rfl)
  have g_31 : (fa_24 37 (x_2 : Int32).toNatClampNeg).toInt = (fa_9 37 (x_2 : Int32).toNatClampNeg).toInt := congrArg (fun h : Nat → Int32 => Int32.toInt (h (x_2 : Int32).toNatClampNeg)) (hR_27.2 37 rfl)
  have R_32 := scr.tr R_17 hR_27
  try rw [show (1 : Int32).toInt = 1 from (by decide)] at hx_28
  try rw [gx_20] at hx_28
  have sc_33 := scr.tr sc_18 hR_27
  have q0_34 : fa_24 0 = fa 0 := (hR_27.2 0 rfl).trans q0_19
  refine lv_istore (lv' := [(5, .int r_22), (4, .int x_2), (0, .ref g0), (1, .int x1), (2, .int x2), (3, .int x3)]) hx hb dX11_standsOf_47 hl (by decide) rfl (fun ls hl => ?_)
  refine lv_iload hx hb dX11_standsOf_49 (lv_at hl 0 rfl) ?_
  refine lv_if_ge (tgt := 58) hx hb dX11_standsOf_51 (by decide) (fun c_35 => ?_) (fun c_35 => ?_)
  · have dc_35 := c_le (a := 0) (b := r_22.toInt) (by decide) rfl c_35
    refine lv_iload hx hb dX11_standsOf_58 (lv_at hl 0 rfl) ?_
    refine lv_aload_n hx hb dX11_standsOf_60 rfl (lv_at hl 2 rfl) ?_
    refine va_get (D := (dC, dI)) (ci := 11) (v := .ref (pq 34)) (C := RX11) (T := TX11) (N := 63) hx hb hts in_wsX11_standsOf_X11 hown hK hP 0 rfl rfl 34 (by decide) (hts (.fieldLink RX11 112 "ShipOfficeModel" "fineSum" "[I") iw_X11_standsOf_2) (fun _ h9 => h9) rfl dX11_standsOf_61 ?_
    refine lv_iload hx hb dX11_standsOf_64 (lv_at hl 1 rfl) ?_
    refine va_iald hx hb hK hP 35 34 rfl rfl (vp_in_iff.mpr (by omega)) dX11_standsOf_66 ?_
    refine lv_topi (fun x_36 ex_36 => ?_)
    have gx_36 : x_36.toInt = (fa_24 34 (x_2 : Int32).toNatClampNeg).toInt := iv_to ex_36
    clear ex_36
    rw [show fa_24 34 = fa 34 from sc_33.2 34 rfl] at gx_36
    rw [show (x_2 : Int32).toNatClampNeg = 6 * x1.toNatClampNeg + x2.toNatClampNeg from (show x_2.toInt.toNat = 6 * x1.toInt.toNat + x2.toInt.toNat by omega)] at gx_36
    refine lv_icmp_ge (tgt := 75) hx hb dX11_standsOf_67 (by decide) (fun c_37 => ?_) (fun c_37 => ?_)
    · have dc_37 := c_le (a := x_36.toInt) (b := r_22.toInt) rfl rfl c_37
      refine lv_aload_n hx hb dX11_standsOf_75 rfl (lv_at hl 2 rfl) ?_
      refine va_get (D := (dC, dI)) (ci := 11) (v := .ref (pq 34)) (C := RX11) (T := TX11) (N := 63) hx hb hts in_wsX11_standsOf_X11 hown hK hP 0 rfl rfl 34 (by decide) (hts (.fieldLink RX11 112 "ShipOfficeModel" "fineSum" "[I") iw_X11_standsOf_2) (fun _ h9 => h9) rfl dX11_standsOf_76 ?_
      refine lv_iload hx hb dX11_standsOf_79 (lv_at hl 1 rfl) ?_
      refine va_iald hx hb hK hP 35 34 rfl rfl (vp_in_iff.mpr (by omega)) dX11_standsOf_81 ?_
      refine lv_topi (fun x_38 ex_38 => ?_)
      have gx_38 : x_38.toInt = (fa_24 34 (x_2 : Int32).toNatClampNeg).toInt := iv_to ex_38
      clear ex_38
      rw [show fa_24 34 = fa 34 from sc_33.2 34 rfl] at gx_38
      rw [show (x_2 : Int32).toNatClampNeg = 6 * x1.toNatClampNeg + x2.toNatClampNeg from (show x_2.toInt.toNat = 6 * x1.toInt.toNat + x2.toInt.toNat by omega)] at gx_38
      exact W.iret (v := x_38) hx hb hr (fun t ht hW => ⟨⟨x_38, (v_23, fa_24), rfl, ⟨hV_25, hA_26, R_32, (by have eD : x_3 = fa 33 (6 * x1.toNatClampNeg + x2.toNatClampNeg) := Int32.toInt_inj.mp (by omega); have eS : x_4 = fa 34 (6 * x1.toNatClampNeg + x2.toNatClampNeg) := Int32.toInt_inj.mp (by omega); have eR : x_5 = fa 37 (6 * x1.toNatClampNeg + x2.toNatClampNeg) := Int32.toInt_inj.mp (by omega); have hL9 := hx_13; rw [eD, eS, eR] at hL9; have hw9 : r_22 = wrt v fa 1 (fa 33 (6 * x1.toNatClampNeg + x2.toNatClampNeg)).toInt (lP v fa x1.toNatClampNeg (fa 33 (6 * x1.toNatClampNeg + x2.toNatClampNeg)) x3.toInt (fa 34 (6 * x1.toNatClampNeg + x2.toNatClampNeg)) (rdI (fa 37 (6 * x1.toNatClampNeg + x2.toNatClampNeg)))) := (by rw [hx_28]; (try rw [show (1 : Int32).toInt = 1 from (by decide)]); (try rw [show x_20.toInt = (fa 33 (6 * x1.toNatClampNeg + x2.toNatClampNeg)).toInt from (by omega)]); exact wrt_c hWl (sc_18.1 42 rfl) (sc_18.2 19 rfl) (sc_18.2 16 rfl) (sc_18.2 17 rfl) (sc_18.2 18 rfl) hL9); have hi9 := congrArg Int32.toInt hw9; unfold stV stW; repeat (first | rw [if_pos (by omega)] | rw [if_neg (by omega)]); omega)⟩, ⟨by rw [ht]; exact hP, va_K.moved hW.alike hK, hD⟩⟩, hS.F ht⟩) hS.2.2 dX11_standsOf_82
    · have dc_37 := c_nle (a := x_36.toInt) (b := r_22.toInt) rfl rfl c_37
      refine lv_iload hx hb dX11_standsOf_70 (lv_at hl 0 rfl) ?_
      refine lv_goto (tgt := 82) hx hb dX11_standsOf_72 (by decide) ?_
      exact W.iret (v := r_22) hx hb hr (fun t ht hW => ⟨⟨r_22, (v_23, fa_24), rfl, ⟨hV_25, hA_26, R_32, (by have eD : x_3 = fa 33 (6 * x1.toNatClampNeg + x2.toNatClampNeg) := Int32.toInt_inj.mp (by omega); have eS : x_4 = fa 34 (6 * x1.toNatClampNeg + x2.toNatClampNeg) := Int32.toInt_inj.mp (by omega); have eR : x_5 = fa 37 (6 * x1.toNatClampNeg + x2.toNatClampNeg) := Int32.toInt_inj.mp (by omega); have hL9 := hx_13; rw [eD, eS, eR] at hL9; have hw9 : r_22 = wrt v fa 1 (fa 33 (6 * x1.toNatClampNeg + x2.toNatClampNeg)).toInt (lP v fa x1.toNatClampNeg (fa 33 (6 * x1.toNatClampNeg + x2.toNatClampNeg)) x3.toInt (fa 34 (6 * x1.toNatClampNeg + x2.toNatClampNeg)) (rdI (fa 37 (6 * x1.toNatClampNeg + x2.toNatClampNeg)))) := (by rw [hx_28]; (try rw [show (1 : Int32).toInt = 1 from (by decide)]); (try rw [show x_20.toInt = (fa 33 (6 * x1.toNatClampNeg + x2.toNatClampNeg)).toInt from (by omega)]); exact wrt_c hWl (sc_18.1 42 rfl) (sc_18.2 19 rfl) (sc_18.2 16 rfl) (sc_18.2 17 rfl) (sc_18.2 18 rfl) hL9); have hi9 := congrArg Int32.toInt hw9; unfold stV stW; repeat (first | rw [if_pos (by omega)] | rw [if_neg (by omega)]); omega)⟩, ⟨by rw [ht]; exact hP, va_K.moved hW.alike hK, hD⟩⟩, hS.F ht⟩) hS.2.2 dX11_standsOf_82
  · have dc_35 := c_nle (a := 0) (b := r_22.toInt) (by decide) rfl c_35
    refine lv_iconst (v := 0) hx hb dX11_standsOf_54 (by decide) ?_
    refine lv_goto (tgt := 82) hx hb dX11_standsOf_55 (by decide) ?_
    exact W.iret (v := 0) hx hb hr (fun t ht hW => ⟨⟨0, (v_23, fa_24), rfl, ⟨hV_25, hA_26, R_32, (by have rc : (0 : Int32).toInt = 0 := (by decide); have eD : x_3 = fa 33 (6 * x1.toNatClampNeg + x2.toNatClampNeg) := Int32.toInt_inj.mp (by omega); have eS : x_4 = fa 34 (6 * x1.toNatClampNeg + x2.toNatClampNeg) := Int32.toInt_inj.mp (by omega); have eR : x_5 = fa 37 (6 * x1.toNatClampNeg + x2.toNatClampNeg) := Int32.toInt_inj.mp (by omega); have hL9 := hx_13; rw [eD, eS, eR] at hL9; have hw9 : r_22 = wrt v fa 1 (fa 33 (6 * x1.toNatClampNeg + x2.toNatClampNeg)).toInt (lP v fa x1.toNatClampNeg (fa 33 (6 * x1.toNatClampNeg + x2.toNatClampNeg)) x3.toInt (fa 34 (6 * x1.toNatClampNeg + x2.toNatClampNeg)) (rdI (fa 37 (6 * x1.toNatClampNeg + x2.toNatClampNeg)))) := (by rw [hx_28]; (try rw [show (1 : Int32).toInt = 1 from (by decide)]); (try rw [show x_20.toInt = (fa 33 (6 * x1.toNatClampNeg + x2.toNatClampNeg)).toInt from (by omega)]); exact wrt_c hWl (sc_18.1 42 rfl) (sc_18.2 19 rfl) (sc_18.2 16 rfl) (sc_18.2 17 rfl) (sc_18.2 18 rfl) hL9); have hi9 := congrArg Int32.toInt hw9; unfold stV stW; repeat (first | rw [if_pos (by omega)] | rw [if_neg (by omega)]); omega)⟩, ⟨by rw [ht]; exact hP, va_K.moved hW.alike hK, hD⟩⟩, hS.F ht⟩) hS.2.2 dX11_standsOf_82
section
variable {v z : Nat → Int32} {fa fz : Nat → Nat → Int32} {a j : Nat} {k d : Int} {x : Int}
theorem dnF_s (hW : wlA v fa) (h : scr v fa z fz) : dnF z fz a d k = dnF v fa a d k := by
  unfold dnF
  rw [scr_S h 25 (by decide), show abG z fz a k = abG v fa a k from funext fun t => by unfold abG; rw [stF_s hW h]]
theorem ulF_s (h : scr v fa z fz) : ulF z fz x d k = ulF v fa x d k := by
  unfold ulF
  rw [lhO_s h]
theorem lP_s {d s y : Int32} (hW : wlA v fa) (h : scr v fa z fz) : lP z fz a d k s y = lP v fa a d k s y := by
  unfold lP
  rw [dnF_s hW h, abF_s hW h, ulF_s h, h.2 22 rfl, h.2 23 rfl, h.2 4 rfl, h.2 20 rfl, h.2 21 rfl]
theorem stV_s (hW : wlA v fa) (h : scr v fa z fz) : stV z fz a j k = stV v fa a j k := by
  unfold stV stW
  rw [lP_s hW h, wrt_s hW h, h.2 33 rfl, h.2 34 rfl, h.2 37 rfl]
end
