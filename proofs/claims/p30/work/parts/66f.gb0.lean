

/-- what the reference's extras lie in -/
def xB (fa : Nat → Nat → Int32) : Prop := ∀ a, (0 ≤ (fa 27 a).toInt ∧ (fa 27 a).toInt ≤ 99999) ∧ (0 ≤ (fa 29 a).toInt ∧ (fa 29 a).toInt ≤ 9999) ∧ (0 ≤ (fa 32 a).toInt ∧ (fa 32 a).toInt ≤ 999)
theorem RX_b {S : oS} {o : Nat} {v : Nat → Int32} {fa : Nat → Nat → Int32} (h : RX S o v fa) : xB fa := fun a => by
  by_cases c : a < (v 43).toNatClampNeg
  · obtain ⟨g1, -, g3, -, g5⟩ := h.1 a c
    exact ⟨⟨g1.2.1, g1.2.2⟩, ⟨g3.2.1, g3.2.2⟩, ⟨g5.2.2.1, g5.2.2.2.1⟩⟩
  · obtain ⟨e1, e2, -, -, e5⟩ := h.2.2 a (by omega)
    rw [e1, e2, e5]
    decide
theorem uF_eq {fz : Nat → Nat → Int32} {k i : Nat} {x : Int32} : (upF fz k i x k i).toInt = x.toInt := by
  rw [show upF fz k i x k = upd (fz k) i x from if_pos rfl, show upd (fz k) i x i = x from if_pos rfl]
/-- an answer about an agreement's note -/
def aAd (ng a nt st s r : Int) : Prop := (¬ (0 ≤ a ∧ a < ng) ∧ r = -1) ∨ ((0 ≤ a ∧ a < ng) ∧ (0 < nt ∨ st ≠ 0) ∧ r = -3) ∨ ((0 ≤ a ∧ a < ng) ∧ nt ≤ 0 ∧ st = 0 ∧ s < 1 ∧ r = -4) ∨ ((0 ≤ a ∧ a < ng) ∧ nt ≤ 0 ∧ st = 0 ∧ 99999 < s ∧ r = -6) ∨ ((0 ≤ a ∧ a < ng) ∧ nt ≤ 0 ∧ st = 0 ∧ 1 ≤ s ∧ s ≤ 99999 ∧ r = 1)
def aSo (ng a nt gv g r : Int) : Prop := (¬ (0 ≤ a ∧ a < ng) ∧ r = -1) ∨ ((0 ≤ a ∧ a < ng) ∧ (nt = 0 ∨ 0 < gv) ∧ r = -3) ∨ ((0 ≤ a ∧ a < ng) ∧ nt ≠ 0 ∧ gv ≤ 0 ∧ g < 1 ∧ r = -4) ∨ ((0 ≤ a ∧ a < ng) ∧ nt ≠ 0 ∧ gv ≤ 0 ∧ 1 ≤ g ∧ nt ≤ g ∧ r = -6) ∨ ((0 ≤ a ∧ a < ng) ∧ nt ≠ 0 ∧ gv ≤ 0 ∧ 1 ≤ g ∧ g < nt ∧ r = nt - g)
def aFi (ng a off sg d s now fn r : Int) : Prop := (¬ (0 ≤ a ∧ a < ng) ∧ r = -1) ∨ ((0 ≤ a ∧ a < ng) ∧ 0 ≤ off ∧ r = -3) ∨ ((0 ≤ a ∧ a < ng) ∧ off < 0 ∧ (d < sg ∨ s < 1) ∧ r = -4) ∨ ((0 ≤ a ∧ a < ng) ∧ off < 0 ∧ sg ≤ d ∧ 1 ≤ s ∧ (now < d ∨ 9999 < s ∨ 6 ≤ fn) ∧ r = -6) ∨ ((0 ≤ a ∧ a < ng) ∧ off < 0 ∧ sg ≤ d ∧ 1 ≤ s ∧ d ≤ now ∧ s ≤ 9999 ∧ fn < 6 ∧ r = fn + 1)
def aRe (ng a fn i rd fd now r : Int) : Prop := (¬ (0 ≤ a ∧ a < ng ∧ 0 ≤ i ∧ i < fn) ∧ r = -1) ∨ ((0 ≤ a ∧ a < ng ∧ 0 ≤ i ∧ i < fn) ∧ (rd ≠ 0 ∨ fd ≠ now) ∧ r = -3) ∨ ((0 ≤ a ∧ a < ng ∧ 0 ≤ i ∧ i < fn) ∧ rd = 0 ∧ fd = now ∧ r = 1)
def aRa (ng a n k sd sn r : Int) : Prop := (¬ (0 ≤ a ∧ a < ng) ∧ r = -1) ∨ ((0 ≤ a ∧ a < ng) ∧ (n < 1 ∨ k < 1) ∧ r = -4) ∨ ((0 ≤ a ∧ a < ng) ∧ 1 ≤ n ∧ 1 ≤ k ∧ (999 - sd < n ∨ 99 < k ∨ 20 ≤ sn) ∧ r = -6) ∨ ((0 ≤ a ∧ a < ng) ∧ 1 ≤ n ∧ 1 ≤ k ∧ n ≤ 999 - sd ∧ k ≤ 99 ∧ sn < 20 ∧ r = sd + n)
def aoV (w mn vy wg rk si off nt gv al go : Int) : Int := if w = 0 then mn else if w = 1 then vy else if w = 2 then wg else if w = 3 then rk else if w = 4 then si else if w = 5 then (if off < 0 then -9 else off) else if w = 6 then nt else if w = 7 then gv else if w = 8 then al else if w = 9 then go else -2
def aAo (ng a x r : Int) : Prop := (¬ (0 ≤ a ∧ a < ng) ∧ r = -1) ∨ ((0 ≤ a ∧ a < ng) ∧ r = x)
def bAo (ng a w : Int) : Prop := ¬ (0 ≤ a ∧ a < ng) ∨ w < 0 ∨ 9 < w
def aPu (n r : Int) : Prop := (12 ≤ n ∧ r = -6) ∨ (n < 12 ∧ r = n + 1)
set_option maxHeartbeats 4000000 in
set_option maxRecDepth 100000 in
theorem c_X11_advance_f (l : Launch) (dC : Nat → ClassId) (dI : Nat → Nat → Nat) (sz : Nat) (g0 : Nat) (pq : Nat → Nat) (cp : Nat → ClassId) (v : Nat → Int32) (fa : Nat → Nat → Int32) (gV : mV v) (gA : mA fa) (x1 : Int32) (x2 : Int32) (hWl : wlA v fa) : Met l yX11_advance wsX11_advance ({ frames := 23, cells := 0, slots := 0, locals := 533 }) (va_Pc [.ref g0, .int x1, .int x2] (pcW (dC, dI) (mT cp) (mW g0 pq cp v fa) sz)) (va_Qi (fun (r : Int32) (u : (Nat → Int32) × (Nat → Nat → Int32)) => mV u.1 ∧ mA u.2 ∧ mX [0, 27, 45, 47, 48, 49, 50, 51, 52, 53, 54, 55, 56, 57, 58, 59, 60] v fa u.1 u.2 ∧ (aAd (v 43).toInt x1.toInt (fa 27 x1.toNatClampNeg).toInt (stF v fa x1.toNatClampNeg (v 38).toInt (v 38).toInt) x2.toInt r.toInt ∧ rO2 v fa u r (u.2 27 = upd (fa 27) x1.toNatClampNeg x2))) (fun u t => va_P (dC, dI) vwCl (mW g0 pq cp u.1 u.2) t.heap ∧ va_K (dC, dI) vwCl (mT cp) t ∧ va_D (va_A (mW g0 pq cp v fa) sz) (mW g0 pq cp u.1 u.2)) (va_A (mW g0 pq cp v fa) sz)) 0 0 (va_A (mW g0 pq cp v fa) sz) := by
  refine Met.ofW (cc := cX11_advance) (maxL := 3) (ret := (some .int)) (by decide) rfl ?_
  intro p e s m args below meth c s₁ B hml hv
  obtain ⟨rfl, hsz, hP, hK, hD0⟩ := hv
  have hx := B.exec
  have hb := B.bytes
  have hr := B.returns
  have hts := atoms_spec (ws := wsX11_advance) B.pre
  have hown : s.vm.findClass RX11 = some m.cls := findClass_of_methodNamed B.named
  have hlocks := B.notSynchronized
  subst hsz
  have hD := hD0.self (sz := s.heap.size)
  generalize hAe : va_A (mW g0 pq cp v fa) s.heap.size = A at hD ⊢
  have hA : ∀ q : Nat, s.heap.size ≤ q → A q := fun q h => by rw [← hAe]; exact Or.inr h
  have hS : va_S A s.heap s.heap [] := va_S.rf
  have hP : va_P (dC, dI) vwCl (mW g0 pq cp v fa) s.heap := hP
  have hl := lv_entry ([.ref g0, .int x1, .int x2]) (n := 3) (Nat.le_of_ble_eq_true rfl)
  rw [lg_entry_eq]
  generalize (lg_sl ([.ref g0, .int x1, .int x2]) ++ List.replicate (3 - (lg_sl ([.ref g0, .int x1, .int x2])).length) Slot.unset).toArray = ls at hl ⊢
  have hl : lv_has ls 3 [(0, .ref g0), (1, .int x1), (2, .int x2)] := hl
  have iv_1 : 0 ≤ (v 38).toInt ∧ (v 38).toInt ≤ 3000 := gV 38
  have iv_2 : 0 ≤ (v 43).toInt ∧ (v 43).toInt ≤ 60 := gV 43
  refine lv_aload_n hx hb dX11_advance_0 rfl (lv_at hl 0 rfl) ?_
  refine lv_iload_n hx hb dX11_advance_1 rfl (lv_at hl 1 rfl) ?_
  have hFc : ∀ q, va_A [] s.heap.size q → A q := pu_free hS hA
  refine va_calli (va_runV (As := [.int x1]) (rest := []) ⟨hx, hb, hml, hown, hts⟩ (c_X11_isAgreement l dC dI s.heap.size g0 pq cp v fa x1) (cwV 1 hts gX11_advance_X11_isAgreement rfl rfl rfl (by decide +kernel) ⟨(Nat.le_of_ble_eq_true rfl), (Nat.le_of_ble_eq_true rfl)⟩) (pr_V (r := (RX11, TX11, 63)) hP hK hD 0 11 rfl rfl) rfl rfl hl.1 rfl (lv_room (Nat.le_of_ble_eq_true rfl)) dX11_advance_2 ⟨(Nat.le_of_ble_eq_true rfl), (Nat.le_of_ble_eq_true rfl)⟩) hS (fun q _ h => hFc q h) hFc (fun r_4 u t H locs ht hvm w_3 hB hz1 hk1 hS => ?_)
  have hP := pu_keep hP hk1
  clear hk1 hz1 hvm hB ht hFc
  have hbr_4 : 0 ≤ r_4.toInt ∧ r_4.toInt ≤ 1 := iv_of w_3 (isI_i _ _)
  refine lv_if_ne (tgt := 14) hx hb dX11_advance_5 (by decide) (fun c_5 => ?_) (fun c_5 => ?_)
  · have dc_5 := c_ne (a := r_4.toInt) (b := 0) rfl (by decide) c_5
    have hi_6 := isI_t w_3 (fun q => c_5 (Int32.toInt_inj.mp q))
    have khi_6 : (v 43).toInt ≤ 60 := (gV 43).2
    refine lv_aload_n hx hb dX11_advance_14 rfl (lv_at hl 0 rfl) ?_
    refine va_get (D := (dC, dI)) (ci := 11) (v := .ref (pq 27)) (C := RX11) (T := TX11) (N := 63) hx hb hts in_wsX11_advance_X11 hown hK hP 0 rfl rfl 27 (by decide) (hts (.fieldLink RX11 91 "ShipOfficeModel" "note" "[I") iw_X11_advance_1) (fun _ h9 => h9) rfl dX11_advance_15 ?_
    refine lv_iload_n hx hb dX11_advance_18 rfl (lv_at hl 1 rfl) ?_
    refine va_iald hx hb hK hP 28 27 rfl rfl (vp_in_iff.mpr (by omega)) dX11_advance_19 ?_
    refine lv_topi (fun x_7 ex_7 => ?_)
    have gx_7 : x_7.toInt = (fa 27 (x1 : Int32).toNatClampNeg).toInt := iv_to ex_7
    clear ex_7
    refine lv_if_gt (tgt := 39) hx hb dX11_advance_20 (by decide) (fun c_8 => ?_) (fun c_8 => ?_)
    · have dc_8 := c_lt (a := 0) (b := x_7.toInt) (by decide) rfl c_8
      refine lv_aload_n hx hb dX11_advance_39 rfl (lv_at hl 0 rfl) ?_
      refine lv_bipush (v := (-3)) hx hb dX11_advance_40 (by decide) ?_
      have hFc := va_free (wc := (mW g0 pq cp v fa)) hD hS hA (List.range 48) rfl
      refine va_calli (va_runV (As := [.int (-3)]) (rest := []) ⟨hx, hb, hml, hown, hts⟩ (c_X11_refuse_f l dC dI H.size g0 pq cp v fa (-3) (by unfold vp_in; decide)) (cwV 1 hts gX11_advance_X11_refuse rfl rfl rfl (by decide +kernel) ⟨(Nat.le_of_ble_eq_true rfl), (Nat.le_of_ble_eq_true rfl)⟩) (pr_V (r := (RX11, TX11, 63)) hP hK hD 0 11 rfl rfl) rfl rfl hl.1 rfl (lv_room (Nat.le_of_ble_eq_true rfl)) dX11_advance_42 ⟨(Nat.le_of_ble_eq_true rfl), (Nat.le_of_ble_eq_true rfl)⟩) hS (fun q _ h => hFc q h) hFc (fun r_10 u t H locs ht hvm w_9 hB hz1 hk1 hS => ?_)
      obtain ⟨v_11, fa_12⟩ := u
      obtain ⟨hP1, hK1, hD1⟩ := hB
      rw [ht] at hP1
      have hP : va_P (dC, dI) vwCl (mW g0 pq cp v_11 fa_12) H := hP1
      have hD : va_D A (mW g0 pq cp v_11 fa_12) := hD1.weaken (fun _ _ _ h => hFc _ h)
      clear hP1 hK1 hD1 hk1 hz1 hvm ht hFc
      obtain ⟨rfl, hs1_13⟩ := w_9
      have hVv_11 : mV v_11 := sm0_V (sm1_0 hs1_13) gV
      have hAv_11 : mA fa_12 := sm0_A (sm1_0 hs1_13) gA
      have g_14 : (v_11 38).toInt = (v 38).toInt := congrArg Int32.toInt (congrFun hs1_13.1 38)
      have g_15 : (v_11 43).toInt = (v 43).toInt := congrArg Int32.toInt (congrFun hs1_13.1 43)
      have hRv_11 : mX [0, 27, 45, 47, 48, 49, 50, 51, 52, 53, 54, 55, 56, 57, 58, 59, 60] v fa v_11 fa_12 := mX.st mX.rf (mX.s0 (sm1_0 hs1_13)) (by decide)
      exact W.iret (v := (-3)) hx hb hr (fun t ht hW => ⟨⟨(-3), (v_11, fa_12), rfl, ⟨hVv_11, hAv_11, hRv_11, ⟨by have rc : ((-3) : Int32).toInt = -3 := (by decide); unfold aAd; omega, Or.inl ⟨by decide, sm2_1 hs1_13⟩⟩⟩, ⟨by rw [ht]; exact hP, va_K.moved hW.alike hK, hD⟩⟩, hS.F ht⟩) hS.2.2 dX11_advance_45
    · have dc_8 := c_nlt (a := 0) (b := x_7.toInt) (by decide) rfl c_8
      refine lv_aload_n hx hb dX11_advance_23 rfl (lv_at hl 0 rfl) ?_
      refine lv_iload_n hx hb dX11_advance_24 rfl (lv_at hl 1 rfl) ?_
      refine lv_aload_n hx hb dX11_advance_25 rfl (lv_at hl 0 rfl) ?_
      refine va_get (D := (dC, dI)) (ci := 11) (v := .int (v 38)) (C := RX11) (T := TX11) (N := 63) hx hb hts in_wsX11_advance_X11 hown hK hP 0 rfl rfl 38 (by decide) (hts (.fieldLink RX11 171 "ShipOfficeModel" "now" "I") iw_X11_advance_2) (fun _ h9 => h9) rfl dX11_advance_26 ?_
      refine lv_topi (fun x_16 ex_16 => ?_)
      have hx_16 : 0 ≤ x_16.toInt ∧ x_16.toInt ≤ 3000 := iv_of ex_16 (gV 38)
      have gx_16 : x_16.toInt = (v 38).toInt := iv_to ex_16
      clear ex_16
      refine lv_aload_n hx hb dX11_advance_29 rfl (lv_at hl 0 rfl) ?_
      refine va_get (D := (dC, dI)) (ci := 11) (v := .int (v 38)) (C := RX11) (T := TX11) (N := 63) hx hb hts in_wsX11_advance_X11 hown hK hP 0 rfl rfl 38 (by decide) (hts (.fieldLink RX11 171 "ShipOfficeModel" "now" "I") iw_X11_advance_2) (fun _ h9 => h9) rfl dX11_advance_30 ?_
      refine lv_topi (fun x_17 ex_17 => ?_)
      have hx_17 : 0 ≤ x_17.toInt ∧ x_17.toInt ≤ 3000 := iv_of ex_17 (gV 38)
      have gx_17 : x_17.toInt = (v 38).toInt := iv_to ex_17
      clear ex_17
      have hFc := va_free (wc := (mW g0 pq cp v fa)) hD hS hA (List.range 48) rfl
      refine va_calli (va_runV (As := [.int x1, .int x_16, .int x_17]) (rest := []) ⟨hx, hb, hml, hown, hts⟩ (c_X11_stateOf_f l dC dI H.size g0 pq cp v fa gV gA x1 (by omega) x_16 (by omega) x_17 hWl) (cwV 3 hts gX11_advance_X11_stateOf rfl rfl rfl (by decide +kernel) ⟨(Nat.le_of_ble_eq_true rfl), (Nat.le_of_ble_eq_true rfl)⟩) (pr_V (r := (RX11, TX11, 63)) hP hK hD 0 11 rfl rfl) rfl rfl hl.1 rfl (lv_room (Nat.le_of_ble_eq_true rfl)) dX11_advance_33 ⟨(Nat.le_of_ble_eq_true rfl), (Nat.le_of_ble_eq_true rfl)⟩) hS (fun q _ h => hFc q h) hFc (fun r_19 u t H locs ht hvm w_18 hB hz1 hk1 hS => ?_)
      obtain ⟨v_20, fa_21⟩ := u
      obtain ⟨hP1, hK1, hD1⟩ := hB
      rw [ht] at hP1
      have hP : va_P (dC, dI) vwCl (mW g0 pq cp v_20 fa_21) H := hP1
      have hD : va_D A (mW g0 pq cp v_20 fa_21) := hD1.weaken (fun _ _ _ h => hFc _ h)
      clear hP1 hK1 hD1 hk1 hz1 hvm ht hFc
      obtain ⟨hV_22, hA_23, hR_24, hb_25, hx_26⟩ := w_18
      dsimp only at hV_22 hA_23 hR_24 hb_25 hx_26
      have g_27 : (v_20 38).toInt = (v 38).toInt := congrArg Int32.toInt (hR_24.1 38 rfl)
      have g_28 : (v_20 43).toInt = (v 43).toInt := congrArg Int32.toInt (hR_24.1 43 rfl)
      have g_29 : (fa_21 27 (x1 : Int32).toNatClampNeg).toInt = (fa 27 (x1 : Int32).toNatClampNeg).toInt := congrArg (fun h : Nat → Int32 => Int32.toInt (h (x1 : Int32).toNatClampNeg)) (hR_24.2 27 rfl)
      have R_30 : mX [0, 27, 45, 47, 48, 49, 50, 51, 52, 53, 54, 55, 56, 57, 58, 59, 60] v fa v_20 fa_21 := mX.st mX.rf (mX.scr hR_24) (by decide)
      try rw [gx_16] at hx_26
      try rw [gx_17] at hx_26
      have sc_31 := scr.tr scr.rf hR_24
      have q0_32 : fa_21 0 = fa 0 := (hR_24.2 0 rfl).trans rfl
      refine lv_if_eq (tgt := 46) hx hb dX11_advance_36 (by decide) (fun c_33 => ?_) (fun c_33 => ?_)
      · have dc_33 := c_eq (a := r_19.toInt) (b := 0) rfl (by decide) c_33
        refine lv_iload_n hx hb dX11_advance_46 rfl (lv_at hl 2 rfl) ?_
        refine lv_iconst (v := 1) hx hb dX11_advance_47 (by decide) ?_
        refine lv_icmp_ge (tgt := 58) hx hb dX11_advance_48 (by decide) (fun c_34 => ?_) (fun c_34 => ?_)
        · have dc_34 := c_le (a := 1) (b := x2.toInt) (by decide) rfl c_34
          refine lv_iload_n hx hb dX11_advance_58 rfl (lv_at hl 2 rfl) ?_
          refine lv_ldc (v := 99999) hx hb hown (hts (.constant RX11 178 (99999)) (by decide +kernel)) dX11_advance_59 ?_
          refine lv_icmp_le (tgt := 71) hx hb dX11_advance_61 (by decide) (fun c_35 => ?_) (fun c_35 => ?_)
          · have dc_35 := c_le (a := x2.toInt) (b := 99999) rfl (by decide) c_35
            refine lv_aload_n hx hb dX11_advance_71 rfl (lv_at hl 0 rfl) ?_
            refine va_get (D := (dC, dI)) (ci := 11) (v := .ref (pq 27)) (C := RX11) (T := TX11) (N := 63) hx hb hts in_wsX11_advance_X11 hown hK hP 0 rfl rfl 27 (by decide) (hts (.fieldLink RX11 91 "ShipOfficeModel" "note" "[I") iw_X11_advance_1) (fun _ h9 => h9) rfl dX11_advance_72 ?_
            refine lv_iload_n hx hb dX11_advance_75 rfl (lv_at hl 1 rfl) ?_
            refine lv_iload_n hx hb dX11_advance_76 rfl (lv_at hl 2 rfl) ?_
            refine va_iast hx hb hK hP hD hS 28 27 rfl rfl (vp_in_iff.mpr (by omega)) dX11_advance_77 (fun H locs hP hD hS => ?_)
            have hP : va_P (dC, dI) vwCl (mW g0 pq cp v_20 (upF fa_21 27 (x1 : Int32).toNatClampNeg x2)) H := hP
            have hD : va_D A (mW g0 pq cp v_20 (upF fa_21 27 (x1 : Int32).toNatClampNeg x2)) := hD
            obtain ⟨fz_36, efz_36⟩ : ∃ zq, zq = (upF fa_21 27 (x1 : Int32).toNatClampNeg x2) := ⟨_, rfl⟩
            rw [← efz_36] at hP hD
            have hAfz_36 : mA fz_36 := by rw [efz_36]; exact mA_upF (lo := -2147483648) (hi := 2147483647) hA_23 rfl rfl (iv_all _)
            have hRfz_36 : mX [0, 27, 45, 47, 48, 49, 50, 51, 52, 53, 54, 55, 56, 57, 58, 59, 60] v fa v_20 fz_36 := by rw [efz_36]; exact mX.uF R_30 (by decide)
            have q0_37 : fz_36 0 = fa 0 := by rw [efz_36]; exact (if_neg (by decide)).trans q0_32
            have g_38 : (fz_36 27 (x1 : Int32).toNatClampNeg).toInt = x2.toInt := by rw [efz_36]; exact uF_eq
            refine lv_iconst (v := 1) hx hb dX11_advance_78 (by decide) ?_
            exact W.iret (v := 1) hx hb hr (fun t ht hW => ⟨⟨1, (v_20, fz_36), rfl, ⟨hV_22, hAfz_36, hRfz_36, ⟨by have rc : (1 : Int32).toInt = 1 := (by decide); unfold aAd; omega, Or.inr ⟨by have rc : (1 : Int32).toInt = 1 := (by decide); omega, (by dsimp only; exact q0_37), (by dsimp only; rw [efz_36]; exact congrArg (fun f => upd f _ _) (sc_31.2 27 rfl))⟩⟩⟩, ⟨by rw [ht]; exact hP, va_K.moved hW.alike hK, hD⟩⟩, hS.F ht⟩) hS.2.2 dX11_advance_79
          · have dc_35 := c_nle (a := x2.toInt) (b := 99999) rfl (by decide) c_35
            refine lv_aload_n hx hb dX11_advance_64 rfl (lv_at hl 0 rfl) ?_
            refine lv_bipush (v := (-6)) hx hb dX11_advance_65 (by decide) ?_
            have hFc := va_free (wc := (mW g0 pq cp v_20 fa_21)) hD hS hA (List.range 48) rfl
            refine va_calli (va_runV (As := [.int (-6)]) (rest := []) ⟨hx, hb, hml, hown, hts⟩ (c_X11_refuse_f l dC dI H.size g0 pq cp v_20 fa_21 (-6) (by unfold vp_in; decide)) (cwV 1 hts gX11_advance_X11_refuse rfl rfl rfl (by decide +kernel) ⟨(Nat.le_of_ble_eq_true rfl), (Nat.le_of_ble_eq_true rfl)⟩) (pr_V (r := (RX11, TX11, 63)) hP hK hD 0 11 rfl rfl) rfl rfl hl.1 rfl (lv_room (Nat.le_of_ble_eq_true rfl)) dX11_advance_67 ⟨(Nat.le_of_ble_eq_true rfl), (Nat.le_of_ble_eq_true rfl)⟩) hS (fun q _ h => hFc q h) hFc (fun r_40 u t H locs ht hvm w_39 hB hz1 hk1 hS => ?_)
            obtain ⟨v_41, fa_42⟩ := u
            obtain ⟨hP1, hK1, hD1⟩ := hB
            rw [ht] at hP1
            have hP : va_P (dC, dI) vwCl (mW g0 pq cp v_41 fa_42) H := hP1
            have hD : va_D A (mW g0 pq cp v_41 fa_42) := hD1.weaken (fun _ _ _ h => hFc _ h)
            clear hP1 hK1 hD1 hk1 hz1 hvm ht hFc
            obtain ⟨rfl, hs1_43⟩ := w_39
            have hVv_41 : mV v_41 := sm0_V (sm1_0 hs1_43) hV_22
            have hAv_41 : mA fa_42 := sm0_A (sm1_0 hs1_43) hA_23
            have g_44 : (v_41 38).toInt = (v_20 38).toInt := congrArg Int32.toInt (congrFun hs1_43.1 38)
            have g_45 : (v_41 43).toInt = (v_20 43).toInt := congrArg Int32.toInt (congrFun hs1_43.1 43)
            have hRv_41 : mX [0, 27, 45, 47, 48, 49, 50, 51, 52, 53, 54, 55, 56, 57, 58, 59, 60] v fa v_41 fa_42 := mX.st R_30 (mX.s0 (sm1_0 hs1_43)) (by decide)
            exact W.iret (v := (-6)) hx hb hr (fun t ht hW => ⟨⟨(-6), (v_41, fa_42), rfl, ⟨hVv_41, hAv_41, hRv_41, ⟨by have rc : ((-6) : Int32).toInt = -6 := (by decide); unfold aAd; omega, Or.inl ⟨by decide, sm2_s sc_31 hs1_43⟩⟩⟩, ⟨by rw [ht]; exact hP, va_K.moved hW.alike hK, hD⟩⟩, hS.F ht⟩) hS.2.2 dX11_advance_70
        · have dc_34 := c_nle (a := 1) (b := x2.toInt) (by decide) rfl c_34
          refine lv_aload_n hx hb dX11_advance_51 rfl (lv_at hl 0 rfl) ?_
          refine lv_bipush (v := (-4)) hx hb dX11_advance_52 (by decide) ?_
          have hFc := va_free (wc := (mW g0 pq cp v_20 fa_21)) hD hS hA (List.range 48) rfl
          refine va_calli (va_runV (As := [.int (-4)]) (rest := []) ⟨hx, hb, hml, hown, hts⟩ (c_X11_refuse_f l dC dI H.size g0 pq cp v_20 fa_21 (-4) (by unfold vp_in; decide)) (cwV 1 hts gX11_advance_X11_refuse rfl rfl rfl (by decide +kernel) ⟨(Nat.le_of_ble_eq_true rfl), (Nat.le_of_ble_eq_true rfl)⟩) (pr_V (r := (RX11, TX11, 63)) hP hK hD 0 11 rfl rfl) rfl rfl hl.1 rfl (lv_room (Nat.le_of_ble_eq_true rfl)) dX11_advance_54 ⟨(Nat.le_of_ble_eq_true rfl), (Nat.le_of_ble_eq_true rfl)⟩) hS (fun q _ h => hFc q h) hFc (fun r_47 u t H locs ht hvm w_46 hB hz1 hk1 hS => ?_)
          obtain ⟨v_48, fa_49⟩ := u
          obtain ⟨hP1, hK1, hD1⟩ := hB
          rw [ht] at hP1
          have hP : va_P (dC, dI) vwCl (mW g0 pq cp v_48 fa_49) H := hP1
          have hD : va_D A (mW g0 pq cp v_48 fa_49) := hD1.weaken (fun _ _ _ h => hFc _ h)
          clear hP1 hK1 hD1 hk1 hz1 hvm ht hFc
          obtain ⟨rfl, hs1_50⟩ := w_46
          have hVv_48 : mV v_48 := sm0_V (sm1_0 hs1_50) hV_22
          have hAv_48 : mA fa_49 := sm0_A (sm1_0 hs1_50) hA_23
          have g_51 : (v_48 38).toInt = (v_20 38).toInt := congrArg Int32.toInt (congrFun hs1_50.1 38)
          have g_52 : (v_48 43).toInt = (v_20 43).toInt := congrArg Int32.toInt (congrFun hs1_50.1 43)
          have hRv_48 : mX [0, 27, 45, 47, 48, 49, 50, 51, 52, 53, 54, 55, 56, 57, 58, 59, 60] v fa v_48 fa_49 := mX.st R_30 (mX.s0 (sm1_0 hs1_50)) (by decide)
          exact W.iret (v := (-4)) hx hb hr (fun t ht hW => ⟨⟨(-4), (v_48, fa_49), rfl, ⟨hVv_48, hAv_48, hRv_48, ⟨by have rc : ((-4) : Int32).toInt = -4 := (by decide); unfold aAd; omega, Or.inl ⟨by decide, sm2_s sc_31 hs1_50⟩⟩⟩, ⟨by rw [ht]; exact hP, va_K.moved hW.alike hK, hD⟩⟩, hS.F ht⟩) hS.2.2 dX11_advance_57
      · have dc_33 := c_ne (a := r_19.toInt) (b := 0) rfl (by decide) c_33
        refine lv_aload_n hx hb dX11_advance_39 rfl (lv_at hl 0 rfl) ?_
        refine lv_bipush (v := (-3)) hx hb dX11_advance_40 (by decide) ?_
        have hFc := va_free (wc := (mW g0 pq cp v_20 fa_21)) hD hS hA (List.range 48) rfl
        refine va_calli (va_runV (As := [.int (-3)]) (rest := []) ⟨hx, hb, hml, hown, hts⟩ (c_X11_refuse_f l dC dI H.size g0 pq cp v_20 fa_21 (-3) (by unfold vp_in; decide)) (cwV 1 hts gX11_advance_X11_refuse rfl rfl rfl (by decide +kernel) ⟨(Nat.le_of_ble_eq_true rfl), (Nat.le_of_ble_eq_true rfl)⟩) (pr_V (r := (RX11, TX11, 63)) hP hK hD 0 11 rfl rfl) rfl rfl hl.1 rfl (lv_room (Nat.le_of_ble_eq_true rfl)) dX11_advance_42 ⟨(Nat.le_of_ble_eq_true rfl), (Nat.le_of_ble_eq_true rfl)⟩) hS (fun q _ h => hFc q h) hFc (fun r_54 u t H locs ht hvm w_53 hB hz1 hk1 hS => ?_)
        obtain ⟨v_55, fa_56⟩ := u
        obtain ⟨hP1, hK1, hD1⟩ := hB
        rw [ht] at hP1
        have hP : va_P (dC, dI) vwCl (mW g0 pq cp v_55 fa_56) H := hP1
        have hD : va_D A (mW g0 pq cp v_55 fa_56) := hD1.weaken (fun _ _ _ h => hFc _ h)
        clear hP1 hK1 hD1 hk1 hz1 hvm ht hFc
        obtain ⟨rfl, hs1_57⟩ := w_53
        have hVv_55 : mV v_55 := sm0_V (sm1_0 hs1_57) hV_22
        have hAv_55 : mA fa_56 := sm0_A (sm1_0 hs1_57) hA_23
        have g_58 : (v_55 38).toInt = (v_20 38).toInt := congrArg Int32.toInt (congrFun hs1_57.1 38)
        have g_59 : (v_55 43).toInt = (v_20 43).toInt := congrArg Int32.toInt (congrFun hs1_57.1 43)
        have hRv_55 : mX [0, 27, 45, 47, 48, 49, 50, 51, 52, 53, 54, 55, 56, 57, 58, 59, 60] v fa v_55 fa_56 := mX.st R_30 (mX.s0 (sm1_0 hs1_57)) (by decide)
        exact W.iret (v := (-3)) hx hb hr (fun t ht hW => ⟨⟨(-3), (v_55, fa_56), rfl, ⟨hVv_55, hAv_55, hRv_55, ⟨by have rc : ((-3) : Int32).toInt = -3 := (by decide); unfold aAd; omega, Or.inl ⟨by decide, sm2_s sc_31 hs1_57⟩⟩⟩, ⟨by rw [ht]; exact hP, va_K.moved hW.alike hK, hD⟩⟩, hS.F ht⟩) hS.2.2 dX11_advance_45
  · have dc_5 := c_eq (a := r_4.toInt) (b := 0) rfl (by decide) c_5
    have hz_60 := isI_0 (w_3.symm.trans c_5)
    refine lv_aload_n hx hb dX11_advance_8 rfl (lv_at hl 0 rfl) ?_
    refine lv_iconst (v := (-1)) hx hb dX11_advance_9 (by decide) ?_
    have hFc := va_free (wc := (mW g0 pq cp v fa)) hD hS hA (List.range 48) rfl
    refine va_calli (va_runV (As := [.int (-1)]) (rest := []) ⟨hx, hb, hml, hown, hts⟩ (c_X11_refuse_f l dC dI H.size g0 pq cp v fa (-1) (by unfold vp_in; decide)) (cwV 1 hts gX11_advance_X11_refuse rfl rfl rfl (by decide +kernel) ⟨(Nat.le_of_ble_eq_true rfl), (Nat.le_of_ble_eq_true rfl)⟩) (pr_V (r := (RX11, TX11, 63)) hP hK hD 0 11 rfl rfl) rfl rfl hl.1 rfl (lv_room (Nat.le_of_ble_eq_true rfl)) dX11_advance_10 ⟨(Nat.le_of_ble_eq_true rfl), (Nat.le_of_ble_eq_true rfl)⟩) hS (fun q _ h => hFc q h) hFc (fun r_62 u t H locs ht hvm w_61 hB hz1 hk1 hS => ?_)
    obtain ⟨v_63, fa_64⟩ := u
    obtain ⟨hP1, hK1, hD1⟩ := hB
    rw [ht] at hP1
    have hP : va_P (dC, dI) vwCl (mW g0 pq cp v_63 fa_64) H := hP1
    have hD : va_D A (mW g0 pq cp v_63 fa_64) := hD1.weaken (fun _ _ _ h => hFc _ h)
    clear hP1 hK1 hD1 hk1 hz1 hvm ht hFc
    obtain ⟨rfl, hs1_65⟩ := w_61
    have hVv_63 : mV v_63 := sm0_V (sm1_0 hs1_65) gV
    have hAv_63 : mA fa_64 := sm0_A (sm1_0 hs1_65) gA
    have g_66 : (v_63 38).toInt = (v 38).toInt := congrArg Int32.toInt (congrFun hs1_65.1 38)
    have g_67 : (v_63 43).toInt = (v 43).toInt := congrArg Int32.toInt (congrFun hs1_65.1 43)
    have hRv_63 : mX [0, 27, 45, 47, 48, 49, 50, 51, 52, 53, 54, 55, 56, 57, 58, 59, 60] v fa v_63 fa_64 := mX.st mX.rf (mX.s0 (sm1_0 hs1_65)) (by decide)
    exact W.iret (v := (-1)) hx hb hr (fun t ht hW => ⟨⟨(-1), (v_63, fa_64), rfl, ⟨hVv_63, hAv_63, hRv_63, ⟨by have rc : ((-1) : Int32).toInt = -1 := (by decide); unfold aAd; omega, Or.inl ⟨by decide, sm2_1 hs1_65⟩⟩⟩, ⟨by rw [ht]; exact hP, va_K.moved hW.alike hK, hD⟩⟩, hS.F ht⟩) hS.2.2 dX11_advance_13
set_option maxHeartbeats 4000000 in
set_option maxRecDepth 100000 in
theorem c_X11_sold_f (l : Launch) (dC : Nat → ClassId) (dI : Nat → Nat → Nat) (sz : Nat) (g0 : Nat) (pq : Nat → Nat) (cp : Nat → ClassId) (v : Nat → Int32) (fa : Nat → Nat → Int32) (gV : mV v) (gA : mA fa) (x1 : Int32) (x2 : Int32) (hXb : xB fa) : Met l yX11_sold wsX11_sold ({ frames := 2, cells := 0, slots := 0, locals := 42 }) (va_Pc [.ref g0, .int x1, .int x2] (pcW (dC, dI) (mT cp) (mW g0 pq cp v fa) sz)) (va_Qi (fun (r : Int32) (u : (Nat → Int32) × (Nat → Nat → Int32)) => mV u.1 ∧ mA u.2 ∧ mX [0, 28] v fa u.1 u.2 ∧ (aSo (v 43).toInt x1.toInt (fa 27 x1.toNatClampNeg).toInt (fa 28 x1.toNatClampNeg).toInt x2.toInt r.toInt ∧ rO2 v fa u r (u.2 28 = upd (fa 28) x1.toNatClampNeg x2))) (fun u t => va_P (dC, dI) vwCl (mW g0 pq cp u.1 u.2) t.heap ∧ va_K (dC, dI) vwCl (mT cp) t ∧ va_D (va_A (mW g0 pq cp v fa) sz) (mW g0 pq cp u.1 u.2)) (va_A (mW g0 pq cp v fa) sz)) 0 0 (va_A (mW g0 pq cp v fa) sz) := by
  refine Met.ofW (cc := cX11_sold) (maxL := 3) (ret := (some .int)) (by decide) rfl ?_
  intro p e s m args below meth c s₁ B hml hv
  obtain ⟨rfl, hsz, hP, hK, hD0⟩ := hv
  have hx := B.exec
  have hb := B.bytes
  have hr := B.returns
  have hts := atoms_spec (ws := wsX11_sold) B.pre
  have hown : s.vm.findClass RX11 = some m.cls := findClass_of_methodNamed B.named
  have hlocks := B.notSynchronized
  subst hsz
  have hD := hD0.self (sz := s.heap.size)
  generalize hAe : va_A (mW g0 pq cp v fa) s.heap.size = A at hD ⊢
  have hA : ∀ q : Nat, s.heap.size ≤ q → A q := fun q h => by rw [← hAe]; exact Or.inr h
  have hS : va_S A s.heap s.heap [] := va_S.rf
  have hP : va_P (dC, dI) vwCl (mW g0 pq cp v fa) s.heap := hP
  have hl := lv_entry ([.ref g0, .int x1, .int x2]) (n := 3) (Nat.le_of_ble_eq_true rfl)
  rw [lg_entry_eq]
  generalize (lg_sl ([.ref g0, .int x1, .int x2]) ++ List.replicate (3 - (lg_sl ([.ref g0, .int x1, .int x2])).length) Slot.unset).toArray = ls at hl ⊢
  have hl : lv_has ls 3 [(0, .ref g0), (1, .int x1), (2, .int x2)] := hl
  have iv_1 : 0 ≤ (v 43).toInt ∧ (v 43).toInt ≤ 60 := gV 43
  refine lv_aload_n hx hb dX11_sold_0 rfl (lv_at hl 0 rfl) ?_
  refine lv_iload_n hx hb dX11_sold_1 rfl (lv_at hl 1 rfl) ?_
  have hFc : ∀ q, va_A [] s.heap.size q → A q := pu_free hS hA
  refine va_calli (va_runV (As := [.int x1]) (rest := []) ⟨hx, hb, hml, hown, hts⟩ (c_X11_isAgreement l dC dI s.heap.size g0 pq cp v fa x1) (cwV 1 hts gX11_sold_X11_isAgreement rfl rfl rfl (by decide +kernel) ⟨(Nat.le_of_ble_eq_true rfl), (Nat.le_of_ble_eq_true rfl)⟩) (pr_V (r := (RX11, TX11, 63)) hP hK hD 0 11 rfl rfl) rfl rfl hl.1 rfl (lv_room (Nat.le_of_ble_eq_true rfl)) dX11_sold_2 ⟨(Nat.le_of_ble_eq_true rfl), (Nat.le_of_ble_eq_true rfl)⟩) hS (fun q _ h => hFc q h) hFc (fun r_3 u t H locs ht hvm w_2 hB hz1 hk1 hS => ?_)
  have hP := pu_keep hP hk1
  clear hk1 hz1 hvm hB ht hFc
  have hbr_3 : 0 ≤ r_3.toInt ∧ r_3.toInt ≤ 1 := iv_of w_2 (isI_i _ _)
  refine lv_if_ne (tgt := 14) hx hb dX11_sold_5 (by decide) (fun c_4 => ?_) (fun c_4 => ?_)
  · have dc_4 := c_ne (a := r_3.toInt) (b := 0) rfl (by decide) c_4
    have hi_5 := isI_t w_2 (fun q => c_4 (Int32.toInt_inj.mp q))
    have khi_5 : (v 43).toInt ≤ 60 := (gV 43).2
    refine lv_aload_n hx hb dX11_sold_14 rfl (lv_at hl 0 rfl) ?_
    refine va_get (D := (dC, dI)) (ci := 11) (v := .ref (pq 27)) (C := RX11) (T := TX11) (N := 63) hx hb hts in_wsX11_sold_X11 hown hK hP 0 rfl rfl 27 (by decide) (hts (.fieldLink RX11 91 "ShipOfficeModel" "note" "[I") iw_X11_sold_1) (fun _ h9 => h9) rfl dX11_sold_15 ?_
    refine lv_iload_n hx hb dX11_sold_18 rfl (lv_at hl 1 rfl) ?_
    refine va_iald hx hb hK hP 28 27 rfl rfl (vp_in_iff.mpr (by omega)) dX11_sold_19 ?_
    refine lv_topi (fun x_6 ex_6 => ?_)
    have gx_6 : x_6.toInt = (fa 27 (x1 : Int32).toNatClampNeg).toInt := iv_to ex_6
    clear ex_6
    have xb_7 : 0 ≤ x_6.toInt ∧ x_6.toInt ≤ 99999 := by rw [gx_6]; exact (hXb _).1
    refine lv_if_eq (tgt := 32) hx hb dX11_sold_20 (by decide) (fun c_8 => ?_) (fun c_8 => ?_)
    · have dc_8 := c_eq (a := x_6.toInt) (b := 0) rfl (by decide) c_8
      refine lv_aload_n hx hb dX11_sold_32 rfl (lv_at hl 0 rfl) ?_
      refine lv_bipush (v := (-3)) hx hb dX11_sold_33 (by decide) ?_
      have hFc := va_free (wc := (mW g0 pq cp v fa)) hD hS hA (List.range 48) rfl
      refine va_calli (va_runV (As := [.int (-3)]) (rest := []) ⟨hx, hb, hml, hown, hts⟩ (c_X11_refuse_f l dC dI H.size g0 pq cp v fa (-3) (by unfold vp_in; decide)) (cwV 1 hts gX11_sold_X11_refuse rfl rfl rfl (by decide +kernel) ⟨(Nat.le_of_ble_eq_true rfl), (Nat.le_of_ble_eq_true rfl)⟩) (pr_V (r := (RX11, TX11, 63)) hP hK hD 0 11 rfl rfl) rfl rfl hl.1 rfl (lv_room (Nat.le_of_ble_eq_true rfl)) dX11_sold_35 ⟨(Nat.le_of_ble_eq_true rfl), (Nat.le_of_ble_eq_true rfl)⟩) hS (fun q _ h => hFc q h) hFc (fun r_10 u t H locs ht hvm w_9 hB hz1 hk1 hS => ?_)
      obtain ⟨v_11, fa_12⟩ := u
      obtain ⟨hP1, hK1, hD1⟩ := hB
      rw [ht] at hP1
      have hP : va_P (dC, dI) vwCl (mW g0 pq cp v_11 fa_12) H := hP1
      have hD : va_D A (mW g0 pq cp v_11 fa_12) := hD1.weaken (fun _ _ _ h => hFc _ h)
      clear hP1 hK1 hD1 hk1 hz1 hvm ht hFc
      obtain ⟨rfl, hs1_13⟩ := w_9
      have hVv_11 : mV v_11 := sm0_V (sm1_0 hs1_13) gV
      have hAv_11 : mA fa_12 := sm0_A (sm1_0 hs1_13) gA
      have g_14 : (v_11 43).toInt = (v 43).toInt := congrArg Int32.toInt (congrFun hs1_13.1 43)
      have hRv_11 : mX [0, 28] v fa v_11 fa_12 := mX.st mX.rf (mX.s0 (sm1_0 hs1_13)) (by decide)
      exact W.iret (v := (-3)) hx hb hr (fun t ht hW => ⟨⟨(-3), (v_11, fa_12), rfl, ⟨hVv_11, hAv_11, hRv_11, ⟨by have rc : ((-3) : Int32).toInt = -3 := (by decide); unfold aSo; omega, Or.inl ⟨by decide, sm2_1 hs1_13⟩⟩⟩, ⟨by rw [ht]; exact hP, va_K.moved hW.alike hK, hD⟩⟩, hS.F ht⟩) hS.2.2 dX11_sold_38
    · have dc_8 := c_ne (a := x_6.toInt) (b := 0) rfl (by decide) c_8
      refine lv_aload_n hx hb dX11_sold_23 rfl (lv_at hl 0 rfl) ?_
      refine va_get (D := (dC, dI)) (ci := 11) (v := .ref (pq 28)) (C := RX11) (T := TX11) (N := 63) hx hb hts in_wsX11_sold_X11 hown hK hP 0 rfl rfl 28 (by decide) (hts (.fieldLink RX11 94 "ShipOfficeModel" "given" "[I") iw_X11_sold_2) (fun _ h9 => h9) rfl dX11_sold_24 ?_
      refine lv_iload_n hx hb dX11_sold_27 rfl (lv_at hl 1 rfl) ?_
      refine va_iald hx hb hK hP 29 28 rfl rfl (vp_in_iff.mpr (by omega)) dX11_sold_28 ?_
      refine lv_topi (fun x_15 ex_15 => ?_)
      have gx_15 : x_15.toInt = (fa 28 (x1 : Int32).toNatClampNeg).toInt := iv_to ex_15
      clear ex_15
      refine lv_if_le (tgt := 39) hx hb dX11_sold_29 (by decide) (fun c_16 => ?_) (fun c_16 => ?_)
      · have dc_16 := c_le (a := x_15.toInt) (b := 0) rfl (by decide) c_16
        refine lv_iload_n hx hb dX11_sold_39 rfl (lv_at hl 2 rfl) ?_
        refine lv_iconst (v := 1) hx hb dX11_sold_40 (by decide) ?_
        refine lv_icmp_ge (tgt := 51) hx hb dX11_sold_41 (by decide) (fun c_17 => ?_) (fun c_17 => ?_)
        · have dc_17 := c_le (a := 1) (b := x2.toInt) (by decide) rfl c_17
          refine lv_iload_n hx hb dX11_sold_51 rfl (lv_at hl 2 rfl) ?_
          refine lv_aload_n hx hb dX11_sold_52 rfl (lv_at hl 0 rfl) ?_
          refine va_get (D := (dC, dI)) (ci := 11) (v := .ref (pq 27)) (C := RX11) (T := TX11) (N := 63) hx hb hts in_wsX11_sold_X11 hown hK hP 0 rfl rfl 27 (by decide) (hts (.fieldLink RX11 91 "ShipOfficeModel" "note" "[I") iw_X11_sold_1) (fun _ h9 => h9) rfl dX11_sold_53 ?_
          refine lv_iload_n hx hb dX11_sold_56 rfl (lv_at hl 1 rfl) ?_
          refine va_iald hx hb hK hP 28 27 rfl rfl (vp_in_iff.mpr (by omega)) dX11_sold_57 ?_
          refine lv_topi (fun x_18 ex_18 => ?_)
          have gx_18 : x_18.toInt = (fa 27 (x1 : Int32).toNatClampNeg).toInt := iv_to ex_18
          clear ex_18
          have xb_19 : 0 ≤ x_18.toInt ∧ x_18.toInt ≤ 99999 := by rw [gx_18]; exact (hXb _).1
          refine lv_icmp_lt (tgt := 68) hx hb dX11_sold_58 (by decide) (fun c_20 => ?_) (fun c_20 => ?_)
          · have dc_20 := c_lt (a := x2.toInt) (b := x_18.toInt) rfl rfl c_20
            refine lv_aload_n hx hb dX11_sold_68 rfl (lv_at hl 0 rfl) ?_
            refine va_get (D := (dC, dI)) (ci := 11) (v := .ref (pq 28)) (C := RX11) (T := TX11) (N := 63) hx hb hts in_wsX11_sold_X11 hown hK hP 0 rfl rfl 28 (by decide) (hts (.fieldLink RX11 94 "ShipOfficeModel" "given" "[I") iw_X11_sold_2) (fun _ h9 => h9) rfl dX11_sold_69 ?_
            refine lv_iload_n hx hb dX11_sold_72 rfl (lv_at hl 1 rfl) ?_
            refine lv_iload_n hx hb dX11_sold_73 rfl (lv_at hl 2 rfl) ?_
            refine va_iast hx hb hK hP hD hS 29 28 rfl rfl (vp_in_iff.mpr (by omega)) dX11_sold_74 (fun H locs hP hD hS => ?_)
            have hP : va_P (dC, dI) vwCl (mW g0 pq cp v (upF fa 28 (x1 : Int32).toNatClampNeg x2)) H := hP
            have hD : va_D A (mW g0 pq cp v (upF fa 28 (x1 : Int32).toNatClampNeg x2)) := hD
            obtain ⟨fz_21, efz_21⟩ : ∃ zq, zq = (upF fa 28 (x1 : Int32).toNatClampNeg x2) := ⟨_, rfl⟩
            rw [← efz_21] at hP hD
            have hAfz_21 : mA fz_21 := by rw [efz_21]; exact mA_upF (lo := -2147483648) (hi := 2147483647) gA rfl rfl (iv_all _)
            have hRfz_21 : mX [0, 28] v fa v fz_21 := by rw [efz_21]; exact mX.uF mX.rf (by decide)
            have g_22 : (fz_21 27 (x1 : Int32).toNatClampNeg).toInt = (fa 27 (x1 : Int32).toNatClampNeg).toInt := by rw [efz_21]; exact uF_ne (by decide)
            have q0_23 : fz_21 0 = fa 0 := by rw [efz_21]; exact (if_neg (by decide)).trans rfl
            have g_24 : (fz_21 28 (x1 : Int32).toNatClampNeg).toInt = x2.toInt := by rw [efz_21]; exact uF_eq
            refine lv_aload_n hx hb dX11_sold_75 rfl (lv_at hl 0 rfl) ?_
            refine va_get (D := (dC, dI)) (ci := 11) (v := .ref (pq 27)) (C := RX11) (T := TX11) (N := 63) hx hb hts in_wsX11_sold_X11 hown hK hP 0 rfl rfl 27 (by decide) (hts (.fieldLink RX11 91 "ShipOfficeModel" "note" "[I") iw_X11_sold_1) (fun _ h9 => h9) rfl dX11_sold_76 ?_
            refine lv_iload_n hx hb dX11_sold_79 rfl (lv_at hl 1 rfl) ?_
            refine va_iald hx hb hK hP 28 27 rfl rfl (vp_in_iff.mpr (by omega)) dX11_sold_80 ?_
            refine lv_topi (fun x_25 ex_25 => ?_)
            have gx_25 : x_25.toInt = (fz_21 27 (x1 : Int32).toNatClampNeg).toInt := iv_to ex_25
            clear ex_25
            have xb_26 : 0 ≤ x_25.toInt ∧ x_25.toInt ≤ 99999 := by omega
            refine lv_iload_n hx hb dX11_sold_81 rfl (lv_at hl 2 rfl) ?_
            refine lv_isub hx hb dX11_sold_82 ?_
            refine lv_topi (fun x_27 ex_27 => ?_)
            have hx_27 : x_27.toInt = x_25.toInt - x2.toInt := (iv_to ex_27).trans (sb_i rfl rfl (by omega) (by omega))
            exact W.iret (v := x_27) hx hb hr (fun t ht hW => ⟨⟨x_27, (v, fz_21), rfl, ⟨gV, hAfz_21, hRfz_21, ⟨by unfold aSo; omega, Or.inr ⟨by omega, (by dsimp only; exact q0_23), (by dsimp only; rw [efz_21]; rfl)⟩⟩⟩, ⟨by rw [ht]; exact hP, va_K.moved hW.alike hK, hD⟩⟩, hS.F ht⟩) hS.2.2 dX11_sold_83
          · have dc_20 := c_nlt (a := x2.toInt) (b := x_18.toInt) rfl rfl c_20
            refine lv_aload_n hx hb dX11_sold_61 rfl (lv_at hl 0 rfl) ?_
            refine lv_bipush (v := (-6)) hx hb dX11_sold_62 (by decide) ?_
            have hFc := va_free (wc := (mW g0 pq cp v fa)) hD hS hA (List.range 48) rfl
            refine va_calli (va_runV (As := [.int (-6)]) (rest := []) ⟨hx, hb, hml, hown, hts⟩ (c_X11_refuse_f l dC dI H.size g0 pq cp v fa (-6) (by unfold vp_in; decide)) (cwV 1 hts gX11_sold_X11_refuse rfl rfl rfl (by decide +kernel) ⟨(Nat.le_of_ble_eq_true rfl), (Nat.le_of_ble_eq_true rfl)⟩) (pr_V (r := (RX11, TX11, 63)) hP hK hD 0 11 rfl rfl) rfl rfl hl.1 rfl (lv_room (Nat.le_of_ble_eq_true rfl)) dX11_sold_64 ⟨(Nat.le_of_ble_eq_true rfl), (Nat.le_of_ble_eq_true rfl)⟩) hS (fun q _ h => hFc q h) hFc (fun r_29 u t H locs ht hvm w_28 hB hz1 hk1 hS => ?_)
            obtain ⟨v_30, fa_31⟩ := u
            obtain ⟨hP1, hK1, hD1⟩ := hB
            rw [ht] at hP1
            have hP : va_P (dC, dI) vwCl (mW g0 pq cp v_30 fa_31) H := hP1
            have hD : va_D A (mW g0 pq cp v_30 fa_31) := hD1.weaken (fun _ _ _ h => hFc _ h)
            clear hP1 hK1 hD1 hk1 hz1 hvm ht hFc
            obtain ⟨rfl, hs1_32⟩ := w_28
            have hVv_30 : mV v_30 := sm0_V (sm1_0 hs1_32) gV
            have hAv_30 : mA fa_31 := sm0_A (sm1_0 hs1_32) gA
            have g_33 : (v_30 43).toInt = (v 43).toInt := congrArg Int32.toInt (congrFun hs1_32.1 43)
            have hRv_30 : mX [0, 28] v fa v_30 fa_31 := mX.st mX.rf (mX.s0 (sm1_0 hs1_32)) (by decide)
            exact W.iret (v := (-6)) hx hb hr (fun t ht hW => ⟨⟨(-6), (v_30, fa_31), rfl, ⟨hVv_30, hAv_30, hRv_30, ⟨by have rc : ((-6) : Int32).toInt = -6 := (by decide); unfold aSo; omega, Or.inl ⟨by decide, sm2_1 hs1_32⟩⟩⟩, ⟨by rw [ht]; exact hP, va_K.moved hW.alike hK, hD⟩⟩, hS.F ht⟩) hS.2.2 dX11_sold_67
        · have dc_17 := c_nle (a := 1) (b := x2.toInt) (by decide) rfl c_17
          refine lv_aload_n hx hb dX11_sold_44 rfl (lv_at hl 0 rfl) ?_
          refine lv_bipush (v := (-4)) hx hb dX11_sold_45 (by decide) ?_
          have hFc := va_free (wc := (mW g0 pq cp v fa)) hD hS hA (List.range 48) rfl
          refine va_calli (va_runV (As := [.int (-4)]) (rest := []) ⟨hx, hb, hml, hown, hts⟩ (c_X11_refuse_f l dC dI H.size g0 pq cp v fa (-4) (by unfold vp_in; decide)) (cwV 1 hts gX11_sold_X11_refuse rfl rfl rfl (by decide +kernel) ⟨(Nat.le_of_ble_eq_true rfl), (Nat.le_of_ble_eq_true rfl)⟩) (pr_V (r := (RX11, TX11, 63)) hP hK hD 0 11 rfl rfl) rfl rfl hl.1 rfl (lv_room (Nat.le_of_ble_eq_true rfl)) dX11_sold_47 ⟨(Nat.le_of_ble_eq_true rfl), (Nat.le_of_ble_eq_true rfl)⟩) hS (fun q _ h => hFc q h) hFc (fun r_35 u t H locs ht hvm w_34 hB hz1 hk1 hS => ?_)
          obtain ⟨v_36, fa_37⟩ := u
          obtain ⟨hP1, hK1, hD1⟩ := hB
          rw [ht] at hP1
          have hP : va_P (dC, dI) vwCl (mW g0 pq cp v_36 fa_37) H := hP1
          have hD : va_D A (mW g0 pq cp v_36 fa_37) := hD1.weaken (fun _ _ _ h => hFc _ h)
          clear hP1 hK1 hD1 hk1 hz1 hvm ht hFc
          obtain ⟨rfl, hs1_38⟩ := w_34
          have hVv_36 : mV v_36 := sm0_V (sm1_0 hs1_38) gV
          have hAv_36 : mA fa_37 := sm0_A (sm1_0 hs1_38) gA
          have g_39 : (v_36 43).toInt = (v 43).toInt := congrArg Int32.toInt (congrFun hs1_38.1 43)
          have hRv_36 : mX [0, 28] v fa v_36 fa_37 := mX.st mX.rf (mX.s0 (sm1_0 hs1_38)) (by decide)
          exact W.iret (v := (-4)) hx hb hr (fun t ht hW => ⟨⟨(-4), (v_36, fa_37), rfl, ⟨hVv_36, hAv_36, hRv_36, ⟨by have rc : ((-4) : Int32).toInt = -4 := (by decide); unfold aSo; omega, Or.inl ⟨by decide, sm2_1 hs1_38⟩⟩⟩, ⟨by rw [ht]; exact hP, va_K.moved hW.alike hK, hD⟩⟩, hS.F ht⟩) hS.2.2 dX11_sold_50
      · have dc_16 := c_nle (a := x_15.toInt) (b := 0) rfl (by decide) c_16
        refine lv_aload_n hx hb dX11_sold_32 rfl (lv_at hl 0 rfl) ?_
        refine lv_bipush (v := (-3)) hx hb dX11_sold_33 (by decide) ?_
        have hFc := va_free (wc := (mW g0 pq cp v fa)) hD hS hA (List.range 48) rfl
        refine va_calli (va_runV (As := [.int (-3)]) (rest := []) ⟨hx, hb, hml, hown, hts⟩ (c_X11_refuse_f l dC dI H.size g0 pq cp v fa (-3) (by unfold vp_in; decide)) (cwV 1 hts gX11_sold_X11_refuse rfl rfl rfl (by decide +kernel) ⟨(Nat.le_of_ble_eq_true rfl), (Nat.le_of_ble_eq_true rfl)⟩) (pr_V (r := (RX11, TX11, 63)) hP hK hD 0 11 rfl rfl) rfl rfl hl.1 rfl (lv_room (Nat.le_of_ble_eq_true rfl)) dX11_sold_35 ⟨(Nat.le_of_ble_eq_true rfl), (Nat.le_of_ble_eq_true rfl)⟩) hS (fun q _ h => hFc q h) hFc (fun r_41 u t H locs ht hvm w_40 hB hz1 hk1 hS => ?_)
        obtain ⟨v_42, fa_43⟩ := u
        obtain ⟨hP1, hK1, hD1⟩ := hB
        rw [ht] at hP1
        have hP : va_P (dC, dI) vwCl (mW g0 pq cp v_42 fa_43) H := hP1
        have hD : va_D A (mW g0 pq cp v_42 fa_43) := hD1.weaken (fun _ _ _ h => hFc _ h)
        clear hP1 hK1 hD1 hk1 hz1 hvm ht hFc
        obtain ⟨rfl, hs1_44⟩ := w_40
        have hVv_42 : mV v_42 := sm0_V (sm1_0 hs1_44) gV
        have hAv_42 : mA fa_43 := sm0_A (sm1_0 hs1_44) gA
        have g_45 : (v_42 43).toInt = (v 43).toInt := congrArg Int32.toInt (congrFun hs1_44.1 43)
        have hRv_42 : mX [0, 28] v fa v_42 fa_43 := mX.st mX.rf (mX.s0 (sm1_0 hs1_44)) (by decide)
        exact W.iret (v := (-3)) hx hb hr (fun t ht hW => ⟨⟨(-3), (v_42, fa_43), rfl, ⟨hVv_42, hAv_42, hRv_42, ⟨by have rc : ((-3) : Int32).toInt = -3 := (by decide); unfold aSo; omega, Or.inl ⟨by decide, sm2_1 hs1_44⟩⟩⟩, ⟨by rw [ht]; exact hP, va_K.moved hW.alike hK, hD⟩⟩, hS.F ht⟩) hS.2.2 dX11_sold_38
  · have dc_4 := c_eq (a := r_3.toInt) (b := 0) rfl (by decide) c_4
    have hz_46 := isI_0 (w_2.symm.trans c_4)
    refine lv_aload_n hx hb dX11_sold_8 rfl (lv_at hl 0 rfl) ?_
    refine lv_iconst (v := (-1)) hx hb dX11_sold_9 (by decide) ?_
    have hFc := va_free (wc := (mW g0 pq cp v fa)) hD hS hA (List.range 48) rfl
    refine va_calli (va_runV (As := [.int (-1)]) (rest := []) ⟨hx, hb, hml, hown, hts⟩ (c_X11_refuse_f l dC dI H.size g0 pq cp v fa (-1) (by unfold vp_in; decide)) (cwV 1 hts gX11_sold_X11_refuse rfl rfl rfl (by decide +kernel) ⟨(Nat.le_of_ble_eq_true rfl), (Nat.le_of_ble_eq_true rfl)⟩) (pr_V (r := (RX11, TX11, 63)) hP hK hD 0 11 rfl rfl) rfl rfl hl.1 rfl (lv_room (Nat.le_of_ble_eq_true rfl)) dX11_sold_10 ⟨(Nat.le_of_ble_eq_true rfl), (Nat.le_of_ble_eq_true rfl)⟩) hS (fun q _ h => hFc q h) hFc (fun r_48 u t H locs ht hvm w_47 hB hz1 hk1 hS => ?_)
    obtain ⟨v_49, fa_50⟩ := u
    obtain ⟨hP1, hK1, hD1⟩ := hB
    rw [ht] at hP1
    have hP : va_P (dC, dI) vwCl (mW g0 pq cp v_49 fa_50) H := hP1
    have hD : va_D A (mW g0 pq cp v_49 fa_50) := hD1.weaken (fun _ _ _ h => hFc _ h)
    clear hP1 hK1 hD1 hk1 hz1 hvm ht hFc
    obtain ⟨rfl, hs1_51⟩ := w_47
    have hVv_49 : mV v_49 := sm0_V (sm1_0 hs1_51) gV
    have hAv_49 : mA fa_50 := sm0_A (sm1_0 hs1_51) gA
    have g_52 : (v_49 43).toInt = (v 43).toInt := congrArg Int32.toInt (congrFun hs1_51.1 43)
    have hRv_49 : mX [0, 28] v fa v_49 fa_50 := mX.st mX.rf (mX.s0 (sm1_0 hs1_51)) (by decide)
    exact W.iret (v := (-1)) hx hb hr (fun t ht hW => ⟨⟨(-1), (v_49, fa_50), rfl, ⟨hVv_49, hAv_49, hRv_49, ⟨by have rc : ((-1) : Int32).toInt = -1 := (by decide); unfold aSo; omega, Or.inl ⟨by decide, sm2_1 hs1_51⟩⟩⟩, ⟨by rw [ht]; exact hP, va_K.moved hW.alike hK, hD⟩⟩, hS.F ht⟩) hS.2.2 dX11_sold_13
