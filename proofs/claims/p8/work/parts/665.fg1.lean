

/-- a byte of a long -/
def byt (b : Int64) (i : Int32) : Int32 := ((b >>> ((8 * i).toInt64 &&& 63)) &&& 255).toInt32
/-- i bytes of b were laid from t on -/
def fdI (f : Nat → Int32) (b : Int64) (t i : Nat) (f1 : Nat → Int32) : Prop := ∀ j, f1 j = if t ≤ j ∧ j < t + i then byt b (nI (j - t)) else f j
theorem fd_0 {f : Nat → Int32} {b : Int64} {t i : Nat} (h : i = 0) : fdI f b t i f := fun j => (if_neg (by omega)).symm
theorem fd_s {f f1 f2 : Nat → Int32} {b : Int64} {t : Nat} {i i1 x xv x8 : Int32} (h : fdI f b t i.toNatClampNeg f1) (e : f2 = upd f1 x.toNatClampNeg xv) (hx : x.toInt = t + i.toInt) (hi : 0 ≤ i.toInt ∧ i.toInt ≤ 8) (hi1 : i1.toInt = i.toInt + 1) (e8 : x8 = 8 * i) (ev : xv = ((b >>> (x8.toInt64 &&& 63)) &&& 255).toInt32) : fdI f b t i1.toNatClampNeg f2 := by
  have n1 : i.toNatClampNeg = i.toInt.toNat := rfl
  have n2 : i1.toNatClampNeg = i1.toInt.toNat := rfl
  have n3 : x.toNatClampNeg = x.toInt.toNat := rfl
  intro j
  rw [e]
  by_cases q : j = x.toNatClampNeg
  · rw [if_pos (by omega), show upd f1 x.toNatClampNeg xv j = xv from if_pos q, ev, e8, show j - t = i.toNatClampNeg by omega, ← cn_eq hi]
    rfl
  · rw [show upd f1 x.toNatClampNeg xv j = f1 j from if_neg q, h j]
    by_cases k : t ≤ j ∧ j < t + i.toNatClampNeg
    · rw [if_pos k, if_pos (by omega)]
    · rw [if_neg k, if_neg (by omega)]
/-- what feed answers and does: t bytes ahead of it -/
def gfd (t n : Int) (b : Int64) (f : Nat → Int32) (r t1 : Int) (f1 : Nat → Int32) : Prop := (n < 1 ∧ r = -4 ∧ t1 = t ∧ f1 = f) ∨ (1 ≤ n ∧ (8 < n ∨ 60 < t + n) ∧ r = -6 ∧ t1 = t ∧ f1 = f) ∨ (1 ≤ n ∧ n ≤ 8 ∧ t + n ≤ 60 ∧ r = t + n ∧ t1 = t + n ∧ fdI f b t.toNat n.toNat f1)
theorem gfd_det {t n r r' t1 t1' : Int} {b : Int64} {f f1 g g1 : Nat → Int32} (h : gfd t n b f r t1 f1) (k : gfd t n b g r' t1' g1) (h0 : 0 ≤ t) (e : ∀ j, j < t.toNat → f j = g j) : r = r' ∧ t1 = t1' ∧ ∀ j, j < t1.toNat → f1 j = g1 j := by
  rcases h with ⟨a1, a2, a3, a4⟩ | ⟨a1, a0, a2, a3, a4⟩ | ⟨a1, a0, a5, a2, a3, a4⟩ <;> rcases k with ⟨b1, b2, b3, b4⟩ | ⟨b1, b0, b2, b3, b4⟩ | ⟨b1, b0, b5, b2, b3, b4⟩ <;> first | (exfalso; omega) | skip
  · exact ⟨by omega, by omega, fun j hj => by rw [a4, b4]; exact e j (by omega)⟩
  · exact ⟨by omega, by omega, fun j hj => by rw [a4, b4]; exact e j (by omega)⟩
  · refine ⟨by omega, by omega, fun j hj => ?_⟩
    rw [a4 j, b4 j]
    by_cases q : t.toNat ≤ j ∧ j < t.toNat + n.toNat
    · rw [if_pos q, if_pos q]
    · rw [if_neg q, if_neg q]
      exact e j (by omega)
/-- what act answers and does, of a text read up to q, well or not -/
def gac (now acts t p d q wl r acts1 t1 : Int) : Prop := (¬ (0 ≤ p ∧ p < 5) ∧ r = -2 ∧ acts1 = acts ∧ t1 = t) ∨ ((0 ≤ p ∧ p < 5) ∧ d < now ∧ r = -4 ∧ acts1 = acts ∧ t1 = t) ∨ ((0 ≤ p ∧ p < 5) ∧ now ≤ d ∧ (3000 < d ∨ 30 ≤ acts) ∧ r = -6 ∧ acts1 = acts ∧ t1 = t) ∨ ((0 ≤ p ∧ p < 5) ∧ now ≤ d ∧ d ≤ 3000 ∧ acts < 30 ∧ ¬ (wl = 1 ∧ t ≤ q) ∧ r = -20 - q ∧ acts1 = acts ∧ t1 = 0) ∨ ((0 ≤ p ∧ p < 5) ∧ now ≤ d ∧ d ≤ 3000 ∧ acts < 30 ∧ (wl = 1 ∧ t ≤ q) ∧ r = acts + 1 ∧ acts1 = acts + 1 ∧ t1 = 0)
theorem gac_det {now acts t p d q wl r acts1 t1 r' acts1' t1' : Int} (h : gac now acts t p d q wl r acts1 t1) (k : gac now acts t p d q wl r' acts1' t1') : r = r' ∧ acts1 = acts1' ∧ t1 = t1' := by
  unfold gac at h k
  omega
set_option maxHeartbeats 4000000 in
set_option maxRecDepth 100000 in
theorem c_X11_feed_f (l : Launch) (dC : Nat → ClassId) (dI : Nat → Nat → Nat) (sz : Nat) (g0 : Nat) (pq : Nat → Nat) (cp : Nat → ClassId) (v : Nat → Int32) (fa : Nat → Nat → Int32) (gV : mV v) (gA : mA fa) (x1 : Int32) (x2 : Int64) : Met l yX11_feed wsX11_feed ({ frames := 1, cells := 0, slots := 0, locals := 21 }) (va_Pc [.ref g0, .int x1, .long x2] (pcW (dC, dI) (mT cp) (mW g0 pq cp v fa) sz)) (va_Qi (fun (r : Int32) (u : (Nat → Int32) × (Nat → Nat → Int32)) => mV u.1 ∧ mA u.2 ∧ mX [0, 44, 46] v fa u.1 u.2 ∧ (gfd (v 46).toInt x1.toInt x2 (fa 44) r.toInt (u.1 46).toInt (u.2 44))) (fun u t => va_P (dC, dI) vwCl (mW g0 pq cp u.1 u.2) t.heap ∧ va_K (dC, dI) vwCl (mT cp) t ∧ va_D (va_A (mW g0 pq cp v fa) sz) (mW g0 pq cp u.1 u.2)) (va_A (mW g0 pq cp v fa) sz)) 0 0 (va_A (mW g0 pq cp v fa) sz) := by
  refine Met.ofW (cc := cX11_feed) (maxL := 5) (ret := (some .int)) (by decide +kernel) rfl ?_
  intro p e s m args below meth c s₁ B hml hv
  obtain ⟨rfl, hsz, hP, hK, hD0⟩ := hv
  have hx := B.exec
  have hb := B.bytes
  have hr := B.returns
  have hts := atoms_spec (ws := wsX11_feed) B.pre
  have hown : s.vm.findClass RX11 = some m.cls := findClass_of_methodNamed B.named
  have hlocks := B.notSynchronized
  subst hsz
  have hD := hD0.self (sz := s.heap.size)
  generalize hAe : va_A (mW g0 pq cp v fa) s.heap.size = A at hD ⊢
  have hA : ∀ q : Nat, s.heap.size ≤ q → A q := fun q h => by rw [← hAe]; exact Or.inr h
  have hS : va_S A s.heap s.heap [] := va_S.rf
  have hP : va_P (dC, dI) vwCl (mW g0 pq cp v fa) s.heap := hP
  have hl := lv_entry ([.ref g0, .int x1, .long x2]) (n := 5) (Nat.le_of_ble_eq_true rfl)
  rw [lg_entry_eq]
  generalize (lg_sl ([.ref g0, .int x1, .long x2]) ++ List.replicate (5 - (lg_sl ([.ref g0, .int x1, .long x2])).length) Slot.unset).toArray = ls at hl ⊢
  have hl : lv_has ls 5 [(0, .ref g0), (1, .int x1), (2, .long x2)] := hl
  have iv_1 : 0 ≤ (v 46).toInt ∧ (v 46).toInt ≤ 60 := gV 46
  refine lv_iload_n hx hb dX11_feed_0 rfl (lv_at hl 1 rfl) ?_
  refine lv_iconst (v := 1) hx hb dX11_feed_1 (by decide +kernel) ?_
  refine lv_icmp_ge (tgt := 12) hx hb dX11_feed_2 (by decide +kernel) (fun c_2 => ?_) (fun c_2 => ?_)
  · have dc_2 := c_le (a := 1) (b := x1.toInt) (by decide +kernel) rfl c_2
    refine lv_iload_n hx hb dX11_feed_12 rfl (lv_at hl 1 rfl) ?_
    refine lv_bipush (v := 8) hx hb dX11_feed_13 (by decide +kernel) ?_
    refine lv_icmp_gt (tgt := 29) hx hb dX11_feed_15 (by decide +kernel) (fun c_3 => ?_) (fun c_3 => ?_)
    · have dc_3 := c_lt (a := 8) (b := x1.toInt) (by decide +kernel) rfl c_3
      refine lv_aload_n hx hb dX11_feed_29 rfl (lv_at hl 0 rfl) ?_
      refine lv_bipush (v := (-6)) hx hb dX11_feed_30 (by decide +kernel) ?_
      have hFc := va_free (wc := (mW g0 pq cp v fa)) hD hS hA (List.range 48) rfl
      refine va_calli (va_runV (As := [.int (-6)]) (rest := []) ⟨hx, hb, hml, hown, hts⟩ (c_X11_refuse l dC dI s.heap.size g0 pq cp v fa (-6) (by unfold vp_in; decide)) (cwV 1 hts gX11_feed_X11_refuse rfl rfl rfl (by decide +kernel) ⟨(Nat.le_of_ble_eq_true rfl), (Nat.le_of_ble_eq_true rfl)⟩) (pr_V (r := (RX11, TX11, 63)) hP hK hD 0 11 rfl rfl) rfl rfl hl.1 rfl (lv_room (Nat.le_of_ble_eq_true rfl)) dX11_feed_32 ⟨(Nat.le_of_ble_eq_true rfl), (Nat.le_of_ble_eq_true rfl)⟩) hS (fun q _ h => hFc q h) hFc (fun r_5 u t H locs ht hvm w_4 hB hz1 hk1 hS => ?_)
      obtain ⟨v_6, fa_7⟩ := u
      obtain ⟨hP1, hK1, hD1⟩ := hB
      rw [ht] at hP1
      have hP : va_P (dC, dI) vwCl (mW g0 pq cp v_6 fa_7) H := hP1
      have hD : va_D A (mW g0 pq cp v_6 fa_7) := hD1.weaken (fun _ _ _ h => hFc _ h)
      clear hP1 hK1 hD1 hk1 hz1 hvm ht hFc
      obtain ⟨rfl, w_4⟩ := w_4
      have hVv_6 : mV v_6 := sm0_V w_4 gV
      have hAv_6 : mA fa_7 := sm0_A w_4 gA
      have g_8 : (v_6 46).toInt = (v 46).toInt := congrArg Int32.toInt (congrFun w_4.1 46)
      have hRv_6 : mX [0, 44, 46] v fa v_6 fa_7 := mX.st mX.rf (mX.s0 w_4) (by decide +kernel)
      exact W.iret (v := (-6)) hx hb hr (fun t ht hW => ⟨⟨(-6), (v_6, fa_7), rfl, ⟨hVv_6, hAv_6, hRv_6, (by unfold gfd; dsimp only; have e1 := w_4.2 44 (by decide +kernel); dsimp only at e1; rw [e1]; have h0 : ((-6) : Int32).toInt = -6 := (by decide +kernel); first | exact Or.inl ⟨by omega, by omega, by omega, rfl⟩ | exact Or.inr (Or.inl ⟨by omega, by omega, by omega, by omega, rfl⟩))⟩, ⟨by rw [ht]; exact hP, va_K.moved hW.alike hK, hD⟩⟩, hS.F ht⟩) hS.2.2 dX11_feed_35
    · have dc_3 := c_nlt (a := 8) (b := x1.toInt) (by decide +kernel) rfl c_3
      refine lv_aload_n hx hb dX11_feed_18 rfl (lv_at hl 0 rfl) ?_
      refine va_get (D := (dC, dI)) (ci := 11) (v := .int (v 46)) (C := RX11) (T := TX11) (N := 63) hx hb hts in_wsX11_feed_X11 hown hK hP 0 rfl rfl 46 (by decide +kernel) (hts (.fieldLink RX11 205 "ShipOfficeModel" "taped" "I") iw_X11_feed_1) (fun _ h9 => h9) rfl dX11_feed_19 ?_
      refine lv_topi (fun x_9 ex_9 => ?_)
      have hx_9 : 0 ≤ x_9.toInt ∧ x_9.toInt ≤ 60 := iv_of ex_9 (gV 46)
      have gx_9 : x_9.toInt = (v 46).toInt := iv_to ex_9
      clear ex_9
      refine lv_iload_n hx hb dX11_feed_22 rfl (lv_at hl 1 rfl) ?_
      refine lv_iadd hx hb dX11_feed_23 ?_
      refine lv_topi (fun x_10 ex_10 => ?_)
      have hx_10 : x_10.toInt = x_9.toInt + x1.toInt := (iv_to ex_10).trans (ad_i rfl rfl (by omega) (by omega))
      refine lv_bipush (v := 60) hx hb dX11_feed_24 (by decide +kernel) ?_
      refine lv_icmp_le (tgt := 36) hx hb dX11_feed_26 (by decide +kernel) (fun c_11 => ?_) (fun c_11 => ?_)
      · have dc_11 := c_le (a := x_10.toInt) (b := 60) rfl (by decide +kernel) c_11
        refine lv_iconst (v := 0) hx hb dX11_feed_36 (by decide +kernel) ?_
        refine lv_istore (lv' := [(4, .int 0), (0, .ref g0), (1, .int x1), (2, .long x2)]) hx hb dX11_feed_37 hl (by decide +kernel) rfl (fun ls hl => ?_)
        have cut_12 : ∀ (n : Nat) (y_13 : Int32) (z_14 : Nat → Int32) (fz_15 : Nat → Nat → Int32) (H : Heap) (locs : List Loc) (ls : Array Slot), 8 - y_13.toInt ≤ (n : Int) → (0 ≤ y_13.toInt ∧ y_13.toInt ≤ 8) → ((z_14 46).toInt = (v 46).toInt + y_13.toInt ∧ y_13.toInt ≤ x1.toInt) → fdI (fa 44) x2 (v 46).toNatClampNeg y_13.toNatClampNeg (fz_15 44) → mV z_14 → mA fz_15 → mX [0, 44, 46] v fa z_14 fz_15 → va_P (dC, dI) vwCl (mW g0 pq cp z_14 fz_15) H → va_D A (mW g0 pq cp z_14 fz_15) → va_S A s.heap H locs → lv_has ls 5 [(4, .int y_13), (0, .ref g0), (1, .int x1), (2, .long x2)] → W p l e (headSpec wsX11_feed { frames := 1, cells := 0, slots := 0, locals := 21 }).room s m #[Value.ref g0, Value.int x1, Value.long x2] below meth c H locs 0 0 (MQ below (va_Qi (fun (r : Int32) (u : (Nat → Int32) × (Nat → Nat → Int32)) => mV u.1 ∧ mA u.2 ∧ mX [0, 44, 46] v fa u.1 u.2 ∧ (gfd (v 46).toInt x1.toInt x2 (fa 44) r.toInt (u.1 46).toInt (u.2 44))) (fun u t => va_P (dC, dI) vwCl (mW g0 pq cp u.1 u.2) t.heap ∧ va_K (dC, dI) vwCl (mT cp) t ∧ va_D A (mW g0 pq cp u.1 u.2)) A) #[Value.ref g0, Value.int x1, Value.long x2] s 0 0 A) (F0 m 39 ls []) := by
          intro n
          induction n using Nat.strongRecOn with
          | ind n ih =>
            intro y_13 z_14 fz_15 H locs ls hm hy_13 hq0_cut_12 hq1_cut_12 hVz_14 hAz_14 hRz_14 hP hD hS hl
            refine lv_iload hx hb dX11_feed_39 (lv_at hl 0 rfl) ?_
            refine lv_iload_n hx hb dX11_feed_41 rfl (lv_at hl 2 rfl) ?_
            refine lv_icmp_ge (tgt := 82) hx hb dX11_feed_42 (by decide +kernel) (fun c_16 => ?_) (fun c_16 => ?_)
            · have dc_16 := c_le (a := x1.toInt) (b := y_13.toInt) rfl rfl c_16
              refine lv_aload_n hx hb dX11_feed_82 rfl (lv_at hl 1 rfl) ?_
              refine va_get (D := (dC, dI)) (ci := 11) (v := .int (z_14 46)) (C := RX11) (T := TX11) (N := 63) hx hb hts in_wsX11_feed_X11 hown hK hP 0 rfl rfl 46 (by decide +kernel) (hts (.fieldLink RX11 205 "ShipOfficeModel" "taped" "I") iw_X11_feed_1) (fun _ h9 => h9) rfl dX11_feed_83 ?_
              refine lv_topi (fun x_17 ex_17 => ?_)
              have hx_17 : 0 ≤ x_17.toInt ∧ x_17.toInt ≤ 60 := iv_of ex_17 (hVz_14 46)
              have gx_17 : x_17.toInt = (z_14 46).toInt := iv_to ex_17
              clear ex_17
              exact W.iret (v := x_17) hx hb hr (fun t ht hW => ⟨⟨x_17, (z_14, fz_15), rfl, ⟨hVz_14, hAz_14, hRz_14, (by have e1 : y_13 = x1 := Int32.toInt_inj.mp (by omega); have g := hq1_cut_12; rw [e1] at g; exact Or.inr (Or.inr ⟨by omega, by omega, by omega, by omega, by dsimp only; omega, g⟩))⟩, ⟨by rw [ht]; exact hP, va_K.moved hW.alike hK, hD⟩⟩, hS.F ht⟩) hS.2.2 dX11_feed_86
            · have dc_16 := c_nle (a := x1.toInt) (b := y_13.toInt) rfl rfl c_16
              refine lv_aload_n hx hb dX11_feed_45 rfl (lv_at hl 1 rfl) ?_
              refine va_get (D := (dC, dI)) (ci := 11) (v := .ref (pq 44)) (C := RX11) (T := TX11) (N := 63) hx hb hts in_wsX11_feed_X11 hown hK hP 0 rfl rfl 44 (by decide +kernel) (hts (.fieldLink RX11 125 "ShipOfficeModel" "tape" "[I") iw_X11_feed_2) (fun _ h9 => h9) rfl dX11_feed_46 ?_
              refine lv_aload_n hx hb dX11_feed_49 rfl (lv_at hl 1 rfl) ?_
              refine va_get (D := (dC, dI)) (ci := 11) (v := .int (z_14 46)) (C := RX11) (T := TX11) (N := 63) hx hb hts in_wsX11_feed_X11 hown hK hP 0 rfl rfl 46 (by decide +kernel) (hts (.fieldLink RX11 205 "ShipOfficeModel" "taped" "I") iw_X11_feed_1) (fun _ h9 => h9) rfl dX11_feed_50 ?_
              refine lv_topi (fun x_18 ex_18 => ?_)
              have hx_18 : 0 ≤ x_18.toInt ∧ x_18.toInt ≤ 60 := iv_of ex_18 (hVz_14 46)
              have gx_18 : x_18.toInt = (z_14 46).toInt := iv_to ex_18
              clear ex_18
              refine lv_lload_n hx hb dX11_feed_53 rfl (lv_at hl 3 rfl) ?_
              refine lv_bipush (v := 8) hx hb dX11_feed_54 (by decide +kernel) ?_
              refine lv_iload hx hb dX11_feed_56 (lv_at hl 0 rfl) ?_
              refine lv_imul hx hb dX11_feed_58 ?_
              refine lv_topi (fun x_19 ex_19 => ?_)
              have hx_19 : x_19.toInt = 8 * y_13.toInt := (iv_to ex_19).trans (mu_i (by decide +kernel) rfl (by omega) (by omega))
              refine lv_lshr (v := x2 >>> ((x_19 : Int32).toInt64 &&& 63)) hx hb dX11_feed_59 rfl ?_
              refine lv_ldc2 (v := 255) hx hb hown (hts (.constantLong RX11 208 (255)) (by decide +kernel)) dX11_feed_60 ?_
              refine lv_land hx hb dX11_feed_63 ?_
              refine lv_l2i (v := ((x2 >>> ((x_19 : Int32).toInt64 &&& 63)) &&& 255 : Int64).toInt32) hx hb dX11_feed_64 rfl ?_
              refine lv_topi (fun x_20 ex_20 => ?_)
              refine va_iast hx hb hK hP hD hS 39 38 rfl rfl (vp_in_iff.mpr (by omega)) dX11_feed_65 (fun H locs hP hD hS => ?_)
              have hP : va_P (dC, dI) vwCl (mW g0 pq cp z_14 (upF fz_15 44 (x_18 : Int32).toNatClampNeg x_20)) H := hP
              have hD : va_D A (mW g0 pq cp z_14 (upF fz_15 44 (x_18 : Int32).toNatClampNeg x_20)) := hD
              obtain ⟨fz_21, efz_21⟩ : ∃ zq, zq = (upF fz_15 44 (x_18 : Int32).toNatClampNeg x_20) := ⟨_, rfl⟩
              rw [← efz_21] at hP hD
              have hAfz_21 : mA fz_21 := by rw [efz_21]; exact mA_upF (lo := -2147483648) (hi := 2147483647) hAz_14 rfl rfl (iv_all _)
              have hRfz_21 : mX [0, 44, 46] v fa z_14 fz_21 := by rw [efz_21]; exact mX.uF hRz_14 (by decide +kernel)
              refine lv_aload_n hx hb dX11_feed_66 rfl (lv_at hl 1 rfl) ?_
              refine lv_dup hx hb dX11_feed_67 rfl ?_
              refine va_get (D := (dC, dI)) (ci := 11) (v := .int (z_14 46)) (C := RX11) (T := TX11) (N := 63) hx hb hts in_wsX11_feed_X11 hown hK hP 0 rfl rfl 46 (by decide +kernel) (hts (.fieldLink RX11 205 "ShipOfficeModel" "taped" "I") iw_X11_feed_1) (fun _ h9 => h9) rfl dX11_feed_68 ?_
              refine lv_topi (fun x_22 ex_22 => ?_)
              have hx_22 : 0 ≤ x_22.toInt ∧ x_22.toInt ≤ 60 := iv_of ex_22 (hVz_14 46)
              have gx_22 : x_22.toInt = (z_14 46).toInt := iv_to ex_22
              clear ex_22
              refine lv_iconst (v := 1) hx hb dX11_feed_71 (by decide +kernel) ?_
              refine lv_iadd hx hb dX11_feed_72 ?_
              refine lv_topi (fun x_23 ex_23 => ?_)
              have hx_23 : x_23.toInt = x_22.toInt + 1 := (iv_to ex_23).trans (ad_i rfl (by decide +kernel) (by omega) (by omega))
              refine va_put (D := (dC, dI)) (ci := 11) (v := .int x_23) (ty := .int) (C := RX11) (T := TX11) (N := 63) hx hb hts in_wsX11_feed_X11 tyX11 tyX11_ok nmX11 hown hK hP hD hS 0 rfl rfl 46 (by decide +kernel) (hts (.fieldLink RX11 205 "ShipOfficeModel" "taped" "I") iw_X11_feed_1) (fun _ h9 => h9) rfl (by decide +kernel) rfl rfl (Nat.le_of_ble_eq_true rfl) dX11_feed_73 (fun H locs hP hD hS => ?_)
              have hP : va_P (dC, dI) vwCl (mW g0 pq cp (upd z_14 46 x_23) fz_21) H := hP
              have hD : va_D A (mW g0 pq cp (upd z_14 46 x_23) fz_21) := hD
              obtain ⟨z_24, ez_24⟩ : ∃ zq, zq = (upd z_14 46 x_23) := ⟨_, rfl⟩
              rw [← ez_24] at hP hD
              have hVz_24 : mV z_24 := by rw [ez_24]; exact mV_upd (lo := 0) (hi := 60) hVz_14 rfl rfl (by omega)
              have hRz_24 : mX [0, 44, 46] v fa z_24 fz_21 := by rw [ez_24]; exact mX.up hRfz_21 (by decide +kernel)
              have g_25 : (z_24 46).toInt = x_23.toInt := by rw [ez_24, show upd z_14 46 x_23 46 = x_23 from if_pos rfl]
              obtain ⟨x_26, ex_26⟩ : ∃ zq : Int32, y_13 + 1 = zq := ⟨_, rfl⟩
              have hx_26 : x_26.toInt = y_13.toInt + 1 := (iv_to ex_26).symm.trans (ad_i rfl (by decide +kernel) (by omega) (by omega))
              refine lv_iinc (v := x_26) (lv' := [(4, .int x_26), (0, .ref g0), (1, .int x1), (2, .long x2)]) hx hb dX11_feed_76 hl (k := 0) rfl ex_26 (by decide +kernel) rfl (fun ls hl => ?_)
              clear ex_26
              refine lv_goto (tgt := 39) hx hb dX11_feed_79 (by decide +kernel) ?_
              exact ih (n - 1) (by omega) x_26 z_24 fz_21 _ _ ls (by omega) (by omega) (by omega) (fd_s hq1_cut_12 (by rw [efz_21]; exact if_pos rfl) (by have n0 : (v 46).toNatClampNeg = (v 46).toInt.toNat := rfl; omega) (by omega) (by omega) ex_19 ex_20) hVz_24 hAfz_21 hRz_24 hP hD hS (lv_sub hl [0, 1, 2, 3] rfl)
        have kc_27 : (0 : Int32).toInt = 0 := by decide
        exact cut_12 9 0 v fa _ _ ls (by omega) (by decide +kernel) (by omega) (fd_0 (by decide +kernel)) gV gA mX.rf hP hD hS (lv_sub hl [0, 1, 2, 3] rfl)
      · have dc_11 := c_nle (a := x_10.toInt) (b := 60) rfl (by decide +kernel) c_11
        refine lv_aload_n hx hb dX11_feed_29 rfl (lv_at hl 0 rfl) ?_
        refine lv_bipush (v := (-6)) hx hb dX11_feed_30 (by decide +kernel) ?_
        have hFc := va_free (wc := (mW g0 pq cp v fa)) hD hS hA (List.range 48) rfl
        refine va_calli (va_runV (As := [.int (-6)]) (rest := []) ⟨hx, hb, hml, hown, hts⟩ (c_X11_refuse l dC dI s.heap.size g0 pq cp v fa (-6) (by unfold vp_in; decide)) (cwV 1 hts gX11_feed_X11_refuse rfl rfl rfl (by decide +kernel) ⟨(Nat.le_of_ble_eq_true rfl), (Nat.le_of_ble_eq_true rfl)⟩) (pr_V (r := (RX11, TX11, 63)) hP hK hD 0 11 rfl rfl) rfl rfl hl.1 rfl (lv_room (Nat.le_of_ble_eq_true rfl)) dX11_feed_32 ⟨(Nat.le_of_ble_eq_true rfl), (Nat.le_of_ble_eq_true rfl)⟩) hS (fun q _ h => hFc q h) hFc (fun r_29 u t H locs ht hvm w_28 hB hz1 hk1 hS => ?_)
        obtain ⟨v_30, fa_31⟩ := u
        obtain ⟨hP1, hK1, hD1⟩ := hB
        rw [ht] at hP1
        have hP : va_P (dC, dI) vwCl (mW g0 pq cp v_30 fa_31) H := hP1
        have hD : va_D A (mW g0 pq cp v_30 fa_31) := hD1.weaken (fun _ _ _ h => hFc _ h)
        clear hP1 hK1 hD1 hk1 hz1 hvm ht hFc
        obtain ⟨rfl, w_28⟩ := w_28
        have hVv_30 : mV v_30 := sm0_V w_28 gV
        have hAv_30 : mA fa_31 := sm0_A w_28 gA
        have g_32 : (v_30 46).toInt = (v 46).toInt := congrArg Int32.toInt (congrFun w_28.1 46)
        have hRv_30 : mX [0, 44, 46] v fa v_30 fa_31 := mX.st mX.rf (mX.s0 w_28) (by decide +kernel)
        exact W.iret (v := (-6)) hx hb hr (fun t ht hW => ⟨⟨(-6), (v_30, fa_31), rfl, ⟨hVv_30, hAv_30, hRv_30, (by unfold gfd; dsimp only; have e1 := w_28.2 44 (by decide +kernel); dsimp only at e1; rw [e1]; have h0 : ((-6) : Int32).toInt = -6 := (by decide +kernel); first | exact Or.inl ⟨by omega, by omega, by omega, rfl⟩ | exact Or.inr (Or.inl ⟨by omega, by omega, by omega, by omega, rfl⟩))⟩, ⟨by rw [ht]; exact hP, va_K.moved hW.alike hK, hD⟩⟩, hS.F ht⟩) hS.2.2 dX11_feed_35
  · have dc_2 := c_nle (a := 1) (b := x1.toInt) (by decide +kernel) rfl c_2
    refine lv_aload_n hx hb dX11_feed_5 rfl (lv_at hl 0 rfl) ?_
    refine lv_bipush (v := (-4)) hx hb dX11_feed_6 (by decide +kernel) ?_
    have hFc := va_free (wc := (mW g0 pq cp v fa)) hD hS hA (List.range 48) rfl
    refine va_calli (va_runV (As := [.int (-4)]) (rest := []) ⟨hx, hb, hml, hown, hts⟩ (c_X11_refuse l dC dI s.heap.size g0 pq cp v fa (-4) (by unfold vp_in; decide)) (cwV 1 hts gX11_feed_X11_refuse rfl rfl rfl (by decide +kernel) ⟨(Nat.le_of_ble_eq_true rfl), (Nat.le_of_ble_eq_true rfl)⟩) (pr_V (r := (RX11, TX11, 63)) hP hK hD 0 11 rfl rfl) rfl rfl hl.1 rfl (lv_room (Nat.le_of_ble_eq_true rfl)) dX11_feed_8 ⟨(Nat.le_of_ble_eq_true rfl), (Nat.le_of_ble_eq_true rfl)⟩) hS (fun q _ h => hFc q h) hFc (fun r_34 u t H locs ht hvm w_33 hB hz1 hk1 hS => ?_)
    obtain ⟨v_35, fa_36⟩ := u
    obtain ⟨hP1, hK1, hD1⟩ := hB
    rw [ht] at hP1
    have hP : va_P (dC, dI) vwCl (mW g0 pq cp v_35 fa_36) H := hP1
    have hD : va_D A (mW g0 pq cp v_35 fa_36) := hD1.weaken (fun _ _ _ h => hFc _ h)
    clear hP1 hK1 hD1 hk1 hz1 hvm ht hFc
    obtain ⟨rfl, w_33⟩ := w_33
    have hVv_35 : mV v_35 := sm0_V w_33 gV
    have hAv_35 : mA fa_36 := sm0_A w_33 gA
    have g_37 : (v_35 46).toInt = (v 46).toInt := congrArg Int32.toInt (congrFun w_33.1 46)
    have hRv_35 : mX [0, 44, 46] v fa v_35 fa_36 := mX.st mX.rf (mX.s0 w_33) (by decide +kernel)
    exact W.iret (v := (-4)) hx hb hr (fun t ht hW => ⟨⟨(-4), (v_35, fa_36), rfl, ⟨hVv_35, hAv_35, hRv_35, (by unfold gfd; dsimp only; have e1 := w_33.2 44 (by decide +kernel); dsimp only at e1; rw [e1]; have h0 : ((-4) : Int32).toInt = -4 := (by decide +kernel); first | exact Or.inl ⟨by omega, by omega, by omega, rfl⟩ | exact Or.inr (Or.inl ⟨by omega, by omega, by omega, by omega, rfl⟩))⟩, ⟨by rw [ht]; exact hP, va_K.moved hW.alike hK, hD⟩⟩, hS.F ht⟩) hS.2.2 dX11_feed_11
