

/-- a man left sick by an agreement, as known now -/
def hmD (v : Nat → Int32) (fa : Nat → Nat → Int32) (m : Int) (a : Nat) : Prop := (fa 20 a).toInt = m ∧ stF v fa a (v 38).toInt (v 38).toInt = 3 ∧ (fa 14 (whO v fa a (v 38).toInt (v 38).toInt).toNat).toInt = 1
noncomputable def hmW (v : Nat → Int32) (fa : Nat → Nat → Int32) (a : Nat) : Int := wyF (miF fa) (fa 15 (whO v fa a (v 38).toInt (v 38).toInt).toNat).toNatClampNeg (fa 8 (fa 21 a).toNatClampNeg).toNatClampNeg
/-- HOME -/
def hoA (v : Nat → Int32) (fa : Nat → Nat → Int32) (m r : Int) : Prop := (¬ (0 ≤ m ∧ m < (v 39).toInt) ∧ r = -1) ∨ ((0 ≤ m ∧ m < (v 39).toInt) ∧ ((∃ a, a < (v 43).toNatClampNeg ∧ hmD v fa m a ∧ (∀ b, b < a → ¬ hmD v fa m b) ∧ r = hmW v fa a) ∨ ((∀ b, b < (v 43).toNatClampNeg → ¬ hmD v fa m b) ∧ r = -3)))
def hoB (v : Nat → Int32) (fa : Nat → Nat → Int32) (m : Int) : Prop := ¬ (0 ≤ m ∧ m < (v 39).toInt) ∨ ∀ b, b < (v 43).toNatClampNeg → ¬ hmD v fa m b
theorem hoA_e {v : Nat → Int32} {fa : Nat → Nat → Int32} {m r r1 : Int} (h : hoA v fa m r) (g : hoA v fa m r1) : r = r1 := by
  rcases h with ⟨h1, h2⟩ | ⟨h1, h2⟩
  · rcases g with ⟨g1, g2⟩ | ⟨g1, g2⟩
    · rw [h2, g2]
    · exact absurd g1 h1
  · rcases g with ⟨g1, g2⟩ | ⟨g1, g2⟩
    · exact absurd h1 g1
    · rcases h2 with ⟨a, a1, a2, a3, a4⟩ | ⟨h2, h3⟩
      · rcases g2 with ⟨b, b1, b2, b3, b4⟩ | ⟨g2, g3⟩
        · have e : a = b := by
            rcases Nat.lt_trichotomy a b with q | q | q
            · exact absurd a2 (b3 a q)
            · exact q
            · exact absurd b2 (a3 b q)
          rw [a4, b4, e]
        · exact absurd a2 (g2 a a1)
      · rcases g2 with ⟨b, b1, b2, b3, b4⟩ | ⟨g2, g3⟩
        · exact absurd b2 (h2 b b1)
        · rw [h3, g3]
def rHr (v : Nat → Int32) (fa : Nat → Nat → Int32) (u : (Nat → Int32) × (Nat → Nat → Int32)) (r : Int32) (bad : Prop) : Prop := (bad ∧ sm2 v fa u r) ∨ (¬ bad ∧ u.2 0 = fa 0)
theorem miF_s {v z : Nat → Int32} {fa fz : Nat → Nat → Int32} (h : scr v fa z fz) : miF fz = miF fa := by
  unfold miF
  rw [h.2 1 rfl]
set_option maxHeartbeats 4000000 in
set_option maxRecDepth 100000 in
theorem c_X11_home_f (l : Launch) (dC : Nat → ClassId) (dI : Nat → Nat → Nat) (sz : Nat) (g0 : Nat) (pq : Nat → Nat) (cp : Nat → ClassId) (v : Nat → Int32) (fa : Nat → Nat → Int32) (gV : mV v) (gA : mA fa) (x1 : Int32) (hWl : wlA v fa) (hMi : ∀ i, 0 ≤ (fa 1 i).toInt ∧ (fa 1 i).toInt ≤ 9999) : Met l yX11_home wsX11_home ({ frames := 23, cells := 0, slots := 0, locals := 533 }) (va_Pc [.ref g0, .int x1] (pcW (dC, dI) (mT cp) (mW g0 pq cp v fa) sz)) (va_Qi (fun (r : Int32) (u : (Nat → Int32) × (Nat → Nat → Int32)) => mV u.1 ∧ mA u.2 ∧ mX [0, 45, 47, 48, 49, 50, 51, 52, 53, 54, 55, 56, 57, 58, 59, 60] v fa u.1 u.2 ∧ (hoA v fa x1.toInt r.toInt ∧ rHr v fa u r (hoB v fa x1.toInt))) (fun u t => va_P (dC, dI) vwCl (mW g0 pq cp u.1 u.2) t.heap ∧ va_K (dC, dI) vwCl (mT cp) t ∧ va_D (va_A (mW g0 pq cp v fa) sz) (mW g0 pq cp u.1 u.2)) (va_A (mW g0 pq cp v fa) sz)) 0 0 (va_A (mW g0 pq cp v fa) sz) := by
  refine Met.ofW (cc := cX11_home) (maxL := 4) (ret := (some .int)) (by decide) rfl ?_
  intro p e s m args below meth c s₁ B hml hv
  obtain ⟨rfl, hsz, hP, hK, hD0⟩ := hv
  have hx := B.exec
  have hb := B.bytes
  have hr := B.returns
  have hts := atoms_spec (ws := wsX11_home) B.pre
  have hown : s.vm.findClass RX11 = some m.cls := findClass_of_methodNamed B.named
  have hlocks := B.notSynchronized
  subst hsz
  have hD := hD0.self (sz := s.heap.size)
  generalize hAe : va_A (mW g0 pq cp v fa) s.heap.size = A at hD ⊢
  have hA : ∀ q : Nat, s.heap.size ≤ q → A q := fun q h => by rw [← hAe]; exact Or.inr h
  have hS : va_S A s.heap s.heap [] := va_S.rf
  have hP : va_P (dC, dI) vwCl (mW g0 pq cp v fa) s.heap := hP
  have hl := lv_entry ([.ref g0, .int x1]) (n := 4) (Nat.le_of_ble_eq_true rfl)
  rw [lg_entry_eq]
  generalize (lg_sl ([.ref g0, .int x1]) ++ List.replicate (4 - (lg_sl ([.ref g0, .int x1])).length) Slot.unset).toArray = ls at hl ⊢
  have hl : lv_has ls 4 [(0, .ref g0), (1, .int x1)] := hl
  have iv_1 : 0 ≤ (v 38).toInt ∧ (v 38).toInt ≤ 3000 := gV 38
  have iv_2 : 0 ≤ (v 39).toInt ∧ (v 39).toInt ≤ 40 := gV 39
  have iv_3 : 0 ≤ (v 43).toInt ∧ (v 43).toInt ≤ 60 := gV 43
  refine lv_aload_n hx hb dX11_home_0 rfl (lv_at hl 0 rfl) ?_
  refine lv_iload_n hx hb dX11_home_1 rfl (lv_at hl 1 rfl) ?_
  have hFc : ∀ q, va_A [] s.heap.size q → A q := pu_free hS hA
  refine va_calli (va_runV (As := [.int x1]) (rest := []) ⟨hx, hb, hml, hown, hts⟩ (c_X11_isMan l dC dI s.heap.size g0 pq cp v fa x1) (cwV 1 hts gX11_home_X11_isMan rfl rfl rfl (by decide +kernel) ⟨(Nat.le_of_ble_eq_true rfl), (Nat.le_of_ble_eq_true rfl)⟩) (pr_V (r := (RX11, TX11, 63)) hP hK hD 0 11 rfl rfl) rfl rfl hl.1 rfl (lv_room (Nat.le_of_ble_eq_true rfl)) dX11_home_2 ⟨(Nat.le_of_ble_eq_true rfl), (Nat.le_of_ble_eq_true rfl)⟩) hS (fun q _ h => hFc q h) hFc (fun r_5 u t H locs ht hvm w_4 hB hz1 hk1 hS => ?_)
  have hP := pu_keep hP hk1
  clear hk1 hz1 hvm hB ht hFc
  have hbr_5 : 0 ≤ r_5.toInt ∧ r_5.toInt ≤ 1 := iv_of w_4 (isI_i _ _)
  refine lv_if_ne (tgt := 14) hx hb dX11_home_5 (by decide) (fun c_6 => ?_) (fun c_6 => ?_)
  · have dc_6 := c_ne (a := r_5.toInt) (b := 0) rfl (by decide) c_6
    have hi_7 := isI_t w_4 (fun q => c_6 (Int32.toInt_inj.mp q))
    have khi_7 : (v 39).toInt ≤ 40 := (gV 39).2
    refine lv_iconst (v := 0) hx hb dX11_home_14 (by decide) ?_
    refine lv_istore_n (lv' := [(2, .int 0), (0, .ref g0), (1, .int x1)]) hx hb dX11_home_15 rfl hl (by decide) rfl (fun ls hl => ?_)
    have cut_8 : ∀ (n : Nat) (y_9 : Int32) (z_10 : Nat → Int32) (fz_11 : Nat → Nat → Int32) (H : Heap) (locs : List Loc) (ls : Array Slot), 60 - y_9.toInt ≤ (n : Int) → (0 ≤ y_9.toInt ∧ y_9.toInt ≤ 60) → (∀ b, b < y_9.toNatClampNeg → ¬ hmD v fa x1.toInt b) → scr v fa z_10 fz_11 → y_9.toInt ≤ (v 43).toInt → mV z_10 → mA fz_11 → mX [0, 45, 47, 48, 49, 50, 51, 52, 53, 54, 55, 56, 57, 58, 59, 60] v fa z_10 fz_11 → va_P (dC, dI) vwCl (mW g0 pq cp z_10 fz_11) H → va_D A (mW g0 pq cp z_10 fz_11) → va_S A s.heap H locs → (z_10 38).toInt = (v 38).toInt → (z_10 39).toInt = (v 39).toInt → (z_10 43).toInt = (v 43).toInt → lv_has ls 4 [(2, .int y_9), (0, .ref g0), (1, .int x1)] → W p l e (headSpec wsX11_home { frames := 23, cells := 0, slots := 0, locals := 533 }).room s m #[Value.ref g0, Value.int x1] below meth c H locs 0 0 (MQ below (va_Qi (fun (r : Int32) (u : (Nat → Int32) × (Nat → Nat → Int32)) => mV u.1 ∧ mA u.2 ∧ mX [0, 45, 47, 48, 49, 50, 51, 52, 53, 54, 55, 56, 57, 58, 59, 60] v fa u.1 u.2 ∧ (hoA v fa x1.toInt r.toInt ∧ rHr v fa u r (hoB v fa x1.toInt))) (fun u t => va_P (dC, dI) vwCl (mW g0 pq cp u.1 u.2) t.heap ∧ va_K (dC, dI) vwCl (mT cp) t ∧ va_D A (mW g0 pq cp u.1 u.2)) A) #[Value.ref g0, Value.int x1] s 0 0 A) (F0 m 16 ls []) := by
      intro n
      induction n using Nat.strongRecOn with
      | ind n ih =>
        intro y_9 z_10 fz_11 H locs ls hm hy_9 hq0_cut_8 hq1_cut_8 hq2_cut_8 hVz_10 hAz_10 hRz_10 hP hD hS g_12 g_13 g_14 hl
        have ntA : ((y_9.toNatClampNeg : Nat) : Int) = y_9.toInt := tn_i (by omega)
        refine lv_iload_n hx hb dX11_home_16 rfl (lv_at hl 0 rfl) ?_
        refine lv_aload_n hx hb dX11_home_17 rfl (lv_at hl 1 rfl) ?_
        refine va_get (D := (dC, dI)) (ci := 11) (v := .int (z_10 43)) (C := RX11) (T := TX11) (N := 63) hx hb hts in_wsX11_home_X11 hown hK hP 0 rfl rfl 43 (by decide) (hts (.fieldLink RX11 168 "ShipOfficeModel" "agreements" "I") iw_X11_home_1) (fun _ h9 => h9) rfl dX11_home_18 ?_
        refine lv_topi (fun x_15 ex_15 => ?_)
        have hx_15 : 0 ≤ x_15.toInt ∧ x_15.toInt ≤ 60 := iv_of ex_15 (hVz_10 43)
        have gx_15 : x_15.toInt = (z_10 43).toInt := iv_to ex_15
        clear ex_15
        rw [show z_10 43 = v 43 from hq1_cut_8.1 43 rfl] at gx_15
        refine lv_icmp_ge (tgt := 106) hx hb dX11_home_21 (by decide) (fun c_16 => ?_) (fun c_16 => ?_)
        · have dc_16 := c_le (a := x_15.toInt) (b := y_9.toInt) rfl rfl c_16
          refine lv_aload_n hx hb dX11_home_106 rfl (lv_at hl 1 rfl) ?_
          refine lv_bipush (v := (-3)) hx hb dX11_home_107 (by decide) ?_
          have hFc := va_free (wc := (mW g0 pq cp z_10 fz_11)) hD hS hA (List.range 48) rfl
          refine va_calli (va_runV (As := [.int (-3)]) (rest := []) ⟨hx, hb, hml, hown, hts⟩ (c_X11_refuse_f l dC dI H.size g0 pq cp z_10 fz_11 (-3) (by unfold vp_in; decide)) (cwV 1 hts gX11_home_X11_refuse rfl rfl rfl (by decide +kernel) ⟨(Nat.le_of_ble_eq_true rfl), (Nat.le_of_ble_eq_true rfl)⟩) (pr_V (r := (RX11, TX11, 63)) hP hK hD 0 11 rfl rfl) rfl rfl hl.1 rfl (lv_room (Nat.le_of_ble_eq_true rfl)) dX11_home_109 ⟨(Nat.le_of_ble_eq_true rfl), (Nat.le_of_ble_eq_true rfl)⟩) hS (fun q _ h => hFc q h) hFc (fun r_18 u t H locs ht hvm w_17 hB hz1 hk1 hS => ?_)
          obtain ⟨v_19, fa_20⟩ := u
          obtain ⟨hP1, hK1, hD1⟩ := hB
          rw [ht] at hP1
          have hP : va_P (dC, dI) vwCl (mW g0 pq cp v_19 fa_20) H := hP1
          have hD : va_D A (mW g0 pq cp v_19 fa_20) := hD1.weaken (fun _ _ _ h => hFc _ h)
          clear hP1 hK1 hD1 hk1 hz1 hvm ht hFc
          obtain ⟨rfl, hs1_21⟩ := w_17
          have hVv_19 : mV v_19 := sm0_V (sm1_0 hs1_21) hVz_10
          have hAv_19 : mA fa_20 := sm0_A (sm1_0 hs1_21) hAz_10
          have g_22 : (v_19 38).toInt = (z_10 38).toInt := congrArg Int32.toInt (congrFun hs1_21.1 38)
          have g_23 : (v_19 39).toInt = (z_10 39).toInt := congrArg Int32.toInt (congrFun hs1_21.1 39)
          have g_24 : (v_19 43).toInt = (z_10 43).toInt := congrArg Int32.toInt (congrFun hs1_21.1 43)
          have hRv_19 : mX [0, 45, 47, 48, 49, 50, 51, 52, 53, 54, 55, 56, 57, 58, 59, 60] v fa v_19 fa_20 := mX.st hRz_10 (mX.s0 (sm1_0 hs1_21)) (by decide)
          exact W.iret (v := (-3)) hx hb hr (fun t ht hW => ⟨⟨(-3), (v_19, fa_20), rfl, ⟨hVv_19, hAv_19, hRv_19, (by have eN : y_9.toNatClampNeg = (v 43).toNatClampNeg := (show y_9.toInt.toNat = (v 43).toInt.toNat by omega); have hn9 : ∀ b, b < (v 43).toNatClampNeg → ¬ hmD v fa x1.toInt b := (by rw [← eN]; exact hq0_cut_8); exact ⟨Or.inr ⟨by omega, Or.inr ⟨hn9, by decide⟩⟩, Or.inl ⟨Or.inr hn9, sm2_s hq1_cut_8 hs1_21⟩⟩)⟩, ⟨by rw [ht]; exact hP, va_K.moved hW.alike hK, hD⟩⟩, hS.F ht⟩) hS.2.2 dX11_home_112
        · have dc_16 := c_nle (a := x_15.toInt) (b := y_9.toInt) rfl rfl c_16
          refine lv_aload_n hx hb dX11_home_24 rfl (lv_at hl 1 rfl) ?_
          refine va_get (D := (dC, dI)) (ci := 11) (v := .ref (pq 20)) (C := RX11) (T := TX11) (N := 63) hx hb hts in_wsX11_home_X11 hown hK hP 0 rfl rfl 20 (by decide) (hts (.fieldLink RX11 70 "ShipOfficeModel" "man" "[I") iw_X11_home_2) (fun _ h9 => h9) rfl dX11_home_25 ?_
          refine lv_iload_n hx hb dX11_home_28 rfl (lv_at hl 0 rfl) ?_
          refine va_iald hx hb hK hP 21 20 rfl rfl (vp_in_iff.mpr (by omega)) dX11_home_29 ?_
          refine lv_topi (fun x_25 ex_25 => ?_)
          have hx_25 : 0 ≤ x_25.toInt ∧ x_25.toInt ≤ 39 := iv_of ex_25 (hAz_10 20 _)
          have gx_25 : x_25.toInt = (fz_11 20 (y_9 : Int32).toNatClampNeg).toInt := iv_to ex_25
          clear ex_25
          rw [show fz_11 20 = fa 20 from hq1_cut_8.2 20 rfl] at gx_25
          refine lv_iload_n hx hb dX11_home_30 rfl (lv_at hl 2 rfl) ?_
          refine lv_icmp_ne (tgt := 100) hx hb dX11_home_31 (by decide) (fun c_26 => ?_) (fun c_26 => ?_)
          · have dc_26 := c_ne (a := x_25.toInt) (b := x1.toInt) rfl rfl c_26
            obtain ⟨x_27, ex_27⟩ : ∃ zq : Int32, y_9 + 1 = zq := ⟨_, rfl⟩
            have hx_27 : x_27.toInt = y_9.toInt + 1 := (iv_to ex_27).symm.trans (ad_i rfl (by decide) (by omega) (by omega))
            refine lv_iinc (v := x_27) (lv' := [(2, .int x_27), (0, .ref g0), (1, .int x1)]) hx hb dX11_home_100 hl (k := 0) rfl ex_27 (by decide) rfl (fun ls hl => ?_)
            clear ex_27
            refine lv_goto (tgt := 16) hx hb dX11_home_103 (by decide) ?_
            exact ih (n - 1) (by omega) x_27 z_10 fz_11 _ _ ls (by omega) (by omega) (al_s hq0_cut_8 (fun q => by unfold hmD at q; omega) (by omega) (by omega)) hq1_cut_8 (by omega) hVz_10 hAz_10 hRz_10 hP hD hS (by omega) (by omega) (by omega) (lv_sub hl [0, 1, 2] rfl)
          · have dc_26 := c_eq (a := x_25.toInt) (b := x1.toInt) rfl rfl c_26
            refine lv_aload_n hx hb dX11_home_34 rfl (lv_at hl 1 rfl) ?_
            refine lv_iload_n hx hb dX11_home_35 rfl (lv_at hl 0 rfl) ?_
            refine lv_aload_n hx hb dX11_home_36 rfl (lv_at hl 1 rfl) ?_
            refine va_get (D := (dC, dI)) (ci := 11) (v := .int (z_10 38)) (C := RX11) (T := TX11) (N := 63) hx hb hts in_wsX11_home_X11 hown hK hP 0 rfl rfl 38 (by decide) (hts (.fieldLink RX11 171 "ShipOfficeModel" "now" "I") iw_X11_home_3) (fun _ h9 => h9) rfl dX11_home_37 ?_
            refine lv_topi (fun x_28 ex_28 => ?_)
            have hx_28 : 0 ≤ x_28.toInt ∧ x_28.toInt ≤ 3000 := iv_of ex_28 (hVz_10 38)
            have gx_28 : x_28.toInt = (z_10 38).toInt := iv_to ex_28
            clear ex_28
            rw [show z_10 38 = v 38 from hq1_cut_8.1 38 rfl] at gx_28
            refine lv_aload_n hx hb dX11_home_40 rfl (lv_at hl 1 rfl) ?_
            refine va_get (D := (dC, dI)) (ci := 11) (v := .int (z_10 38)) (C := RX11) (T := TX11) (N := 63) hx hb hts in_wsX11_home_X11 hown hK hP 0 rfl rfl 38 (by decide) (hts (.fieldLink RX11 171 "ShipOfficeModel" "now" "I") iw_X11_home_3) (fun _ h9 => h9) rfl dX11_home_41 ?_
            refine lv_topi (fun x_29 ex_29 => ?_)
            have hx_29 : 0 ≤ x_29.toInt ∧ x_29.toInt ≤ 3000 := iv_of ex_29 (hVz_10 38)
            have gx_29 : x_29.toInt = (z_10 38).toInt := iv_to ex_29
            clear ex_29
            rw [show z_10 38 = v 38 from hq1_cut_8.1 38 rfl] at gx_29
            have hFc := va_free (wc := (mW g0 pq cp z_10 fz_11)) hD hS hA (List.range 48) rfl
            refine va_calli (va_runV (As := [.int y_9, .int x_28, .int x_29]) (rest := []) ⟨hx, hb, hml, hown, hts⟩ (c_X11_stateOf_f l dC dI H.size g0 pq cp z_10 fz_11 hVz_10 hAz_10 y_9 (by omega) x_28 (by omega) x_29 (wlA_fr hWl (hq1_cut_8.1 42 rfl) (hq1_cut_8.2 19 rfl) (hq1_cut_8.2 16 rfl))) (cwV 3 hts gX11_home_X11_stateOf rfl rfl rfl (by decide +kernel) ⟨(Nat.le_of_ble_eq_true rfl), (Nat.le_of_ble_eq_true rfl)⟩) (pr_V (r := (RX11, TX11, 63)) hP hK hD 0 11 rfl rfl) rfl rfl hl.1 rfl (lv_room (Nat.le_of_ble_eq_true rfl)) dX11_home_44 ⟨(Nat.le_of_ble_eq_true rfl), (Nat.le_of_ble_eq_true rfl)⟩) hS (fun q _ h => hFc q h) hFc (fun r_31 u t H locs ht hvm w_30 hB hz1 hk1 hS => ?_)
            obtain ⟨v_32, fa_33⟩ := u
            obtain ⟨hP1, hK1, hD1⟩ := hB
            rw [ht] at hP1
            have hP : va_P (dC, dI) vwCl (mW g0 pq cp v_32 fa_33) H := hP1
            have hD : va_D A (mW g0 pq cp v_32 fa_33) := hD1.weaken (fun _ _ _ h => hFc _ h)
            clear hP1 hK1 hD1 hk1 hz1 hvm ht hFc
            obtain ⟨hV_34, hA_35, hR_36, hb_37, hx_38⟩ := w_30
            dsimp only at hV_34 hA_35 hR_36 hb_37 hx_38
            have g_39 : (v_32 38).toInt = (z_10 38).toInt := congrArg Int32.toInt (hR_36.1 38 rfl)
            have g_40 : (v_32 39).toInt = (z_10 39).toInt := congrArg Int32.toInt (hR_36.1 39 rfl)
            have g_41 : (v_32 43).toInt = (z_10 43).toInt := congrArg Int32.toInt (hR_36.1 43 rfl)
            have g_42 : (fa_33 20 (y_9 : Int32).toNatClampNeg).toInt = (fz_11 20 (y_9 : Int32).toNatClampNeg).toInt := congrArg (fun h : Nat → Int32 => Int32.toInt (h (y_9 : Int32).toNatClampNeg)) (hR_36.2 20 rfl)
            have R_43 : mX [0, 45, 47, 48, 49, 50, 51, 52, 53, 54, 55, 56, 57, 58, 59, 60] v fa v_32 fa_33 := mX.st hRz_10 (mX.scr hR_36) (by decide)
            try rw [gx_28] at hx_38
            try rw [gx_29] at hx_38
            have sc_44 := scr.tr hq1_cut_8 hR_36
            have q0_45 : fa_33 0 = fa 0 := (hR_36.2 0 rfl).trans (hq1_cut_8.2 0 rfl)
            rw [stF_s hWl hq1_cut_8] at hx_38
            refine lv_iconst (v := 3) hx hb dX11_home_47 (by decide) ?_
            refine lv_icmp_eq (tgt := 54) hx hb dX11_home_48 (by decide) (fun c_46 => ?_) (fun c_46 => ?_)
            · have dc_46 := c_eq (a := r_31.toInt) (b := 3) rfl (by decide) c_46
              refine lv_aload_n hx hb dX11_home_54 rfl (lv_at hl 1 rfl) ?_
              refine lv_iload_n hx hb dX11_home_55 rfl (lv_at hl 0 rfl) ?_
              refine lv_aload_n hx hb dX11_home_56 rfl (lv_at hl 1 rfl) ?_
              refine va_get (D := (dC, dI)) (ci := 11) (v := .int (v_32 38)) (C := RX11) (T := TX11) (N := 63) hx hb hts in_wsX11_home_X11 hown hK hP 0 rfl rfl 38 (by decide) (hts (.fieldLink RX11 171 "ShipOfficeModel" "now" "I") iw_X11_home_3) (fun _ h9 => h9) rfl dX11_home_57 ?_
              refine lv_topi (fun x_47 ex_47 => ?_)
              have hx_47 : 0 ≤ x_47.toInt ∧ x_47.toInt ≤ 3000 := iv_of ex_47 (hV_34 38)
              have gx_47 : x_47.toInt = (v_32 38).toInt := iv_to ex_47
              clear ex_47
              rw [show v_32 38 = v 38 from sc_44.1 38 rfl] at gx_47
              refine lv_aload_n hx hb dX11_home_60 rfl (lv_at hl 1 rfl) ?_
              refine va_get (D := (dC, dI)) (ci := 11) (v := .int (v_32 38)) (C := RX11) (T := TX11) (N := 63) hx hb hts in_wsX11_home_X11 hown hK hP 0 rfl rfl 38 (by decide) (hts (.fieldLink RX11 171 "ShipOfficeModel" "now" "I") iw_X11_home_3) (fun _ h9 => h9) rfl dX11_home_61 ?_
              refine lv_topi (fun x_48 ex_48 => ?_)
              have hx_48 : 0 ≤ x_48.toInt ∧ x_48.toInt ≤ 3000 := iv_of ex_48 (hV_34 38)
              have gx_48 : x_48.toInt = (v_32 38).toInt := iv_to ex_48
              clear ex_48
              rw [show v_32 38 = v 38 from sc_44.1 38 rfl] at gx_48
              have hFc : ∀ q, va_A [] H.size q → A q := pu_free hS hA
              refine va_calli (va_runV (As := [.int y_9, .int x_47, .int x_48]) (rest := []) ⟨hx, hb, hml, hown, hts⟩ (c_X11_whereOf_f l dC dI H.size g0 pq cp v_32 fa_33 hV_34 hA_35 y_9 x_47 x_48) (cwV 3 hts gX11_home_X11_whereOf rfl rfl rfl (by decide +kernel) ⟨(Nat.le_of_ble_eq_true rfl), (Nat.le_of_ble_eq_true rfl)⟩) (pr_V (r := (RX11, TX11, 63)) hP hK hD 0 11 rfl rfl) rfl rfl hl.1 rfl (lv_room (Nat.le_of_ble_eq_true rfl)) dX11_home_64 ⟨(Nat.le_of_ble_eq_true rfl), (Nat.le_of_ble_eq_true rfl)⟩) hS (fun q _ h => hFc q h) hFc (fun r_50 u t H locs ht hvm w_49 hB hz1 hk1 hS => ?_)
              have hP := pu_keep hP hk1
              clear hk1 hz1 hvm hB ht hFc
              obtain ⟨hb_51, hx_52⟩ := w_49
              try rw [gx_47] at hx_52
              try rw [gx_48] at hx_52
              rw [whO_s sc_44] at hx_52
              have hwh9 := hx_52
              have hw3 := st3_w (v := v) (fa := fa) (a := y_9.toNatClampNeg) (d := (v 38).toInt) (k := (v 38).toInt) (by omega)
              rw [← ntA] at hwh9
              have hwr : 0 ≤ r_50.toInt := by omega
              refine lv_istore_n (lv' := [(3, .int r_50), (2, .int y_9), (0, .ref g0), (1, .int x1)]) hx hb dX11_home_67 rfl hl (by decide) rfl (fun ls hl => ?_)
              refine lv_aload_n hx hb dX11_home_68 rfl (lv_at hl 2 rfl) ?_
              refine va_get (D := (dC, dI)) (ci := 11) (v := .ref (pq 14)) (C := RX11) (T := TX11) (N := 63) hx hb hts in_wsX11_home_X11 hown hK hP 0 rfl rfl 14 (by decide) (hts (.fieldLink RX11 52 "ShipOfficeModel" "way" "[I") iw_X11_home_4) (fun _ h9 => h9) rfl dX11_home_69 ?_
              refine lv_iload_n hx hb dX11_home_72 rfl (lv_at hl 0 rfl) ?_
              refine va_iald hx hb hK hP 15 14 rfl rfl (vp_in_iff.mpr (by omega)) dX11_home_73 ?_
              refine lv_topi (fun x_53 ex_53 => ?_)
              have gx_53 : x_53.toInt = (fa_33 14 (r_50 : Int32).toNatClampNeg).toInt := iv_to ex_53
              clear ex_53
              rw [show fa_33 14 = fa 14 from sc_44.2 14 rfl] at gx_53
              rw [show (r_50 : Int32).toNatClampNeg = (whO v fa ((y_9.toNatClampNeg : Nat) : Int) (v 38).toInt (v 38).toInt).toNat from (show r_50.toInt.toNat = (whO v fa ((y_9.toNatClampNeg : Nat) : Int) (v 38).toInt (v 38).toInt).toNat by omega)] at gx_53
              refine lv_iconst (v := 1) hx hb dX11_home_74 (by decide) ?_
              refine lv_icmp_ne (tgt := 100) hx hb dX11_home_75 (by decide) (fun c_54 => ?_) (fun c_54 => ?_)
              · have dc_54 := c_ne (a := x_53.toInt) (b := 1) rfl (by decide) c_54
                obtain ⟨x_55, ex_55⟩ : ∃ zq : Int32, y_9 + 1 = zq := ⟨_, rfl⟩
                have hx_55 : x_55.toInt = y_9.toInt + 1 := (iv_to ex_55).symm.trans (ad_i rfl (by decide) (by omega) (by omega))
                refine lv_iinc (v := x_55) (lv' := [(2, .int x_55), (3, .int r_50), (0, .ref g0), (1, .int x1)]) hx hb dX11_home_100 hl (k := 1) rfl ex_55 (by decide) rfl (fun ls hl => ?_)
                clear ex_55
                refine lv_goto (tgt := 16) hx hb dX11_home_103 (by decide) ?_
                exact ih (n - 1) (by omega) x_55 v_32 fa_33 _ _ ls (by omega) (by omega) (al_s hq0_cut_8 (fun q => by unfold hmD at q; omega) (by omega) (by omega)) sc_44 (by omega) hV_34 hA_35 R_43 hP hD hS (by omega) (by omega) (by omega) (lv_sub hl [0, 2, 3] rfl)
              · have dc_54 := c_eq (a := x_53.toInt) (b := 1) rfl (by decide) c_54
                refine lv_aload_n hx hb dX11_home_78 rfl (lv_at hl 2 rfl) ?_
                refine lv_aload_n hx hb dX11_home_79 rfl (lv_at hl 2 rfl) ?_
                refine va_get (D := (dC, dI)) (ci := 11) (v := .ref (pq 15)) (C := RX11) (T := TX11) (N := 63) hx hb hts in_wsX11_home_X11 hown hK hP 0 rfl rfl 15 (by decide) (hts (.fieldLink RX11 55 "ShipOfficeModel" "port" "[I") iw_X11_home_5) (fun _ h9 => h9) rfl dX11_home_80 ?_
                refine lv_iload_n hx hb dX11_home_83 rfl (lv_at hl 0 rfl) ?_
                refine va_iald hx hb hK hP 16 15 rfl rfl (vp_in_iff.mpr (by omega)) dX11_home_84 ?_
                refine lv_topi (fun x_56 ex_56 => ?_)
                have hx_56 : 0 ≤ x_56.toInt ∧ x_56.toInt ≤ 9 := iv_of ex_56 (hA_35 15 _)
                have gx_56 : x_56.toInt = (fa_33 15 (r_50 : Int32).toNatClampNeg).toInt := iv_to ex_56
                clear ex_56
                rw [show fa_33 15 = fa 15 from sc_44.2 15 rfl] at gx_56
                rw [show (r_50 : Int32).toNatClampNeg = (whO v fa ((y_9.toNatClampNeg : Nat) : Int) (v 38).toInt (v 38).toInt).toNat from (show r_50.toInt.toNat = (whO v fa ((y_9.toNatClampNeg : Nat) : Int) (v 38).toInt (v 38).toInt).toNat by omega)] at gx_56
                refine lv_aload_n hx hb dX11_home_85 rfl (lv_at hl 2 rfl) ?_
                refine va_get (D := (dC, dI)) (ci := 11) (v := .ref (pq 8)) (C := RX11) (T := TX11) (N := 63) hx hb hts in_wsX11_home_X11 hown hK hP 0 rfl rfl 8 (by decide) (hts (.fieldLink RX11 34 "ShipOfficeModel" "openPort" "[I") iw_X11_home_6) (fun _ h9 => h9) rfl dX11_home_86 ?_
                refine lv_aload_n hx hb dX11_home_89 rfl (lv_at hl 2 rfl) ?_
                refine va_get (D := (dC, dI)) (ci := 11) (v := .ref (pq 21)) (C := RX11) (T := TX11) (N := 63) hx hb hts in_wsX11_home_X11 hown hK hP 0 rfl rfl 21 (by decide) (hts (.fieldLink RX11 73 "ShipOfficeModel" "voyage" "[I") iw_X11_home_7) (fun _ h9 => h9) rfl dX11_home_90 ?_
                refine lv_iload_n hx hb dX11_home_93 rfl (lv_at hl 1 rfl) ?_
                refine va_iald hx hb hK hP 22 21 rfl rfl (vp_in_iff.mpr (by omega)) dX11_home_94 ?_
                refine lv_topi (fun x_57 ex_57 => ?_)
                have hx_57 : 0 ≤ x_57.toInt ∧ x_57.toInt ≤ 19 := iv_of ex_57 (hA_35 21 _)
                have gx_57 : x_57.toInt = (fa_33 21 (y_9 : Int32).toNatClampNeg).toInt := iv_to ex_57
                clear ex_57
                rw [show fa_33 21 = fa 21 from sc_44.2 21 rfl] at gx_57
                refine va_iald hx hb hK hP 9 8 rfl rfl (vp_in_iff.mpr (by omega)) dX11_home_95 ?_
                refine lv_topi (fun x_58 ex_58 => ?_)
                have hx_58 : 0 ≤ x_58.toInt ∧ x_58.toInt ≤ 9 := iv_of ex_58 (hA_35 8 _)
                have gx_58 : x_58.toInt = (fa_33 8 (x_57 : Int32).toNatClampNeg).toInt := iv_to ex_58
                clear ex_58
                rw [show fa_33 8 = fa 8 from sc_44.2 8 rfl] at gx_58
                rw [cn_c gx_57] at gx_58
                have hFc := va_free (wc := (mW g0 pq cp v_32 fa_33)) hD hS hA (List.range 48) rfl
                refine va_calli (va_runV (As := [.int x_56, .int x_58]) (rest := []) ⟨hx, hb, hml, hown, hts⟩ (c_X11_wayTo_f l dC dI H.size g0 pq cp v_32 fa_33 hV_34 hA_35 x_56 (by omega) x_58 (by omega) (fun i => by rw [sc_44.2 1 rfl]; exact hMi i)) (cwV 2 hts gX11_home_X11_wayTo rfl rfl rfl (by decide +kernel) ⟨(Nat.le_of_ble_eq_true rfl), (Nat.le_of_ble_eq_true rfl)⟩) (pr_V (r := (RX11, TX11, 63)) hP hK hD 0 11 rfl rfl) rfl rfl hl.1 rfl (lv_room (Nat.le_of_ble_eq_true rfl)) dX11_home_96 ⟨(Nat.le_of_ble_eq_true rfl), (Nat.le_of_ble_eq_true rfl)⟩) hS (fun q _ h => hFc q h) hFc (fun r_60 u t H locs ht hvm w_59 hB hz1 hk1 hS => ?_)
                obtain ⟨v_61, fa_62⟩ := u
                obtain ⟨hP1, hK1, hD1⟩ := hB
                rw [ht] at hP1
                have hP : va_P (dC, dI) vwCl (mW g0 pq cp v_61 fa_62) H := hP1
                have hD : va_D A (mW g0 pq cp v_61 fa_62) := hD1.weaken (fun _ _ _ h => hFc _ h)
                clear hP1 hK1 hD1 hk1 hz1 hvm ht hFc
                obtain ⟨hV_63, hA_64, hR_65, hx_66⟩ := w_59
                dsimp only at hV_63 hA_64 hR_65 hx_66
                have g_67 : (v_61 38).toInt = (v_32 38).toInt := congrArg Int32.toInt (hR_65.1 38 rfl)
                have g_68 : (v_61 39).toInt = (v_32 39).toInt := congrArg Int32.toInt (hR_65.1 39 rfl)
                have g_69 : (v_61 43).toInt = (v_32 43).toInt := congrArg Int32.toInt (hR_65.1 43 rfl)
                have g_70 : (fa_62 8 (x_57 : Int32).toNatClampNeg).toInt = (fa_33 8 (x_57 : Int32).toNatClampNeg).toInt := congrArg (fun h : Nat → Int32 => Int32.toInt (h (x_57 : Int32).toNatClampNeg)) (hR_65.2 8 rfl)
                have g_71 : (fa_62 14 (r_50 : Int32).toNatClampNeg).toInt = (fa_33 14 (r_50 : Int32).toNatClampNeg).toInt := congrArg (fun h : Nat → Int32 => Int32.toInt (h (r_50 : Int32).toNatClampNeg)) (hR_65.2 14 rfl)
                have g_72 : (fa_62 15 (r_50 : Int32).toNatClampNeg).toInt = (fa_33 15 (r_50 : Int32).toNatClampNeg).toInt := congrArg (fun h : Nat → Int32 => Int32.toInt (h (r_50 : Int32).toNatClampNeg)) (hR_65.2 15 rfl)
                have g_73 : (fa_62 20 (y_9 : Int32).toNatClampNeg).toInt = (fa_33 20 (y_9 : Int32).toNatClampNeg).toInt := congrArg (fun h : Nat → Int32 => Int32.toInt (h (y_9 : Int32).toNatClampNeg)) (hR_65.2 20 rfl)
                have g_74 : (fa_62 21 (y_9 : Int32).toNatClampNeg).toInt = (fa_33 21 (y_9 : Int32).toNatClampNeg).toInt := congrArg (fun h : Nat → Int32 => Int32.toInt (h (y_9 : Int32).toNatClampNeg)) (hR_65.2 21 rfl)
                have R_75 : mX [0, 45, 47, 48, 49, 50, 51, 52, 53, 54, 55, 56, 57, 58, 59, 60] v fa v_61 fa_62 := mX.st R_43 (mX.scr hR_65) (by decide)
                try rw [gx_56] at hx_66
                try rw [gx_58] at hx_66
                have sc_76 := scr.tr sc_44 hR_65
                have q0_77 : fa_62 0 = fa 0 := (hR_65.2 0 rfl).trans q0_45
                rw [miF_s sc_44] at hx_66
                exact W.iret (v := r_60) hx hb hr (fun t ht hW => ⟨⟨r_60, (v_61, fa_62), rfl, ⟨hV_63, hA_64, R_75, (by have hd9 : hmD v fa x1.toInt y_9.toNatClampNeg := (by unfold hmD; omega); have hw9 := hx_66; rw [cn_c gx_56, cn_c gx_58] at hw9; exact ⟨Or.inr ⟨by omega, Or.inl ⟨y_9.toNatClampNeg, ni_lt (by omega) (by omega), hd9, hq0_cut_8, by unfold hmW; exact hw9⟩⟩, Or.inr ⟨fun q => q.elim (fun q => q (by omega)) (fun q => q _ (ni_lt (by omega) (by omega)) hd9), (by dsimp only; exact q0_77)⟩⟩)⟩, ⟨by rw [ht]; exact hP, va_K.moved hW.alike hK, hD⟩⟩, hS.F ht⟩) hS.2.2 dX11_home_99
            · have dc_46 := c_ne (a := r_31.toInt) (b := 3) rfl (by decide) c_46
              refine lv_goto (tgt := 100) hx hb dX11_home_51 (by decide) ?_
              obtain ⟨x_78, ex_78⟩ : ∃ zq : Int32, y_9 + 1 = zq := ⟨_, rfl⟩
              have hx_78 : x_78.toInt = y_9.toInt + 1 := (iv_to ex_78).symm.trans (ad_i rfl (by decide) (by omega) (by omega))
              refine lv_iinc (v := x_78) (lv' := [(2, .int x_78), (0, .ref g0), (1, .int x1)]) hx hb dX11_home_100 hl (k := 0) rfl ex_78 (by decide) rfl (fun ls hl => ?_)
              clear ex_78
              refine lv_goto (tgt := 16) hx hb dX11_home_103 (by decide) ?_
              exact ih (n - 1) (by omega) x_78 v_32 fa_33 _ _ ls (by omega) (by omega) (al_s hq0_cut_8 (fun q => by unfold hmD at q; omega) (by omega) (by omega)) sc_44 (by omega) hV_34 hA_35 R_43 hP hD hS (by omega) (by omega) (by omega) (lv_sub hl [0, 1, 2] rfl)
    have kc_79 : (0 : Int32).toInt = 0 := by decide
    exact cut_8 61 0 v fa _ _ ls (by omega) (by decide) (al_0 (by decide)) scr.rf (by have rc : (0 : Int32).toInt = 0 := (by decide); omega) gV gA mX.rf hP hD hS (by omega) (by omega) (by omega) (lv_sub hl [0, 1, 2] rfl)
  · have dc_6 := c_eq (a := r_5.toInt) (b := 0) rfl (by decide) c_6
    have hz_80 := isI_0 (w_4.symm.trans c_6)
    refine lv_aload_n hx hb dX11_home_8 rfl (lv_at hl 0 rfl) ?_
    refine lv_iconst (v := (-1)) hx hb dX11_home_9 (by decide) ?_
    have hFc := va_free (wc := (mW g0 pq cp v fa)) hD hS hA (List.range 48) rfl
    refine va_calli (va_runV (As := [.int (-1)]) (rest := []) ⟨hx, hb, hml, hown, hts⟩ (c_X11_refuse_f l dC dI H.size g0 pq cp v fa (-1) (by unfold vp_in; decide)) (cwV 1 hts gX11_home_X11_refuse rfl rfl rfl (by decide +kernel) ⟨(Nat.le_of_ble_eq_true rfl), (Nat.le_of_ble_eq_true rfl)⟩) (pr_V (r := (RX11, TX11, 63)) hP hK hD 0 11 rfl rfl) rfl rfl hl.1 rfl (lv_room (Nat.le_of_ble_eq_true rfl)) dX11_home_10 ⟨(Nat.le_of_ble_eq_true rfl), (Nat.le_of_ble_eq_true rfl)⟩) hS (fun q _ h => hFc q h) hFc (fun r_82 u t H locs ht hvm w_81 hB hz1 hk1 hS => ?_)
    obtain ⟨v_83, fa_84⟩ := u
    obtain ⟨hP1, hK1, hD1⟩ := hB
    rw [ht] at hP1
    have hP : va_P (dC, dI) vwCl (mW g0 pq cp v_83 fa_84) H := hP1
    have hD : va_D A (mW g0 pq cp v_83 fa_84) := hD1.weaken (fun _ _ _ h => hFc _ h)
    clear hP1 hK1 hD1 hk1 hz1 hvm ht hFc
    obtain ⟨rfl, hs1_85⟩ := w_81
    have hVv_83 : mV v_83 := sm0_V (sm1_0 hs1_85) gV
    have hAv_83 : mA fa_84 := sm0_A (sm1_0 hs1_85) gA
    have g_86 : (v_83 38).toInt = (v 38).toInt := congrArg Int32.toInt (congrFun hs1_85.1 38)
    have g_87 : (v_83 39).toInt = (v 39).toInt := congrArg Int32.toInt (congrFun hs1_85.1 39)
    have g_88 : (v_83 43).toInt = (v 43).toInt := congrArg Int32.toInt (congrFun hs1_85.1 43)
    have hRv_83 : mX [0, 45, 47, 48, 49, 50, 51, 52, 53, 54, 55, 56, 57, 58, 59, 60] v fa v_83 fa_84 := mX.st mX.rf (mX.s0 (sm1_0 hs1_85)) (by decide)
    exact W.iret (v := (-1)) hx hb hr (fun t ht hW => ⟨⟨(-1), (v_83, fa_84), rfl, ⟨hVv_83, hAv_83, hRv_83, ⟨Or.inl ⟨by omega, by decide⟩, Or.inl ⟨Or.inl (by omega), sm2_1 hs1_85⟩⟩⟩, ⟨by rw [ht]; exact hP, va_K.moved hW.alike hK, hD⟩⟩, hS.F ht⟩) hS.2.2 dX11_home_13
