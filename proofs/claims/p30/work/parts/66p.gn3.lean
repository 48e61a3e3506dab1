

/-- the group of a man -/
def grA (v : Nat → Int32) (fa : Nat → Nat → Int32) (m r : Int) : Prop := (¬ (0 ≤ m ∧ m < (v 39).toInt) ∧ r = -1) ∨ ((0 ≤ m ∧ m < (v 39).toInt) ∧ ∃ g, lab (gE (alF fa) (v 39).toNatClampNeg) (v 39).toNatClampNeg g ∧ r = g m.toNat)
theorem tn_lt {x : Int} {y : Int32} (h : 0 ≤ x ∧ x < y.toInt) : x.toNat < y.toNatClampNeg := show x.toNat < y.toInt.toNat by omega
theorem grA_e {v : Nat → Int32} {fa : Nat → Nat → Int32} {m r r1 : Int} (h : grA v fa m r) (k : grA v fa m r1) : r = r1 := by
  rcases h with ⟨h1, h2⟩ | ⟨h1, g, h2, h3⟩
  · rcases k with ⟨k1, k2⟩ | ⟨k1, f, k2, k3⟩
    · rw [h2, k2]
    · exact absurd k1 h1
  · rcases k with ⟨k1, k2⟩ | ⟨k1, f, k2, k3⟩
    · exact absurd h1 k1
    · rw [h3, k3]
      exact lab_u h2 k2 (tn_lt h1)
/-- the last day of an agreement, as far as it is known -/
def enD (v : Nat → Int32) (fa : Nat → Nat → Int32) (a : Nat) : Int := if (fa 26 a).toInt < 0 then (v 38).toInt else (fa 26 a).toInt
theorem enD_s {v z : Nat → Int32} {fa fz : Nat → Nat → Int32} (h : scr v fa z fz) : enD z fz = enD v fa := by
  funext a
  unfold enD
  rw [h.1 38 rfl, h.2 26 rfl]
/-- the same paper is shown twice -/
def twP (v : Nat → Int32) (fa : Nat → Nat → Int32) (a o : Nat) : Prop := o ≠ a ∧ (fa 24 o).toInt = (fa 24 a).toInt ∧ (fa 25 o).toInt ≤ enD v fa a ∧ (fa 25 a).toInt ≤ enD v fa o
def bwN (v : Nat → Int32) (fa : Nat → Nat → Int32) (g : Nat → Int) (a : Nat) : Prop := g (fa 20 (fa 24 a).toNatClampNeg).toNatClampNeg ≠ g (fa 20 a).toNatClampNeg ∨ ∃ o, o < (v 43).toNatClampNeg ∧ twP v fa a o
def boA (v : Nat → Int32) (fa : Nat → Nat → Int32) (a r : Int) : Prop := (¬ (0 ≤ a ∧ a < (v 43).toInt) ∧ r = -1) ∨ ((0 ≤ a ∧ a < (v 43).toInt) ∧ (((fa 24 a.toNat).toInt < 0 ∧ r = 0) ∨ (0 ≤ (fa 24 a.toNat).toInt ∧ ∃ g, lab (gE (alF fa) (v 39).toNatClampNeg) (v 39).toNatClampNeg g ∧ ((bwN v fa g a.toNat ∧ r = 1) ∨ (¬ bwN v fa g a.toNat ∧ r = 0)))))
theorem boA_e {v : Nat → Int32} {fa : Nat → Nat → Int32} {a r r1 : Int} (hM : ∀ a, a < (v 43).toNatClampNeg → (fa 20 a).toNatClampNeg < (v 39).toNatClampNeg ∧ (0 ≤ (fa 24 a).toInt → (fa 20 (fa 24 a).toNatClampNeg).toNatClampNeg < (v 39).toNatClampNeg)) (h : boA v fa a r) (k : boA v fa a r1) : r = r1 := by
  rcases h with ⟨h1, h2⟩ | ⟨h1, h2⟩
  · rcases k with ⟨k1, k2⟩ | ⟨k1, -⟩
    · rw [h2, k2]
    · exact absurd k1 h1
  · rcases k with ⟨k1, k2⟩ | ⟨k1, k2⟩
    · exact absurd h1 k1
    · rcases h2 with ⟨h2, h3⟩ | ⟨h2, g, h3, h4⟩
      · rcases k2 with ⟨k2, k3⟩ | ⟨k2, f, k3, k4⟩
        · rw [h3, k3]
        · omega
      · rcases k2 with ⟨k2, k3⟩ | ⟨k2, f, k3, k4⟩
        · omega
        · have m1 := hM a.toNat (tn_lt h1)
          have e : bwN v fa g a.toNat ↔ bwN v fa f a.toNat := by
            unfold bwN
            rw [lab_u h3 k3 m1.1, lab_u h3 k3 (m1.2 h2)]
          rcases h4 with ⟨h4, h5⟩ | ⟨h4, h5⟩
          · rcases k4 with ⟨k4, k5⟩ | ⟨k4, k5⟩
            · rw [h5, k5]
            · exact absurd (e.mp h4) k4
          · rcases k4 with ⟨k4, k5⟩ | ⟨k4, k5⟩
            · exact absurd (e.mpr k4) h4
            · rw [h5, k5]
set_option maxHeartbeats 4000000 in
set_option maxRecDepth 100000 in
theorem c_X11_group_f (l : Launch) (dC : Nat → ClassId) (dI : Nat → Nat → Nat) (sz : Nat) (g0 : Nat) (pq : Nat → Nat) (cp : Nat → ClassId) (v : Nat → Int32) (fa : Nat → Nat → Int32) (gV : mV v) (gA : mA fa) (x1 : Int32) (hMk : mkB fa) : Met l yX11_group wsX11_group ({ frames := 2, cells := 0, slots := 0, locals := 49 }) (va_Pc [.ref g0, .int x1] (pcW (dC, dI) (mT cp) (mW g0 pq cp v fa) sz)) (va_Qi (fun (r : Int32) (u : (Nat → Int32) × (Nat → Nat → Int32)) => mV u.1 ∧ mA u.2 ∧ mX [0, 45, 47, 48, 49, 50, 51, 52, 53, 54, 55, 56, 57, 58, 59, 60] v fa u.1 u.2 ∧ (grA v fa x1.toInt r.toInt ∧ rHr v fa u r (¬ (0 ≤ x1.toInt ∧ x1.toInt < (v 39).toInt)))) (fun u t => va_P (dC, dI) vwCl (mW g0 pq cp u.1 u.2) t.heap ∧ va_K (dC, dI) vwCl (mT cp) t ∧ va_D (va_A (mW g0 pq cp v fa) sz) (mW g0 pq cp u.1 u.2)) (va_A (mW g0 pq cp v fa) sz)) 0 0 (va_A (mW g0 pq cp v fa) sz) := by
  refine Met.ofW (cc := cX11_group) (maxL := 2) (ret := (some .int)) (by decide) rfl ?_
  intro p e s m args below meth c s₁ B hml hv
  obtain ⟨rfl, hsz, hP, hK, hD0⟩ := hv
  have hx := B.exec
  have hb := B.bytes
  have hr := B.returns
  have hts := atoms_spec (ws := wsX11_group) B.pre
  have hown : s.vm.findClass RX11 = some m.cls := findClass_of_methodNamed B.named
  have hlocks := B.notSynchronized
  subst hsz
  have hD := hD0.self (sz := s.heap.size)
  generalize hAe : va_A (mW g0 pq cp v fa) s.heap.size = A at hD ⊢
  have hA : ∀ q : Nat, s.heap.size ≤ q → A q := fun q h => by rw [← hAe]; exact Or.inr h
  have hS : va_S A s.heap s.heap [] := va_S.rf
  have hP : va_P (dC, dI) vwCl (mW g0 pq cp v fa) s.heap := hP
  have hl := lv_entry ([.ref g0, .int x1]) (n := 2) (Nat.le_of_ble_eq_true rfl)
  rw [lg_entry_eq]
  generalize (lg_sl ([.ref g0, .int x1]) ++ List.replicate (2 - (lg_sl ([.ref g0, .int x1])).length) Slot.unset).toArray = ls at hl ⊢
  have hl : lv_has ls 2 [(0, .ref g0), (1, .int x1)] := hl
  have iv_1 : 0 ≤ (v 39).toInt ∧ (v 39).toInt ≤ 40 := gV 39
  refine lv_aload_n hx hb dX11_group_0 rfl (lv_at hl 0 rfl) ?_
  refine lv_iload_n hx hb dX11_group_1 rfl (lv_at hl 1 rfl) ?_
  have hFc : ∀ q, va_A [] s.heap.size q → A q := pu_free hS hA
  refine va_calli (va_runV (As := [.int x1]) (rest := []) ⟨hx, hb, hml, hown, hts⟩ (c_X11_isMan l dC dI s.heap.size g0 pq cp v fa x1) (cwV 1 hts gX11_group_X11_isMan rfl rfl rfl (by decide +kernel) ⟨(Nat.le_of_ble_eq_true rfl), (Nat.le_of_ble_eq_true rfl)⟩) (pr_V (r := (RX11, TX11, 63)) hP hK hD 0 11 rfl rfl) rfl rfl hl.1 rfl (lv_room (Nat.le_of_ble_eq_true rfl)) dX11_group_2 ⟨(Nat.le_of_ble_eq_true rfl), (Nat.le_of_ble_eq_true rfl)⟩) hS (fun q _ h => hFc q h) hFc (fun r_3 u t H locs ht hvm w_2 hB hz1 hk1 hS => ?_)
  have hP := pu_keep hP hk1
  clear hk1 hz1 hvm hB ht hFc
  have hbr_3 : 0 ≤ r_3.toInt ∧ r_3.toInt ≤ 1 := iv_of w_2 (isI_i _ _)
  refine lv_if_ne (tgt := 14) hx hb dX11_group_5 (by decide) (fun c_4 => ?_) (fun c_4 => ?_)
  · have dc_4 := c_ne (a := r_3.toInt) (b := 0) rfl (by decide) c_4
    have hi_5 := isI_t w_2 (fun q => c_4 (Int32.toInt_inj.mp q))
    have khi_5 : (v 39).toInt ≤ 40 := (gV 39).2
    refine lv_aload_n hx hb dX11_group_14 rfl (lv_at hl 0 rfl) ?_
    have hFc := va_free (wc := (mW g0 pq cp v fa)) hD hS hA (List.range 48) rfl
    refine va_callv (va_runV (As := []) (rest := []) ⟨hx, hb, hml, hown, hts⟩ (c_X11_findGroups_f l dC dI H.size g0 pq cp v fa gV gA hMk) (cwV 0 hts gX11_group_X11_findGroups rfl rfl rfl (by decide +kernel) ⟨(Nat.le_of_ble_eq_true rfl), (Nat.le_of_ble_eq_true rfl)⟩) (pr_V (r := (RX11, TX11, 63)) hP hK hD 0 11 rfl rfl) rfl rfl hl.1 rfl (lv_room (Nat.le_of_ble_eq_true rfl)) dX11_group_15 ⟨(Nat.le_of_ble_eq_true rfl), (Nat.le_of_ble_eq_true rfl)⟩) hS (fun q _ h => hFc q h) hFc (fun u t H locs ht hvm w_6 hB hz1 hk1 hS => ?_)
    obtain ⟨v_8, fa_9⟩ := u
    obtain ⟨hP1, hK1, hD1⟩ := hB
    rw [ht] at hP1
    have hP : va_P (dC, dI) vwCl (mW g0 pq cp v_8 fa_9) H := hP1
    have hD : va_D A (mW g0 pq cp v_8 fa_9) := hD1.weaken (fun _ _ _ h => hFc _ h)
    clear hP1 hK1 hD1 hk1 hz1 hvm ht hFc
    obtain ⟨hV_10, hA_11, hR_12, hx_13⟩ := w_6
    dsimp only at hV_10 hA_11 hR_12 hx_13
    have g_14 : (v_8 39).toInt = (v 39).toInt := congrArg Int32.toInt (hR_12.1 39 rfl)
    have R_15 : mX [0, 45, 47, 48, 49, 50, 51, 52, 53, 54, 55, 56, 57, 58, 59, 60] v fa v_8 fa_9 := mX.st mX.rf (mX.scr hR_12) (by decide)
    have sc_16 := scr.tr scr.rf hR_12
    have q0_17 : fa_9 0 = fa 0 := (hR_12.2 0 rfl).trans rfl
    refine lv_aload_n hx hb dX11_group_18 rfl (lv_at hl 0 rfl) ?_
    refine va_get (D := (dC, dI)) (ci := 11) (v := .ref (pq 52)) (C := RX11) (T := TX11) (N := 63) hx hb hts in_wsX11_group_X11 hown hK hP 0 rfl rfl 52 (by decide) (hts (.fieldLink RX11 131 "ShipOfficeModel" "groups" "[I") iw_X11_group_1) (fun _ h9 => h9) rfl dX11_group_19 ?_
    refine lv_iload_n hx hb dX11_group_22 rfl (lv_at hl 1 rfl) ?_
    refine va_iald hx hb hK hP 41 40 rfl rfl (vp_in_iff.mpr (by omega)) dX11_group_23 ?_
    refine lv_topi (fun x_18 ex_18 => ?_)
    have hx_18 : 0 ≤ x_18.toInt ∧ x_18.toInt ≤ 39 := iv_of ex_18 (hA_11 52 _)
    have gx_18 : x_18.toInt = (fa_9 52 (x1 : Int32).toNatClampNeg).toInt := iv_to ex_18
    clear ex_18
    exact W.iret (v := x_18) hx hb hr (fun t ht hW => ⟨⟨x_18, (v_8, fa_9), rfl, ⟨hV_10, hA_11, R_15, ⟨Or.inr ⟨by omega, gpF fa_9, hx_13, show x_18.toInt = (fa_9 52 x1.toNatClampNeg).toInt by omega⟩, Or.inr ⟨by omega, (by first | exact q0_17 | (dsimp only; exact q0_17))⟩⟩⟩, ⟨by rw [ht]; exact hP, va_K.moved hW.alike hK, hD⟩⟩, hS.F ht⟩) hS.2.2 dX11_group_24
  · have dc_4 := c_eq (a := r_3.toInt) (b := 0) rfl (by decide) c_4
    have hz_19 := isI_0 (w_2.symm.trans c_4)
    refine lv_aload_n hx hb dX11_group_8 rfl (lv_at hl 0 rfl) ?_
    refine lv_iconst (v := (-1)) hx hb dX11_group_9 (by decide) ?_
    have hFc := va_free (wc := (mW g0 pq cp v fa)) hD hS hA (List.range 48) rfl
    refine va_calli (va_runV (As := [.int (-1)]) (rest := []) ⟨hx, hb, hml, hown, hts⟩ (c_X11_refuse_f l dC dI H.size g0 pq cp v fa (-1) (by unfold vp_in; decide)) (cwV 1 hts gX11_group_X11_refuse rfl rfl rfl (by decide +kernel) ⟨(Nat.le_of_ble_eq_true rfl), (Nat.le_of_ble_eq_true rfl)⟩) (pr_V (r := (RX11, TX11, 63)) hP hK hD 0 11 rfl rfl) rfl rfl hl.1 rfl (lv_room (Nat.le_of_ble_eq_true rfl)) dX11_group_10 ⟨(Nat.le_of_ble_eq_true rfl), (Nat.le_of_ble_eq_true rfl)⟩) hS (fun q _ h => hFc q h) hFc (fun r_21 u t H locs ht hvm w_20 hB hz1 hk1 hS => ?_)
    obtain ⟨v_22, fa_23⟩ := u
    obtain ⟨hP1, hK1, hD1⟩ := hB
    rw [ht] at hP1
    have hP : va_P (dC, dI) vwCl (mW g0 pq cp v_22 fa_23) H := hP1
    have hD : va_D A (mW g0 pq cp v_22 fa_23) := hD1.weaken (fun _ _ _ h => hFc _ h)
    clear hP1 hK1 hD1 hk1 hz1 hvm ht hFc
    obtain ⟨rfl, hs1_24⟩ := w_20
    have hVv_22 : mV v_22 := sm0_V (sm1_0 hs1_24) gV
    have hAv_22 : mA fa_23 := sm0_A (sm1_0 hs1_24) gA
    have g_25 : (v_22 39).toInt = (v 39).toInt := congrArg Int32.toInt (congrFun hs1_24.1 39)
    have hRv_22 : mX [0, 45, 47, 48, 49, 50, 51, 52, 53, 54, 55, 56, 57, 58, 59, 60] v fa v_22 fa_23 := mX.st mX.rf (mX.s0 (sm1_0 hs1_24)) (by decide)
    exact W.iret (v := (-1)) hx hb hr (fun t ht hW => ⟨⟨(-1), (v_22, fa_23), rfl, ⟨hVv_22, hAv_22, hRv_22, ⟨Or.inl ⟨by omega, by decide⟩, Or.inl ⟨by omega, sm2_1 hs1_24⟩⟩⟩, ⟨by rw [ht]; exact hP, va_K.moved hW.alike hK, hD⟩⟩, hS.F ht⟩) hS.2.2 dX11_group_13
set_option maxHeartbeats 4000000 in
set_option maxRecDepth 100000 in
theorem c_X11_endOf_f (l : Launch) (dC : Nat → ClassId) (dI : Nat → Nat → Nat) (sz : Nat) (g0 : Nat) (pq : Nat → Nat) (cp : Nat → ClassId) (v : Nat → Int32) (fa : Nat → Nat → Int32) (gV : mV v) (gA : mA fa) (x1 : Int32) (hx1 : 0 ≤ x1.toInt ∧ x1.toInt ≤ 59) : Met l yX11_endOf wsX11_endOf ({ frames := 0, cells := 0, slots := 0, locals := 0 }) (va_Pc [.ref g0, .int x1] (pcW (dC, dI) (mT cp) (mW g0 pq cp v fa) sz)) (va_Qi (fun (r : Int32) (u : Unit) => (r.toInt = enD v fa x1.toNatClampNeg)) (fun _ _ => True) (va_A [] sz)) 0 0 (va_A [] sz) := by
  refine Met.ofW (cc := cX11_endOf) (maxL := 2) (ret := (some .int)) (by decide) rfl ?_
  intro p e s m args below meth c s₁ B hml hv
  obtain ⟨rfl, hsz, hP, hK, hD0⟩ := hv
  have hx := B.exec
  have hb := B.bytes
  have hr := B.returns
  have hts := atoms_spec (ws := wsX11_endOf) B.pre
  have hown : s.vm.findClass RX11 = some m.cls := findClass_of_methodNamed B.named
  have hlocks := B.notSynchronized
  subst hsz
  have hD := hD0
  generalize hAe : va_A [] s.heap.size = A at ⊢
  have hA : ∀ q : Nat, s.heap.size ≤ q → A q := fun q h => by rw [← hAe]; exact Or.inr h
  have hS : va_S A s.heap s.heap [] := va_S.rf
  have hP : va_P (dC, dI) vwCl (mW g0 pq cp v fa) s.heap := hP
  have hl := lv_entry ([.ref g0, .int x1]) (n := 2) (Nat.le_of_ble_eq_true rfl)
  rw [lg_entry_eq]
  generalize (lg_sl ([.ref g0, .int x1]) ++ List.replicate (2 - (lg_sl ([.ref g0, .int x1])).length) Slot.unset).toArray = ls at hl ⊢
  have hl : lv_has ls 2 [(0, .ref g0), (1, .int x1)] := hl
  have iv_1 : 0 ≤ (v 38).toInt ∧ (v 38).toInt ≤ 3000 := gV 38
  refine lv_aload_n hx hb dX11_endOf_0 rfl (lv_at hl 0 rfl) ?_
  refine va_get (D := (dC, dI)) (ci := 11) (v := .ref (pq 26)) (C := RX11) (T := TX11) (N := 63) hx hb hts in_wsX11_endOf_X11 hown hK hP 0 rfl rfl 26 (by decide) (hts (.fieldLink RX11 88 "ShipOfficeModel" "offOn" "[I") iw_X11_endOf_1) (fun _ h9 => h9) rfl dX11_endOf_1 ?_
  refine lv_iload_n hx hb dX11_endOf_4 rfl (lv_at hl 1 rfl) ?_
  refine va_iald hx hb hK hP 27 26 rfl rfl (vp_in_iff.mpr (by omega)) dX11_endOf_5 ?_
  refine lv_topi (fun x_2 ex_2 => ?_)
  have gx_2 : x_2.toInt = (fa 26 (x1 : Int32).toNatClampNeg).toInt := iv_to ex_2
  clear ex_2
  refine lv_if_ge (tgt := 16) hx hb dX11_endOf_6 (by decide) (fun c_3 => ?_) (fun c_3 => ?_)
  · have dc_3 := c_le (a := 0) (b := x_2.toInt) (by decide) rfl c_3
    refine lv_aload_n hx hb dX11_endOf_16 rfl (lv_at hl 0 rfl) ?_
    refine va_get (D := (dC, dI)) (ci := 11) (v := .ref (pq 26)) (C := RX11) (T := TX11) (N := 63) hx hb hts in_wsX11_endOf_X11 hown hK hP 0 rfl rfl 26 (by decide) (hts (.fieldLink RX11 88 "ShipOfficeModel" "offOn" "[I") iw_X11_endOf_1) (fun _ h9 => h9) rfl dX11_endOf_17 ?_
    refine lv_iload_n hx hb dX11_endOf_20 rfl (lv_at hl 1 rfl) ?_
    refine va_iald hx hb hK hP 27 26 rfl rfl (vp_in_iff.mpr (by omega)) dX11_endOf_21 ?_
    refine lv_topi (fun x_4 ex_4 => ?_)
    have gx_4 : x_4.toInt = (fa 26 (x1 : Int32).toNatClampNeg).toInt := iv_to ex_4
    clear ex_4
    exact W.iret (v := x_4) hx hb hr (fun t ht hW => ⟨⟨x_4, (), rfl, (by unfold enD; repeat (first | rw [if_pos (by omega)] | rw [if_neg (by omega)]); omega), trivial⟩, hS.F ht⟩) hS.2.2 dX11_endOf_22
  · have dc_3 := c_nle (a := 0) (b := x_2.toInt) (by decide) rfl c_3
    refine lv_aload_n hx hb dX11_endOf_9 rfl (lv_at hl 0 rfl) ?_
    refine va_get (D := (dC, dI)) (ci := 11) (v := .int (v 38)) (C := RX11) (T := TX11) (N := 63) hx hb hts in_wsX11_endOf_X11 hown hK hP 0 rfl rfl 38 (by decide) (hts (.fieldLink RX11 171 "ShipOfficeModel" "now" "I") iw_X11_endOf_2) (fun _ h9 => h9) rfl dX11_endOf_10 ?_
    refine lv_topi (fun x_5 ex_5 => ?_)
    have hx_5 : 0 ≤ x_5.toInt ∧ x_5.toInt ≤ 3000 := iv_of ex_5 (gV 38)
    have gx_5 : x_5.toInt = (v 38).toInt := iv_to ex_5
    clear ex_5
    refine lv_goto (tgt := 22) hx hb dX11_endOf_13 (by decide) ?_
    exact W.iret (v := x_5) hx hb hr (fun t ht hW => ⟨⟨x_5, (), rfl, (by unfold enD; repeat (first | rw [if_pos (by omega)] | rw [if_neg (by omega)]); omega), trivial⟩, hS.F ht⟩) hS.2.2 dX11_endOf_22
set_option maxHeartbeats 4000000 in
set_option maxRecDepth 100000 in
theorem c_X11_borrowed_f (l : Launch) (dC : Nat → ClassId) (dI : Nat → Nat → Nat) (sz : Nat) (g0 : Nat) (pq : Nat → Nat) (cp : Nat → ClassId) (v : Nat → Int32) (fa : Nat → Nat → Int32) (gV : mV v) (gA : mA fa) (x1 : Int32) (hMk : mkB fa) : Met l yX11_borrowed wsX11_borrowed ({ frames := 2, cells := 0, slots := 0, locals := 49 }) (va_Pc [.ref g0, .int x1] (pcW (dC, dI) (mT cp) (mW g0 pq cp v fa) sz)) (va_Qi (fun (r : Int32) (u : (Nat → Int32) × (Nat → Nat → Int32)) => mV u.1 ∧ mA u.2 ∧ mX [0, 45, 47, 48, 49, 50, 51, 52, 53, 54, 55, 56, 57, 58, 59, 60] v fa u.1 u.2 ∧ (boA v fa x1.toInt r.toInt ∧ rHr v fa u r (¬ (0 ≤ x1.toInt ∧ x1.toInt < (v 43).toInt)))) (fun u t => va_P (dC, dI) vwCl (mW g0 pq cp u.1 u.2) t.heap ∧ va_K (dC, dI) vwCl (mT cp) t ∧ va_D (va_A (mW g0 pq cp v fa) sz) (mW g0 pq cp u.1 u.2)) (va_A (mW g0 pq cp v fa) sz)) 0 0 (va_A (mW g0 pq cp v fa) sz) := by
  refine Met.ofW (cc := cX11_borrowed) (maxL := 3) (ret := (some .int)) (by decide) rfl ?_
  intro p e s m args below meth c s₁ B hml hv
  obtain ⟨rfl, hsz, hP, hK, hD0⟩ := hv
  have hx := B.exec
  have hb := B.bytes
  have hr := B.returns
  have hts := atoms_spec (ws := wsX11_borrowed) B.pre
  have hown : s.vm.findClass RX11 = some m.cls := findClass_of_methodNamed B.named
  have hlocks := B.notSynchronized
  subst hsz
  have hD := hD0.self (sz := s.heap.size)
  generalize hAe : va_A (mW g0 pq cp v fa) s.heap.size = A at hD ⊢
  have hA : ∀ q : Nat, s.heap.size ≤ q → A q := fun q h => by rw [← hAe]; exact Or.inr h
  have hS : va_S A s.heap s.heap [] := va_S.rf
  have hP : va_P (dC, dI) vwCl (mW g0 pq cp v fa) s.heap := hP
  have hl := lv_entry ([.ref g0, .int x1]) (n := 3) (Nat.le_of_ble_eq_true rfl)
  rw [lg_entry_eq]
  generalize (lg_sl ([.ref g0, .int x1]) ++ List.replicate (3 - (lg_sl ([.ref g0, .int x1])).length) Slot.unset).toArray = ls at hl ⊢
  have hl : lv_has ls 3 [(0, .ref g0), (1, .int x1)] := hl
  have iv_1 : 0 ≤ (v 38).toInt ∧ (v 38).toInt ≤ 3000 := gV 38
  have iv_2 : 0 ≤ (v 43).toInt ∧ (v 43).toInt ≤ 60 := gV 43
  refine lv_aload_n hx hb dX11_borrowed_0 rfl (lv_at hl 0 rfl) ?_
  refine lv_iload_n hx hb dX11_borrowed_1 rfl (lv_at hl 1 rfl) ?_
  have hFc : ∀ q, va_A [] s.heap.size q → A q := pu_free hS hA
  refine va_calli (va_runV (As := [.int x1]) (rest := []) ⟨hx, hb, hml, hown, hts⟩ (c_X11_isAgreement l dC dI s.heap.size g0 pq cp v fa x1) (cwV 1 hts gX11_borrowed_X11_isAgreement rfl rfl rfl (by decide +kernel) ⟨(Nat.le_of_ble_eq_true rfl), (Nat.le_of_ble_eq_true rfl)⟩) (pr_V (r := (RX11, TX11, 63)) hP hK hD 0 11 rfl rfl) rfl rfl hl.1 rfl (lv_room (Nat.le_of_ble_eq_true rfl)) dX11_borrowed_2 ⟨(Nat.le_of_ble_eq_true rfl), (Nat.le_of_ble_eq_true rfl)⟩) hS (fun q _ h => hFc q h) hFc (fun r_4 u t H locs ht hvm w_3 hB hz1 hk1 hS => ?_)
  have hP := pu_keep hP hk1
  clear hk1 hz1 hvm hB ht hFc
  have hbr_4 : 0 ≤ r_4.toInt ∧ r_4.toInt ≤ 1 := iv_of w_3 (isI_i _ _)
  refine lv_if_ne (tgt := 14) hx hb dX11_borrowed_5 (by decide) (fun c_5 => ?_) (fun c_5 => ?_)
  · have dc_5 := c_ne (a := r_4.toInt) (b := 0) rfl (by decide) c_5
    have hi_6 := isI_t w_3 (fun q => c_5 (Int32.toInt_inj.mp q))
    have khi_6 : (v 43).toInt ≤ 60 := (gV 43).2
    refine lv_aload_n hx hb dX11_borrowed_14 rfl (lv_at hl 0 rfl) ?_
    refine va_get (D := (dC, dI)) (ci := 11) (v := .ref (pq 24)) (C := RX11) (T := TX11) (N := 63) hx hb hts in_wsX11_borrowed_X11 hown hK hP 0 rfl rfl 24 (by decide) (hts (.fieldLink RX11 82 "ShipOfficeModel" "paper" "[I") iw_X11_borrowed_1) (fun _ h9 => h9) rfl dX11_borrowed_15 ?_
    refine lv_iload_n hx hb dX11_borrowed_18 rfl (lv_at hl 1 rfl) ?_
    refine va_iald hx hb hK hP 25 24 rfl rfl (vp_in_iff.mpr (by omega)) dX11_borrowed_19 ?_
    refine lv_topi (fun x_7 ex_7 => ?_)
    have hx_7 : -1 ≤ x_7.toInt ∧ x_7.toInt ≤ 59 := iv_of ex_7 (gA 24 _)
    have gx_7 : x_7.toInt = (fa 24 (x1 : Int32).toNatClampNeg).toInt := iv_to ex_7
    clear ex_7
    refine lv_if_ge (tgt := 25) hx hb dX11_borrowed_20 (by decide) (fun c_8 => ?_) (fun c_8 => ?_)
    · have dc_8 := c_le (a := 0) (b := x_7.toInt) (by decide) rfl c_8
      refine lv_aload_n hx hb dX11_borrowed_25 rfl (lv_at hl 0 rfl) ?_
      have hFc := va_free (wc := (mW g0 pq cp v fa)) hD hS hA (List.range 48) rfl
      refine va_callv (va_runV (As := []) (rest := []) ⟨hx, hb, hml, hown, hts⟩ (c_X11_findGroups_f l dC dI H.size g0 pq cp v fa gV gA hMk) (cwV 0 hts gX11_borrowed_X11_findGroups rfl rfl rfl (by decide +kernel) ⟨(Nat.le_of_ble_eq_true rfl), (Nat.le_of_ble_eq_true rfl)⟩) (pr_V (r := (RX11, TX11, 63)) hP hK hD 0 11 rfl rfl) rfl rfl hl.1 rfl (lv_room (Nat.le_of_ble_eq_true rfl)) dX11_borrowed_26 ⟨(Nat.le_of_ble_eq_true rfl), (Nat.le_of_ble_eq_true rfl)⟩) hS (fun q _ h => hFc q h) hFc (fun u t H locs ht hvm w_9 hB hz1 hk1 hS => ?_)
      obtain ⟨v_11, fa_12⟩ := u
      obtain ⟨hP1, hK1, hD1⟩ := hB
      rw [ht] at hP1
      have hP : va_P (dC, dI) vwCl (mW g0 pq cp v_11 fa_12) H := hP1
      have hD : va_D A (mW g0 pq cp v_11 fa_12) := hD1.weaken (fun _ _ _ h => hFc _ h)
      clear hP1 hK1 hD1 hk1 hz1 hvm ht hFc
      obtain ⟨hV_13, hA_14, hR_15, hx_16⟩ := w_9
      dsimp only at hV_13 hA_14 hR_15 hx_16
      have g_17 : (v_11 38).toInt = (v 38).toInt := congrArg Int32.toInt (hR_15.1 38 rfl)
      have g_18 : (v_11 43).toInt = (v 43).toInt := congrArg Int32.toInt (hR_15.1 43 rfl)
      have g_19 : (fa_12 24 (x1 : Int32).toNatClampNeg).toInt = (fa 24 (x1 : Int32).toNatClampNeg).toInt := congrArg (fun h : Nat → Int32 => Int32.toInt (h (x1 : Int32).toNatClampNeg)) (hR_15.2 24 rfl)
      have R_20 : mX [0, 45, 47, 48, 49, 50, 51, 52, 53, 54, 55, 56, 57, 58, 59, 60] v fa v_11 fa_12 := mX.st mX.rf (mX.scr hR_15) (by decide)
      have sc_21 := scr.tr scr.rf hR_15
      have q0_22 : fa_12 0 = fa 0 := (hR_15.2 0 rfl).trans rfl
      refine lv_aload_n hx hb dX11_borrowed_29 rfl (lv_at hl 0 rfl) ?_
      refine va_get (D := (dC, dI)) (ci := 11) (v := .ref (pq 52)) (C := RX11) (T := TX11) (N := 63) hx hb hts in_wsX11_borrowed_X11 hown hK hP 0 rfl rfl 52 (by decide) (hts (.fieldLink RX11 131 "ShipOfficeModel" "groups" "[I") iw_X11_borrowed_2) (fun _ h9 => h9) rfl dX11_borrowed_30 ?_
      refine lv_aload_n hx hb dX11_borrowed_33 rfl (lv_at hl 0 rfl) ?_
      refine va_get (D := (dC, dI)) (ci := 11) (v := .ref (pq 20)) (C := RX11) (T := TX11) (N := 63) hx hb hts in_wsX11_borrowed_X11 hown hK hP 0 rfl rfl 20 (by decide) (hts (.fieldLink RX11 70 "ShipOfficeModel" "man" "[I") iw_X11_borrowed_3) (fun _ h9 => h9) rfl dX11_borrowed_34 ?_
      refine lv_aload_n hx hb dX11_borrowed_37 rfl (lv_at hl 0 rfl) ?_
      refine va_get (D := (dC, dI)) (ci := 11) (v := .ref (pq 24)) (C := RX11) (T := TX11) (N := 63) hx hb hts in_wsX11_borrowed_X11 hown hK hP 0 rfl rfl 24 (by decide) (hts (.fieldLink RX11 82 "ShipOfficeModel" "paper" "[I") iw_X11_borrowed_1) (fun _ h9 => h9) rfl dX11_borrowed_38 ?_
      refine lv_iload_n hx hb dX11_borrowed_41 rfl (lv_at hl 1 rfl) ?_
      refine va_iald hx hb hK hP 25 24 rfl rfl (vp_in_iff.mpr (by omega)) dX11_borrowed_42 ?_
      refine lv_topi (fun x_23 ex_23 => ?_)
      have hx_23 : -1 ≤ x_23.toInt ∧ x_23.toInt ≤ 59 := iv_of ex_23 (hA_14 24 _)
      have gx_23 : x_23.toInt = (fa_12 24 (x1 : Int32).toNatClampNeg).toInt := iv_to ex_23
      clear ex_23
      rw [show fa_12 24 = fa 24 from sc_21.2 24 rfl] at gx_23
      refine va_iald hx hb hK hP 21 20 rfl rfl (vp_in_iff.mpr (by omega)) dX11_borrowed_43 ?_
      refine lv_topi (fun x_24 ex_24 => ?_)
      have hx_24 : 0 ≤ x_24.toInt ∧ x_24.toInt ≤ 39 := iv_of ex_24 (hA_14 20 _)
      have gx_24 : x_24.toInt = (fa_12 20 (x_23 : Int32).toNatClampNeg).toInt := iv_to ex_24
      clear ex_24
      rw [show fa_12 20 = fa 20 from sc_21.2 20 rfl] at gx_24
      rw [cn_c gx_23] at gx_24
      refine va_iald hx hb hK hP 41 40 rfl rfl (vp_in_iff.mpr (by omega)) dX11_borrowed_44 ?_
      refine lv_topi (fun x_25 ex_25 => ?_)
      have hx_25 : 0 ≤ x_25.toInt ∧ x_25.toInt ≤ 39 := iv_of ex_25 (hA_14 52 _)
      have gx_25 : x_25.toInt = (fa_12 52 (x_24 : Int32).toNatClampNeg).toInt := iv_to ex_25
      clear ex_25
      rw [cn_c gx_24] at gx_25
      refine lv_aload_n hx hb dX11_borrowed_45 rfl (lv_at hl 0 rfl) ?_
      refine va_get (D := (dC, dI)) (ci := 11) (v := .ref (pq 52)) (C := RX11) (T := TX11) (N := 63) hx hb hts in_wsX11_borrowed_X11 hown hK hP 0 rfl rfl 52 (by decide) (hts (.fieldLink RX11 131 "ShipOfficeModel" "groups" "[I") iw_X11_borrowed_2) (fun _ h9 => h9) rfl dX11_borrowed_46 ?_
      refine lv_aload_n hx hb dX11_borrowed_49 rfl (lv_at hl 0 rfl) ?_
      refine va_get (D := (dC, dI)) (ci := 11) (v := .ref (pq 20)) (C := RX11) (T := TX11) (N := 63) hx hb hts in_wsX11_borrowed_X11 hown hK hP 0 rfl rfl 20 (by decide) (hts (.fieldLink RX11 70 "ShipOfficeModel" "man" "[I") iw_X11_borrowed_3) (fun _ h9 => h9) rfl dX11_borrowed_50 ?_
      refine lv_iload_n hx hb dX11_borrowed_53 rfl (lv_at hl 1 rfl) ?_
      refine va_iald hx hb hK hP 21 20 rfl rfl (vp_in_iff.mpr (by omega)) dX11_borrowed_54 ?_
      refine lv_topi (fun x_26 ex_26 => ?_)
      have hx_26 : 0 ≤ x_26.toInt ∧ x_26.toInt ≤ 39 := iv_of ex_26 (hA_14 20 _)
      have gx_26 : x_26.toInt = (fa_12 20 (x1 : Int32).toNatClampNeg).toInt := iv_to ex_26
      clear ex_26
      rw [show fa_12 20 = fa 20 from sc_21.2 20 rfl] at gx_26
      refine va_iald hx hb hK hP 41 40 rfl rfl (vp_in_iff.mpr (by omega)) dX11_borrowed_55 ?_
      refine lv_topi (fun x_27 ex_27 => ?_)
      have hx_27 : 0 ≤ x_27.toInt ∧ x_27.toInt ≤ 39 := iv_of ex_27 (hA_14 52 _)
      have gx_27 : x_27.toInt = (fa_12 52 (x_26 : Int32).toNatClampNeg).toInt := iv_to ex_27
      clear ex_27
      rw [cn_c gx_26] at gx_27
      refine lv_icmp_eq (tgt := 61) hx hb dX11_borrowed_56 (by decide) (fun c_28 => ?_) (fun c_28 => ?_)
      · have dc_28 := c_eq (a := x_25.toInt) (b := x_27.toInt) rfl rfl c_28
        refine lv_iconst (v := 0) hx hb dX11_borrowed_61 (by decide) ?_
        refine lv_istore_n (lv' := [(2, .int 0), (0, .ref g0), (1, .int x1)]) hx hb dX11_borrowed_62 rfl hl (by decide) rfl (fun ls hl => ?_)
        have cut_29 : ∀ (n : Nat) (y_30 : Int32) (z_31 : Nat → Int32) (fz_32 : Nat → Nat → Int32) (H : Heap) (locs : List Loc) (ls : Array Slot), 60 - y_30.toInt ≤ (n : Int) → (0 ≤ y_30.toInt ∧ y_30.toInt ≤ 60) → (∀ o, o < y_30.toNatClampNeg → ¬ twP v fa x1.toNatClampNeg o) → scr v fa z_31 fz_32 → y_30.toInt ≤ (v 43).toInt → mV z_31 → mA fz_32 → mX [0, 45, 47, 48, 49, 50, 51, 52, 53, 54, 55, 56, 57, 58, 59, 60] v fa z_31 fz_32 → va_P (dC, dI) vwCl (mW g0 pq cp z_31 fz_32) H → va_D A (mW g0 pq cp z_31 fz_32) → va_S A s.heap H locs → (z_31 38).toInt = (v_11 38).toInt → (z_31 43).toInt = (v_11 43).toInt → lv_has ls 3 [(2, .int y_30), (0, .ref g0), (1, .int x1)] → W p l e (headSpec wsX11_borrowed { frames := 2, cells := 0, slots := 0, locals := 49 }).room s m #[Value.ref g0, Value.int x1] below meth c H locs 0 0 (MQ below (va_Qi (fun (r : Int32) (u : (Nat → Int32) × (Nat → Nat → Int32)) => mV u.1 ∧ mA u.2 ∧ mX [0, 45, 47, 48, 49, 50, 51, 52, 53, 54, 55, 56, 57, 58, 59, 60] v fa u.1 u.2 ∧ (boA v fa x1.toInt r.toInt ∧ rHr v fa u r (¬ (0 ≤ x1.toInt ∧ x1.toInt < (v 43).toInt)))) (fun u t => va_P (dC, dI) vwCl (mW g0 pq cp u.1 u.2) t.heap ∧ va_K (dC, dI) vwCl (mT cp) t ∧ va_D A (mW g0 pq cp u.1 u.2)) A) #[Value.ref g0, Value.int x1] s 0 0 A) (F0 m 63 ls []) := by
          intro n
          induction n using Nat.strongRecOn with
          | ind n ih =>
            intro y_30 z_31 fz_32 H locs ls hm hy_30 hq0_cut_29 hq1_cut_29 hq2_cut_29 hVz_31 hAz_31 hRz_31 hP hD hS g_33 g_34 hl
            refine lv_iload_n hx hb dX11_borrowed_63 rfl (lv_at hl 0 rfl) ?_
            refine lv_aload_n hx hb dX11_borrowed_64 rfl (lv_at hl 1 rfl) ?_
            refine va_get (D := (dC, dI)) (ci := 11) (v := .int (z_31 43)) (C := RX11) (T := TX11) (N := 63) hx hb hts in_wsX11_borrowed_X11 hown hK hP 0 rfl rfl 43 (by decide) (hts (.fieldLink RX11 168 "ShipOfficeModel" "agreements" "I") iw_X11_borrowed_4) (fun _ h9 => h9) rfl dX11_borrowed_65 ?_
            refine lv_topi (fun x_35 ex_35 => ?_)
            have hx_35 : 0 ≤ x_35.toInt ∧ x_35.toInt ≤ 60 := iv_of ex_35 (hVz_31 43)
            have gx_35 : x_35.toInt = (z_31 43).toInt := iv_to ex_35
            clear ex_35
            rw [show z_31 43 = v 43 from hq1_cut_29.1 43 rfl] at gx_35
            refine lv_icmp_ge (tgt := 127) hx hb dX11_borrowed_68 (by decide) (fun c_36 => ?_) (fun c_36 => ?_)
            · have dc_36 := c_le (a := x_35.toInt) (b := y_30.toInt) rfl rfl c_36
              refine lv_iconst (v := 0) hx hb dX11_borrowed_127 (by decide) ?_
              exact W.iret (v := 0) hx hb hr (fun t ht hW => ⟨⟨0, (z_31, fz_32), rfl, ⟨hVz_31, hAz_31, hRz_31, ⟨Or.inr ⟨by omega, Or.inr ⟨show 0 ≤ (fa 24 x1.toNatClampNeg).toInt by omega, gpF fa_12, hx_16, Or.inr ⟨fun q => q.elim (fun q => q (show (fa_12 52 (fa 20 (fa 24 x1.toNatClampNeg).toNatClampNeg).toNatClampNeg).toInt = (fa_12 52 (fa 20 x1.toNatClampNeg).toNatClampNeg).toInt by omega)) (fun ⟨j, hj, hp⟩ => al_e hq0_cut_29 (by omega) j hj hp), by decide⟩⟩⟩, Or.inr ⟨by omega, (by first | exact (hq1_cut_29.2 0 rfl) | (dsimp only; exact (hq1_cut_29.2 0 rfl)))⟩⟩⟩, ⟨by rw [ht]; exact hP, va_K.moved hW.alike hK, hD⟩⟩, hS.F ht⟩) hS.2.2 dX11_borrowed_128
            · have dc_36 := c_nle (a := x_35.toInt) (b := y_30.toInt) rfl rfl c_36
              refine lv_iload_n hx hb dX11_borrowed_71 rfl (lv_at hl 0 rfl) ?_
              refine lv_iload_n hx hb dX11_borrowed_72 rfl (lv_at hl 2 rfl) ?_
              refine lv_icmp_eq (tgt := 121) hx hb dX11_borrowed_73 (by decide) (fun c_37 => ?_) (fun c_37 => ?_)
              · have dc_37 := c_eq (a := y_30.toInt) (b := x1.toInt) rfl rfl c_37
                obtain ⟨x_38, ex_38⟩ : ∃ zq : Int32, y_30 + 1 = zq := ⟨_, rfl⟩
                have hx_38 : x_38.toInt = y_30.toInt + 1 := (iv_to ex_38).symm.trans (ad_i rfl (by decide) (by omega) (by omega))
                refine lv_iinc (v := x_38) (lv' := [(2, .int x_38), (0, .ref g0), (1, .int x1)]) hx hb dX11_borrowed_121 hl (k := 0) rfl ex_38 (by decide) rfl (fun ls hl => ?_)
                clear ex_38
                refine lv_goto (tgt := 63) hx hb dX11_borrowed_124 (by decide) ?_
                exact ih (n - 1) (by omega) x_38 z_31 fz_32 _ _ ls (by omega) (by omega) (al_s hq0_cut_29 (fun q => by unfold twP at q; have n1 : ((x1.toNatClampNeg : Nat) : Int) = x1.toInt := tn_i (by omega); have n2 : ((y_30.toNatClampNeg : Nat) : Int) = y_30.toInt := tn_i (by omega); omega) (by omega) (by omega)) hq1_cut_29 (by omega) hVz_31 hAz_31 hRz_31 hP hD hS (by omega) (by omega) (lv_sub hl [0, 1, 2] rfl)
              · have dc_37 := c_ne (a := y_30.toInt) (b := x1.toInt) rfl rfl c_37
                refine lv_aload_n hx hb dX11_borrowed_76 rfl (lv_at hl 1 rfl) ?_
                refine va_get (D := (dC, dI)) (ci := 11) (v := .ref (pq 24)) (C := RX11) (T := TX11) (N := 63) hx hb hts in_wsX11_borrowed_X11 hown hK hP 0 rfl rfl 24 (by decide) (hts (.fieldLink RX11 82 "ShipOfficeModel" "paper" "[I") iw_X11_borrowed_1) (fun _ h9 => h9) rfl dX11_borrowed_77 ?_
                refine lv_iload_n hx hb dX11_borrowed_80 rfl (lv_at hl 0 rfl) ?_
                refine va_iald hx hb hK hP 25 24 rfl rfl (vp_in_iff.mpr (by omega)) dX11_borrowed_81 ?_
                refine lv_topi (fun x_39 ex_39 => ?_)
                have hx_39 : -1 ≤ x_39.toInt ∧ x_39.toInt ≤ 59 := iv_of ex_39 (hAz_31 24 _)
                have gx_39 : x_39.toInt = (fz_32 24 (y_30 : Int32).toNatClampNeg).toInt := iv_to ex_39
                clear ex_39
                rw [show fz_32 24 = fa 24 from hq1_cut_29.2 24 rfl] at gx_39
                refine lv_aload_n hx hb dX11_borrowed_82 rfl (lv_at hl 1 rfl) ?_
                refine va_get (D := (dC, dI)) (ci := 11) (v := .ref (pq 24)) (C := RX11) (T := TX11) (N := 63) hx hb hts in_wsX11_borrowed_X11 hown hK hP 0 rfl rfl 24 (by decide) (hts (.fieldLink RX11 82 "ShipOfficeModel" "paper" "[I") iw_X11_borrowed_1) (fun _ h9 => h9) rfl dX11_borrowed_83 ?_
                refine lv_iload_n hx hb dX11_borrowed_86 rfl (lv_at hl 2 rfl) ?_
                refine va_iald hx hb hK hP 25 24 rfl rfl (vp_in_iff.mpr (by omega)) dX11_borrowed_87 ?_
                refine lv_topi (fun x_40 ex_40 => ?_)
                have hx_40 : -1 ≤ x_40.toInt ∧ x_40.toInt ≤ 59 := iv_of ex_40 (hAz_31 24 _)
                have gx_40 : x_40.toInt = (fz_32 24 (x1 : Int32).toNatClampNeg).toInt := iv_to ex_40
                clear ex_40
                rw [show fz_32 24 = fa 24 from hq1_cut_29.2 24 rfl] at gx_40
                refine lv_icmp_ne (tgt := 121) hx hb dX11_borrowed_88 (by decide) (fun c_41 => ?_) (fun c_41 => ?_)
                · have dc_41 := c_ne (a := x_39.toInt) (b := x_40.toInt) rfl rfl c_41
                  obtain ⟨x_42, ex_42⟩ : ∃ zq : Int32, y_30 + 1 = zq := ⟨_, rfl⟩
                  have hx_42 : x_42.toInt = y_30.toInt + 1 := (iv_to ex_42).symm.trans (ad_i rfl (by decide) (by omega) (by omega))
                  refine lv_iinc (v := x_42) (lv' := [(2, .int x_42), (0, .ref g0), (1, .int x1)]) hx hb dX11_borrowed_121 hl (k := 0) rfl ex_42 (by decide) rfl (fun ls hl => ?_)
                  clear ex_42
                  refine lv_goto (tgt := 63) hx hb dX11_borrowed_124 (by decide) ?_
                  exact ih (n - 1) (by omega) x_42 z_31 fz_32 _ _ ls (by omega) (by omega) (al_s hq0_cut_29 (fun q => by unfold twP at q; have n1 : ((x1.toNatClampNeg : Nat) : Int) = x1.toInt := tn_i (by omega); have n2 : ((y_30.toNatClampNeg : Nat) : Int) = y_30.toInt := tn_i (by omega); omega) (by omega) (by omega)) hq1_cut_29 (by omega) hVz_31 hAz_31 hRz_31 hP hD hS (by omega) (by omega) (lv_sub hl [0, 1, 2] rfl)
                · have dc_41 := c_eq (a := x_39.toInt) (b := x_40.toInt) rfl rfl c_41
                  refine lv_aload_n hx hb dX11_borrowed_91 rfl (lv_at hl 1 rfl) ?_
                  refine va_get (D := (dC, dI)) (ci := 11) (v := .ref (pq 25)) (C := RX11) (T := TX11) (N := 63) hx hb hts in_wsX11_borrowed_X11 hown hK hP 0 rfl rfl 25 (by decide) (hts (.fieldLink RX11 85 "ShipOfficeModel" "signed" "[I") iw_X11_borrowed_5) (fun _ h9 => h9) rfl dX11_borrowed_92 ?_
                  refine lv_iload_n hx hb dX11_borrowed_95 rfl (lv_at hl 0 rfl) ?_
                  refine va_iald hx hb hK hP 26 25 rfl rfl (vp_in_iff.mpr (by omega)) dX11_borrowed_96 ?_
                  refine lv_topi (fun x_43 ex_43 => ?_)
                  have hx_43 : 0 ≤ x_43.toInt ∧ x_43.toInt ≤ 3000 := iv_of ex_43 (hAz_31 25 _)
                  have gx_43 : x_43.toInt = (fz_32 25 (y_30 : Int32).toNatClampNeg).toInt := iv_to ex_43
                  clear ex_43
                  rw [show fz_32 25 = fa 25 from hq1_cut_29.2 25 rfl] at gx_43
                  refine lv_aload_n hx hb dX11_borrowed_97 rfl (lv_at hl 1 rfl) ?_
                  refine lv_iload_n hx hb dX11_borrowed_98 rfl (lv_at hl 2 rfl) ?_
                  have hFc : ∀ q, va_A [] H.size q → A q := pu_free hS hA
                  refine va_calli (va_runV (As := [.int x1]) (rest := [.int x_43]) ⟨hx, hb, hml, hown, hts⟩ (c_X11_endOf_f l dC dI H.size g0 pq cp z_31 fz_32 hVz_31 hAz_31 x1 (by omega)) (cwV 1 hts gX11_borrowed_X11_endOf rfl rfl rfl (by decide +kernel) ⟨(Nat.le_of_ble_eq_true rfl), (Nat.le_of_ble_eq_true rfl)⟩) (pr_V (r := (RX11, TX11, 63)) hP hK hD 0 11 rfl rfl) rfl rfl hl.1 rfl (lv_room (Nat.le_of_ble_eq_true rfl)) dX11_borrowed_99 ⟨(Nat.le_of_ble_eq_true rfl), (Nat.le_of_ble_eq_true rfl)⟩) hS (fun q _ h => hFc q h) hFc (fun r_45 u t H locs ht hvm w_44 hB hz1 hk1 hS => ?_)
                  have hP := pu_keep hP hk1
                  clear hk1 hz1 hvm hB ht hFc
                  rw [enD_s hq1_cut_29] at w_44
                  refine lv_icmp_gt (tgt := 121) hx hb dX11_borrowed_102 (by decide) (fun c_47 => ?_) (fun c_47 => ?_)
                  · have dc_47 := c_lt (a := r_45.toInt) (b := x_43.toInt) rfl rfl c_47
                    obtain ⟨x_48, ex_48⟩ : ∃ zq : Int32, y_30 + 1 = zq := ⟨_, rfl⟩
                    have hx_48 : x_48.toInt = y_30.toInt + 1 := (iv_to ex_48).symm.trans (ad_i rfl (by decide) (by omega) (by omega))
                    refine lv_iinc (v := x_48) (lv' := [(2, .int x_48), (0, .ref g0), (1, .int x1)]) hx hb dX11_borrowed_121 hl (k := 0) rfl ex_48 (by decide) rfl (fun ls hl => ?_)
                    clear ex_48
                    refine lv_goto (tgt := 63) hx hb dX11_borrowed_124 (by decide) ?_
                    exact ih (n - 1) (by omega) x_48 z_31 fz_32 _ _ ls (by omega) (by omega) (al_s hq0_cut_29 (fun q => by unfold twP at q; have n1 : ((x1.toNatClampNeg : Nat) : Int) = x1.toInt := tn_i (by omega); have n2 : ((y_30.toNatClampNeg : Nat) : Int) = y_30.toInt := tn_i (by omega); omega) (by omega) (by omega)) hq1_cut_29 (by omega) hVz_31 hAz_31 hRz_31 hP hD hS (by omega) (by omega) (lv_sub hl [0, 1, 2] rfl)
                  · have dc_47 := c_nlt (a := r_45.toInt) (b := x_43.toInt) rfl rfl c_47
                    refine lv_aload_n hx hb dX11_borrowed_105 rfl (lv_at hl 1 rfl) ?_
                    refine va_get (D := (dC, dI)) (ci := 11) (v := .ref (pq 25)) (C := RX11) (T := TX11) (N := 63) hx hb hts in_wsX11_borrowed_X11 hown hK hP 0 rfl rfl 25 (by decide) (hts (.fieldLink RX11 85 "ShipOfficeModel" "signed" "[I") iw_X11_borrowed_5) (fun _ h9 => h9) rfl dX11_borrowed_106 ?_
                    refine lv_iload_n hx hb dX11_borrowed_109 rfl (lv_at hl 2 rfl) ?_
                    refine va_iald hx hb hK hP 26 25 rfl rfl (vp_in_iff.mpr (by omega)) dX11_borrowed_110 ?_
                    refine lv_topi (fun x_49 ex_49 => ?_)
                    have hx_49 : 0 ≤ x_49.toInt ∧ x_49.toInt ≤ 3000 := iv_of ex_49 (hAz_31 25 _)
                    have gx_49 : x_49.toInt = (fz_32 25 (x1 : Int32).toNatClampNeg).toInt := iv_to ex_49
                    clear ex_49
                    rw [show fz_32 25 = fa 25 from hq1_cut_29.2 25 rfl] at gx_49
                    refine lv_aload_n hx hb dX11_borrowed_111 rfl (lv_at hl 1 rfl) ?_
                    refine lv_iload_n hx hb dX11_borrowed_112 rfl (lv_at hl 0 rfl) ?_
                    have hFc : ∀ q, va_A [] H.size q → A q := pu_free hS hA
                    refine va_calli (va_runV (As := [.int y_30]) (rest := [.int x_49]) ⟨hx, hb, hml, hown, hts⟩ (c_X11_endOf_f l dC dI H.size g0 pq cp z_31 fz_32 hVz_31 hAz_31 y_30 (by omega)) (cwV 1 hts gX11_borrowed_X11_endOf rfl rfl rfl (by decide +kernel) ⟨(Nat.le_of_ble_eq_true rfl), (Nat.le_of_ble_eq_true rfl)⟩) (pr_V (r := (RX11, TX11, 63)) hP hK hD 0 11 rfl rfl) rfl rfl hl.1 rfl (lv_room (Nat.le_of_ble_eq_true rfl)) dX11_borrowed_113 ⟨(Nat.le_of_ble_eq_true rfl), (Nat.le_of_ble_eq_true rfl)⟩) hS (fun q _ h => hFc q h) hFc (fun r_51 u t H locs ht hvm w_50 hB hz1 hk1 hS => ?_)
                    have hP := pu_keep hP hk1
                    clear hk1 hz1 hvm hB ht hFc
                    rw [enD_s hq1_cut_29] at w_50
                    refine lv_icmp_gt (tgt := 121) hx hb dX11_borrowed_116 (by decide) (fun c_53 => ?_) (fun c_53 => ?_)
                    · have dc_53 := c_lt (a := r_51.toInt) (b := x_49.toInt) rfl rfl c_53
                      obtain ⟨x_54, ex_54⟩ : ∃ zq : Int32, y_30 + 1 = zq := ⟨_, rfl⟩
                      have hx_54 : x_54.toInt = y_30.toInt + 1 := (iv_to ex_54).symm.trans (ad_i rfl (by decide) (by omega) (by omega))
                      refine lv_iinc (v := x_54) (lv' := [(2, .int x_54), (0, .ref g0), (1, .int x1)]) hx hb dX11_borrowed_121 hl (k := 0) rfl ex_54 (by decide) rfl (fun ls hl => ?_)
                      clear ex_54
                      refine lv_goto (tgt := 63) hx hb dX11_borrowed_124 (by decide) ?_
                      exact ih (n - 1) (by omega) x_54 z_31 fz_32 _ _ ls (by omega) (by omega) (al_s hq0_cut_29 (fun q => by unfold twP at q; have n1 : ((x1.toNatClampNeg : Nat) : Int) = x1.toInt := tn_i (by omega); have n2 : ((y_30.toNatClampNeg : Nat) : Int) = y_30.toInt := tn_i (by omega); omega) (by omega) (by omega)) hq1_cut_29 (by omega) hVz_31 hAz_31 hRz_31 hP hD hS (by omega) (by omega) (lv_sub hl [0, 1, 2] rfl)
                    · have dc_53 := c_nlt (a := r_51.toInt) (b := x_49.toInt) rfl rfl c_53
                      refine lv_iconst (v := 1) hx hb dX11_borrowed_119 (by decide) ?_
                      exact W.iret (v := 1) hx hb hr (fun t ht hW => ⟨⟨1, (z_31, fz_32), rfl, ⟨hVz_31, hAz_31, hRz_31, ⟨Or.inr ⟨by omega, Or.inr ⟨show 0 ≤ (fa 24 x1.toNatClampNeg).toInt by omega, gpF fa_12, hx_16, Or.inl ⟨Or.inr ⟨y_30.toNatClampNeg, ni_lt (by omega) (by omega), (show twP v fa x1.toNatClampNeg y_30.toNatClampNeg by unfold twP; have n1 : ((x1.toNatClampNeg : Nat) : Int) = x1.toInt := tn_i (by omega); have n2 : ((y_30.toNatClampNeg : Nat) : Int) = y_30.toInt := tn_i (by omega); omega)⟩, by decide⟩⟩⟩, Or.inr ⟨by omega, (by first | exact (hq1_cut_29.2 0 rfl) | (dsimp only; exact (hq1_cut_29.2 0 rfl)))⟩⟩⟩, ⟨by rw [ht]; exact hP, va_K.moved hW.alike hK, hD⟩⟩, hS.F ht⟩) hS.2.2 dX11_borrowed_120
        have kc_55 : (0 : Int32).toInt = 0 := by decide
        exact cut_29 61 0 v_11 fa_12 _ _ ls (by omega) (by decide) (al_0 (by decide)) sc_21 (by have rc : (0 : Int32).toInt = 0 := (by decide); omega) hV_13 hA_14 R_20 hP hD hS (by omega) (by omega) (lv_sub hl [0, 1, 2] rfl)
      · have dc_28 := c_ne (a := x_25.toInt) (b := x_27.toInt) rfl rfl c_28
        refine lv_iconst (v := 1) hx hb dX11_borrowed_59 (by decide) ?_
        exact W.iret (v := 1) hx hb hr (fun t ht hW => ⟨⟨1, (v_11, fa_12), rfl, ⟨hV_13, hA_14, R_20, ⟨Or.inr ⟨by omega, Or.inr ⟨show 0 ≤ (fa 24 x1.toNatClampNeg).toInt by omega, gpF fa_12, hx_16, Or.inl ⟨Or.inl (show ¬ (fa_12 52 (fa 20 (fa 24 x1.toNatClampNeg).toNatClampNeg).toNatClampNeg).toInt = (fa_12 52 (fa 20 x1.toNatClampNeg).toNatClampNeg).toInt by omega), by decide⟩⟩⟩, Or.inr ⟨by omega, (by first | exact q0_22 | (dsimp only; exact q0_22))⟩⟩⟩, ⟨by rw [ht]; exact hP, va_K.moved hW.alike hK, hD⟩⟩, hS.F ht⟩) hS.2.2 dX11_borrowed_60
    · have dc_8 := c_nle (a := 0) (b := x_7.toInt) (by decide) rfl c_8
      refine lv_iconst (v := 0) hx hb dX11_borrowed_23 (by decide) ?_
      exact W.iret (v := 0) hx hb hr (fun t ht hW => ⟨⟨0, (v, fa), rfl, ⟨gV, gA, mX.rf, ⟨Or.inr ⟨by omega, Or.inl ⟨show (fa 24 x1.toNatClampNeg).toInt < 0 by omega, by decide⟩⟩, Or.inr ⟨by omega, (by first | exact rfl | (dsimp only; exact rfl))⟩⟩⟩, ⟨by rw [ht]; exact hP, va_K.moved hW.alike hK, hD⟩⟩, hS.F ht⟩) hS.2.2 dX11_borrowed_24
  · have dc_5 := c_eq (a := r_4.toInt) (b := 0) rfl (by decide) c_5
    have hz_56 := isI_0 (w_3.symm.trans c_5)
    refine lv_aload_n hx hb dX11_borrowed_8 rfl (lv_at hl 0 rfl) ?_
    refine lv_iconst (v := (-1)) hx hb dX11_borrowed_9 (by decide) ?_
    have hFc := va_free (wc := (mW g0 pq cp v fa)) hD hS hA (List.range 48) rfl
    refine va_calli (va_runV (As := [.int (-1)]) (rest := []) ⟨hx, hb, hml, hown, hts⟩ (c_X11_refuse_f l dC dI H.size g0 pq cp v fa (-1) (by unfold vp_in; decide)) (cwV 1 hts gX11_borrowed_X11_refuse rfl rfl rfl (by decide +kernel) ⟨(Nat.le_of_ble_eq_true rfl), (Nat.le_of_ble_eq_true rfl)⟩) (pr_V (r := (RX11, TX11, 63)) hP hK hD 0 11 rfl rfl) rfl rfl hl.1 rfl (lv_room (Nat.le_of_ble_eq_true rfl)) dX11_borrowed_10 ⟨(Nat.le_of_ble_eq_true rfl), (Nat.le_of_ble_eq_true rfl)⟩) hS (fun q _ h => hFc q h) hFc (fun r_58 u t H locs ht hvm w_57 hB hz1 hk1 hS => ?_)
    obtain ⟨v_59, fa_60⟩ := u
    obtain ⟨hP1, hK1, hD1⟩ := hB
    rw [ht] at hP1
    have hP : va_P (dC, dI) vwCl (mW g0 pq cp v_59 fa_60) H := hP1
    have hD : va_D A (mW g0 pq cp v_59 fa_60) := hD1.weaken (fun _ _ _ h => hFc _ h)
    clear hP1 hK1 hD1 hk1 hz1 hvm ht hFc
    obtain ⟨rfl, hs1_61⟩ := w_57
    have hVv_59 : mV v_59 := sm0_V (sm1_0 hs1_61) gV
    have hAv_59 : mA fa_60 := sm0_A (sm1_0 hs1_61) gA
    have g_62 : (v_59 38).toInt = (v 38).toInt := congrArg Int32.toInt (congrFun hs1_61.1 38)
    have g_63 : (v_59 43).toInt = (v 43).toInt := congrArg Int32.toInt (congrFun hs1_61.1 43)
    have hRv_59 : mX [0, 45, 47, 48, 49, 50, 51, 52, 53, 54, 55, 56, 57, 58, 59, 60] v fa v_59 fa_60 := mX.st mX.rf (mX.s0 (sm1_0 hs1_61)) (by decide)
    exact W.iret (v := (-1)) hx hb hr (fun t ht hW => ⟨⟨(-1), (v_59, fa_60), rfl, ⟨hVv_59, hAv_59, hRv_59, ⟨Or.inl ⟨by omega, by decide⟩, Or.inl ⟨by omega, sm2_1 hs1_61⟩⟩⟩, ⟨by rw [ht]; exact hP, va_K.moved hW.alike hK, hD⟩⟩, hS.F ht⟩) hS.2.2 dX11_borrowed_13
