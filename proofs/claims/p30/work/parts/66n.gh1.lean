

section
variable {v z : Nat → Int32} {fa fz : Nat → Nat → Int32} {a n : Nat} {k d s : Int}
/-- behind i payments of an allotment -/
def atI (v : Nat → Int32) (fa : Nat → Nat → Int32) (a : Nat) (s j k B t y : Int) : Prop := ∃ i : Nat, t = s + 30 + 30 * (i : Int) ∧ y = B - almF v fa a s k i ∧ (i = 0 ∨ (0 ≤ s ∧ 0 < (fa 29 a).toInt ∧ s + 30 * (i : Int) ≤ j)) ∧ (i : Int) ≤ 100
theorem atI_0 {j B t y : Int} (ht : t = s + 30) (hy : y = B) : atI v fa a s j k B t y := ⟨0, by omega, by rw [hy, show almF v fa a s k 0 = 0 from rfl]; omega, Or.inl rfl, by omega⟩
theorem atI_s {j B t y t1 y1 : Int} (h : atI v fa a s j k B t y) (h0 : 0 ≤ s) (hA : 0 < (fa 29 a).toInt) (hj : t ≤ j) (hj2 : j ≤ 3000) (ht : t1 = t + 30) (hy : (stF v fa a t k = 1 ∧ y1 = y - (fa 29 a).toInt) ∨ (¬ stF v fa a t k = 1 ∧ y1 = y)) : atI v fa a s j k B t1 y1 := by
  obtain ⟨i, e1, e2, e3, e4⟩ := h
  have es : almF v fa a s k (i + 1) = almF v fa a s k i + if stF v fa a t k = 1 then (fa 29 a).toInt else 0 := by
    unfold almF
    rw [smN_s, e1]
  refine ⟨i + 1, by omega, ?_, Or.inr ⟨h0, hA, by omega⟩, by omega⟩
  rw [es]
  rcases hy with ⟨q, r⟩ | ⟨q, r⟩
  · rw [if_pos q]; omega
  · rw [if_neg q]; omega
theorem atI_e {j B t y : Int} (h : atI v fa a (slO v fa (fa 21 a).toInt k) j k B t y) (he : slO v fa (fa 21 a).toInt k < 0 ∨ (fa 29 a).toInt ≤ 0 ∨ j < t) : y = B - almV v fa a j k := by
  obtain ⟨i, e1, e2, e3, e4⟩ := h
  unfold almV
  rcases e3 with e3 | ⟨e3, e5, e6⟩
  · subst e3
    rw [e2, show almF v fa a (slO v fa (fa 21 a).toInt k) k 0 = 0 from rfl]
    by_cases c : 0 ≤ slO v fa (fa 21 a).toInt k ∧ 0 < (fa 29 a).toInt
    · rw [if_pos c, show ((j - slO v fa (fa 21 a).toInt k) / 30).toNat = 0 by omega]
      rfl
    · rw [if_neg c]
  · rw [if_pos ⟨e3, e5⟩, e2, show ((j - slO v fa (fa 21 a).toInt k) / 30).toNat = i by omega]
theorem atI_b {j B t y : Int} (h : atI v fa a s j k B t y) (hb : owB fa a) : B - 999900 ≤ y ∧ y ≤ B := by
  obtain ⟨i, e1, e2, e3, e4⟩ := h
  have := almF_b (v := v) (s := s) (k := k) (n := i) hb
  omega
theorem fn_s {j : Int} {i i1 : Int32} {B y y1 : Int} (h : y = B - fnF v fa a j k i.toNatClampNeg) (e : i1.toInt = i.toInt + 1) (h0 : 0 ≤ i.toInt) (hy : ((fa 33 (6 * a + i.toNatClampNeg)).toInt ≤ j ∧ y1 = y - stV v fa a (6 * a + i.toNatClampNeg) k) ∨ (j < (fa 33 (6 * a + i.toNatClampNeg)).toInt ∧ y1 = y)) : y1 = B - fnF v fa a j k i1.toNatClampNeg := by
  rw [show i1.toNatClampNeg = i.toNatClampNeg + 1 from (show i1.toInt.toNat = i.toInt.toNat + 1 by omega)]
  unfold fnF at *
  rw [smN_s]
  rcases hy with ⟨q, r⟩ | ⟨q, r⟩
  · rw [if_pos q]; omega
  · rw [if_neg (by omega)]; omega
theorem sh_s {i i1 : Int32} {B y y1 : Int} (h : y = B + shF fa a k i.toNatClampNeg) (e : i1.toInt = i.toInt + 1) (h0 : 0 ≤ i.toInt) (hy : ((fa 35 (20 * a + i.toNatClampNeg)).toInt ≤ k ∧ y1 = y + (fa 36 (20 * a + i.toNatClampNeg)).toInt) ∨ (k < (fa 35 (20 * a + i.toNatClampNeg)).toInt ∧ y1 = y)) : y1 = B + shF fa a k i1.toNatClampNeg := by
  rw [show i1.toNatClampNeg = i.toNatClampNeg + 1 from (show i1.toInt.toNat = i.toInt.toNat + 1 by omega)]
  unfold shF at *
  rw [smN_s]
  rcases hy with ⟨q, r⟩ | ⟨q, r⟩
  · rw [if_pos q]; omega
  · rw [if_neg (by omega)]; omega
theorem sm_0 {i : Int32} {y B : Int} {g : Nat → Int} (h : i.toInt = 0) (hg : g 0 = 0) (hy : y = B) : y = B - g i.toNatClampNeg ∧ y = B + g i.toNatClampNeg := by
  rw [show i.toNatClampNeg = 0 from (show i.toInt.toNat = 0 by omega), hg]
  omega
end
section
variable {v z : Nat → Int32} {fa fz : Nat → Nat → Int32} {a : Nat} {j k s : Int} {n : Nat}
theorem owB_s (h : scr v fa z fz) (g : owB fa a) : owB fz a := by
  unfold owB at *
  rw [h.2 22 rfl, h.2 27 rfl, h.2 29 rfl, h.2 30 rfl, h.2 34 rfl, h.2 31 rfl, h.2 36 rfl]
  exact g
theorem owV_s (hW : wlA v fa) (h : scr v fa z fz) : owV z fz a j k = owV v fa a j k := by
  have e1 : ∀ d, stF z fz a d k = stF v fa a d k := fun d => stF_s hW h
  have e2 : ∀ i, stV z fz a i k = stV v fa a i k := fun i => stV_s hW h
  unfold owV bsF nvF almV almF fnF shF
  rw [erF_s hW h, slO_s h, h.2 22 rfl, h.2 27 rfl, h.2 21 rfl, h.2 29 rfl, h.2 30 rfl, h.2 33 rfl, h.2 31 rfl, h.2 35 rfl, h.2 36 rfl]
  simp only [e1, e2]
theorem owF_s {j : Int32} (hW : wlA v fa) (h : scr v fa z fz) : owF z fz a j k = owF v fa a j k := by
  unfold owF ffW
  rw [owV_s hW h, stF_s hW h, whO_s h, lP_s hW h, wrt_s hW h, h.2 25 rfl, h.2 14 rfl]
end
theorem almV_b {v : Nat → Int32} {fa : Nat → Nat → Int32} {a : Nat} {d k : Int} (h : owB fa a) (hd : d ≤ 3000) : 0 ≤ almV v fa a d k ∧ almV v fa a d k ≤ 999900 := by
  unfold almV
  split
  · have := almF_b (v := v) (s := slO v fa (fa 21 a).toInt k) (k := k) (n := ((d - slO v fa (fa 21 a).toInt k) / 30).toNat) h
    omega
  · omega
set_option maxHeartbeats 4000000 in
set_option maxRecDepth 100000 in
theorem c_X11_owedOf_f (l : Launch) (dC : Nat → ClassId) (dI : Nat → Nat → Nat) (sz : Nat) (g0 : Nat) (pq : Nat → Nat) (cp : Nat → ClassId) (v : Nat → Int32) (fa : Nat → Nat → Int32) (gV : mV v) (gA : mA fa) (x1 : Int32) (hx1 : 0 ≤ x1.toInt ∧ x1.toInt ≤ 59) (x2 : Int32) (hx2 : 0 ≤ x2.toInt ∧ x2.toInt ≤ 3000) (x3 : Int32) (hWl : wlA v fa) (hOw : owB fa x1.toNatClampNeg) : Met l yX11_owedOf wsX11_owedOf ({ frames := 26, cells := 0, slots := 0, locals := 611 }) (va_Pc [.ref g0, .int x1, .int x2, .int x3] (pcW (dC, dI) (mT cp) (mW g0 pq cp v fa) sz)) (va_Qi (fun (r : Int32) (u : (Nat → Int32) × (Nat → Nat → Int32)) => mV u.1 ∧ mA u.2 ∧ scr v fa u.1 u.2 ∧ (r.toInt = owF v fa x1.toNatClampNeg x2 x3.toInt)) (fun u t => va_P (dC, dI) vwCl (mW g0 pq cp u.1 u.2) t.heap ∧ va_K (dC, dI) vwCl (mT cp) t ∧ va_D (va_A (mW g0 pq cp v fa) sz) (mW g0 pq cp u.1 u.2)) (va_A (mW g0 pq cp v fa) sz)) 0 0 (va_A (mW g0 pq cp v fa) sz) := by
  refine Met.ofW (cc := cX11_owedOf) (maxL := 8) (ret := (some .int)) (by decide) rfl ?_
  intro p e s m args below meth c s₁ B hml hv
  obtain ⟨rfl, hsz, hP, hK, hD0⟩ := hv
  have hx := B.exec
  have hb := B.bytes
  have hr := B.returns
  have hts := atoms_spec (ws := wsX11_owedOf) B.pre
  have hown : s.vm.findClass RX11 = some m.cls := findClass_of_methodNamed B.named
  have hlocks := B.notSynchronized
  subst hsz
  have hD := hD0.self (sz := s.heap.size)
  generalize hAe : va_A (mW g0 pq cp v fa) s.heap.size = A at hD ⊢
  have hA : ∀ q : Nat, s.heap.size ≤ q → A q := fun q h => by rw [← hAe]; exact Or.inr h
  have hS : va_S A s.heap s.heap [] := va_S.rf
  have hP : va_P (dC, dI) vwCl (mW g0 pq cp v fa) s.heap := hP
  have hl := lv_entry ([.ref g0, .int x1, .int x2, .int x3]) (n := 8) (Nat.le_of_ble_eq_true rfl)
  rw [lg_entry_eq]
  generalize (lg_sl ([.ref g0, .int x1, .int x2, .int x3]) ++ List.replicate (8 - (lg_sl ([.ref g0, .int x1, .int x2, .int x3])).length) Slot.unset).toArray = ls at hl ⊢
  have hl : lv_has ls 8 [(0, .ref g0), (1, .int x1), (2, .int x2), (3, .int x3)] := hl
  have bNV := nvF_b (v := v) (d := x2.toInt) (k := x3.toInt) hOw
  have bFN : 0 ≤ (fa 30 x1.toNatClampNeg).toInt ∧ (fa 30 x1.toNatClampNeg).toInt ≤ 6 := gA 30 _
  have bSN : 0 ≤ (fa 31 x1.toNatClampNeg).toInt ∧ (fa 31 x1.toNatClampNeg).toInt ≤ 20 := gA 31 _
  obtain ⟨bWG, bNT, bAL, -, -⟩ := id hOw
  have n1 : ((x1.toNatClampNeg : Nat) : Int) = x1.toInt := tn_i (by omega)
  refine lv_iload_n hx hb dX11_owedOf_0 rfl (lv_at hl 2 rfl) ?_
  refine lv_aload_n hx hb dX11_owedOf_1 rfl (lv_at hl 0 rfl) ?_
  refine va_get (D := (dC, dI)) (ci := 11) (v := .ref (pq 25)) (C := RX11) (T := TX11) (N := 63) hx hb hts in_wsX11_owedOf_X11 hown hK hP 0 rfl rfl 25 (by decide) (hts (.fieldLink RX11 85 "ShipOfficeModel" "signed" "[I") iw_X11_owedOf_1) (fun _ h9 => h9) rfl dX11_owedOf_2 ?_
  refine lv_iload_n hx hb dX11_owedOf_5 rfl (lv_at hl 1 rfl) ?_
  refine va_iald hx hb hK hP 26 25 rfl rfl (vp_in_iff.mpr (by omega)) dX11_owedOf_6 ?_
  refine lv_topi (fun x_1 ex_1 => ?_)
  have hx_1 : 0 ≤ x_1.toInt ∧ x_1.toInt ≤ 3000 := iv_of ex_1 (gA 25 _)
  have gx_1 : x_1.toInt = (fa 25 (x1 : Int32).toNatClampNeg).toInt := iv_to ex_1
  clear ex_1
  refine lv_icmp_ge (tgt := 12) hx hb dX11_owedOf_7 (by decide) (fun c_2 => ?_) (fun c_2 => ?_)
  · have dc_2 := c_le (a := x_1.toInt) (b := x2.toInt) rfl rfl c_2
    refine lv_aload_n hx hb dX11_owedOf_12 rfl (lv_at hl 0 rfl) ?_
    refine va_get (D := (dC, dI)) (ci := 11) (v := .ref (pq 22)) (C := RX11) (T := TX11) (N := 63) hx hb hts in_wsX11_owedOf_X11 hown hK hP 0 rfl rfl 22 (by decide) (hts (.fieldLink RX11 76 "ShipOfficeModel" "wage" "[I") iw_X11_owedOf_2) (fun _ h9 => h9) rfl dX11_owedOf_13 ?_
    refine lv_iload_n hx hb dX11_owedOf_16 rfl (lv_at hl 1 rfl) ?_
    refine va_iald hx hb hK hP 23 22 rfl rfl (vp_in_iff.mpr (by omega)) dX11_owedOf_17 ?_
    refine lv_topi (fun x_3 ex_3 => ?_)
    have gx_3 : x_3.toInt = (fa 22 (x1 : Int32).toNatClampNeg).toInt := iv_to ex_3
    clear ex_3
    refine lv_i2l (v := (x_3 : Int32).toInt64) hx hb dX11_owedOf_18 rfl ?_
    refine lv_topl (fun l_4 el_4 => ?_)
    have hl_4 : l_4.toInt = x_3.toInt := by rw [el_4]; exact Int32.toInt_toInt64 _
    refine lv_aload_n hx hb dX11_owedOf_19 rfl (lv_at hl 0 rfl) ?_
    refine lv_iload_n hx hb dX11_owedOf_20 rfl (lv_at hl 1 rfl) ?_
    refine lv_iload_n hx hb dX11_owedOf_21 rfl (lv_at hl 2 rfl) ?_
    refine lv_iload_n hx hb dX11_owedOf_22 rfl (lv_at hl 3 rfl) ?_
    have hFc := va_free (wc := (mW g0 pq cp v fa)) hD hS hA (List.range 48) rfl
    refine va_calli (va_runV (As := [.int x1, .int x2, .int x3]) (rest := [.long l_4]) ⟨hx, hb, hml, hown, hts⟩ (c_X11_earnsOf_f l dC dI s.heap.size g0 pq cp v fa gV gA x1 (by omega) x2 (by omega) x3 hWl) (cwV 3 hts gX11_owedOf_X11_earnsOf rfl rfl rfl (by decide +kernel) ⟨(Nat.le_of_ble_eq_true rfl), (Nat.le_of_ble_eq_true rfl)⟩) (pr_V (r := (RX11, TX11, 63)) hP hK hD 0 11 rfl rfl) rfl rfl hl.1 rfl (lv_room (Nat.le_of_ble_eq_true rfl)) dX11_owedOf_23 ⟨(Nat.le_of_ble_eq_true rfl), (Nat.le_of_ble_eq_true rfl)⟩) hS (fun q _ h => hFc q h) hFc (fun r_6 u t H locs ht hvm w_5 hB hz1 hk1 hS => ?_)
    obtain ⟨v_7, fa_8⟩ := u
    obtain ⟨hP1, hK1, hD1⟩ := hB
    rw [ht] at hP1
    have hP : va_P (dC, dI) vwCl (mW g0 pq cp v_7 fa_8) H := hP1
    have hD : va_D A (mW g0 pq cp v_7 fa_8) := hD1.weaken (fun _ _ _ h => hFc _ h)
    clear hP1 hK1 hD1 hk1 hz1 hvm ht hFc
    obtain ⟨hV_9, hA_10, hR_11, hb_12, hx_13⟩ := w_5
    dsimp only at hV_9 hA_10 hR_11 hb_12 hx_13
    have g_14 : (fa_8 22 (x1 : Int32).toNatClampNeg).toInt = (fa 22 (x1 : Int32).toNatClampNeg).toInt := congrArg (fun h : Nat → Int32 => Int32.toInt (h (x1 : Int32).toNatClampNeg)) (hR_11.2 22 rfl)
    have g_15 : (fa_8 25 (x1 : Int32).toNatClampNeg).toInt = (fa 25 (x1 : Int32).toNatClampNeg).toInt := congrArg (fun h : Nat → Int32 => Int32.toInt (h (x1 : Int32).toNatClampNeg)) (hR_11.2 25 rfl)
    have R_16 := scr.tr scr.rf hR_11
    have sc_17 := scr.tr scr.rf hR_11
    have q0_18 : fa_8 0 = fa 0 := (hR_11.2 0 rfl).trans rfl
    have bBS := bsF_b (v := v) (d := x2.toInt) (k := x3.toInt) hOw (by omega)
    refine lv_i2l (v := (r_6 : Int32).toInt64) hx hb dX11_owedOf_26 rfl ?_
    refine lv_topl (fun l_19 el_19 => ?_)
    have hl_19 : l_19.toInt = r_6.toInt := by rw [el_19]; exact Int32.toInt_toInt64 _
    refine lv_lmul hx hb dX11_owedOf_27 ?_
    refine lv_topl (fun l_20 el_20 => ?_)
    have hl_20 : l_20.toInt = l_4.toInt * l_19.toInt := by rw [el_20]; exact lmu_i rfl rfl (by omega) (by omega)
    refine lv_ldc2 (v := 30) hx hb hown (hts (.constantLong RX11 318 (30)) (by decide +kernel)) dX11_owedOf_28 ?_
    refine lv_ldiv hx hb dX11_owedOf_31 (by decide) ?_
    refine lv_topl (fun l_21 el_21 => ?_)
    have hl_21 : l_21.toInt = l_20.toInt.tdiv 30 := by rw [el_21]; exact ldv_i rfl (by decide) (by decide)
    have hbl_21 := dn_b hl_21 hl_20 (by omega) (by omega)
    refine lv_lstore (lv' := [(4, .long l_21), (0, .ref g0), (1, .int x1), (2, .int x2), (3, .int x3)]) hx hb dX11_owedOf_32 hl (by decide) rfl (fun ls hl => ?_)
    refine lv_aload_n hx hb dX11_owedOf_34 rfl (lv_at hl 1 rfl) ?_
    refine lv_aload_n hx hb dX11_owedOf_35 rfl (lv_at hl 1 rfl) ?_
    refine va_get (D := (dC, dI)) (ci := 11) (v := .ref (pq 21)) (C := RX11) (T := TX11) (N := 63) hx hb hts in_wsX11_owedOf_X11 hown hK hP 0 rfl rfl 21 (by decide) (hts (.fieldLink RX11 73 "ShipOfficeModel" "voyage" "[I") iw_X11_owedOf_3) (fun _ h9 => h9) rfl dX11_owedOf_36 ?_
    refine lv_iload_n hx hb dX11_owedOf_39 rfl (lv_at hl 2 rfl) ?_
    refine va_iald hx hb hK hP 22 21 rfl rfl (vp_in_iff.mpr (by omega)) dX11_owedOf_40 ?_
    refine lv_topi (fun x_22 ex_22 => ?_)
    have hx_22 : 0 ≤ x_22.toInt ∧ x_22.toInt ≤ 19 := iv_of ex_22 (hA_10 21 _)
    have gx_22 : x_22.toInt = (fa_8 21 (x1 : Int32).toNatClampNeg).toInt := iv_to ex_22
    clear ex_22
    rw [show fa_8 21 = fa 21 from sc_17.2 21 rfl] at gx_22
    refine lv_iload_n hx hb dX11_owedOf_41 rfl (lv_at hl 4 rfl) ?_
    have hFc : ∀ q, va_A [] H.size q → A q := pu_free hS hA
    refine va_calli (va_runV (As := [.int x_22, .int x3]) (rest := []) ⟨hx, hb, hml, hown, hts⟩ (c_X11_sailedOn_f l dC dI H.size g0 pq cp v_7 fa_8 hV_9 hA_10 x_22 x3) (cwV 2 hts gX11_owedOf_X11_sailedOn rfl rfl rfl (by decide +kernel) ⟨(Nat.le_of_ble_eq_true rfl), (Nat.le_of_ble_eq_true rfl)⟩) (pr_V (r := (RX11, TX11, 63)) hP hK hD 0 11 rfl rfl) rfl rfl hl.1 rfl (lv_room (Nat.le_of_ble_eq_true rfl)) dX11_owedOf_42 ⟨(Nat.le_of_ble_eq_true rfl), (Nat.le_of_ble_eq_true rfl)⟩) hS (fun q _ h => hFc q h) hFc (fun r_24 u t H locs ht hvm w_23 hB hz1 hk1 hS => ?_)
    have hP := pu_keep hP hk1
    clear hk1 hz1 hvm hB ht hFc
    obtain ⟨hb_25, hx_26⟩ := w_23
    try rw [gx_22] at hx_26
    rw [slO_s sc_17] at hx_26
    refine lv_istore (lv' := [(6, .int r_24), (4, .long l_21), (0, .ref g0), (1, .int x1), (2, .int x2), (3, .int x3)]) hx hb dX11_owedOf_45 hl (by decide) rfl (fun ls hl => ?_)
    have cut_27 : ∀ (y_28 : Int64) (z_29 : Nat → Int32) (fz_30 : Nat → Nat → Int32) (H : Heap) (locs : List Loc) (ls : Array Slot), y_28.toInt = ((bsF v fa x1.toNatClampNeg x2.toInt x3.toInt) - (nvF v fa x1.toNatClampNeg x2.toInt x3.toInt) - (almV v fa x1.toNatClampNeg x2.toInt x3.toInt)) → mV z_29 → mA fz_30 → scr v fa z_29 fz_30 → va_P (dC, dI) vwCl (mW g0 pq cp z_29 fz_30) H → va_D A (mW g0 pq cp z_29 fz_30) → va_S A s.heap H locs → lv_has ls 8 [(4, .long y_28), (6, .int r_24), (0, .ref g0), (1, .int x1), (2, .int x2), (3, .int x3)] → W p l e (headSpec wsX11_owedOf { frames := 26, cells := 0, slots := 0, locals := 611 }).room s m #[Value.ref g0, Value.int x1, Value.int x2, Value.int x3] below meth c H locs 0 0 (MQ below (va_Qi (fun (r : Int32) (u : (Nat → Int32) × (Nat → Nat → Int32)) => mV u.1 ∧ mA u.2 ∧ scr v fa u.1 u.2 ∧ (r.toInt = owF v fa x1.toNatClampNeg x2 x3.toInt)) (fun u t => va_P (dC, dI) vwCl (mW g0 pq cp u.1 u.2) t.heap ∧ va_K (dC, dI) vwCl (mT cp) t ∧ va_D A (mW g0 pq cp u.1 u.2)) A) #[Value.ref g0, Value.int x1, Value.int x2, Value.int x3] s 0 0 A) (F0 m 156 ls []) := by
      intro y_28 z_29 fz_30 H locs ls hq0_cut_27 hVz_29 hAz_29 hRz_29 hP hD hS hl
      have hb156 := almV_b (v := v) (d := x2.toInt) (k := x3.toInt) hOw (by omega)
      refine lv_iconst (v := 0) hx hb dX11_owedOf_156 (by decide) ?_
      refine lv_istore (lv' := [(7, .int 0), (4, .long y_28), (6, .int r_24), (0, .ref g0), (1, .int x1), (2, .int x2), (3, .int x3)]) hx hb dX11_owedOf_157 hl (by decide) rfl (fun ls hl => ?_)
      have cut_31 : ∀ (n : Nat) (y_32 : Int32) (y_33 : Int64) (z_34 : Nat → Int32) (fz_35 : Nat → Nat → Int32) (H : Heap) (locs : List Loc) (ls : Array Slot), 6 - y_32.toInt ≤ (n : Int) → (0 ≤ y_32.toInt ∧ y_32.toInt ≤ 6) → y_33.toInt = ((bsF v fa x1.toNatClampNeg x2.toInt x3.toInt) - (nvF v fa x1.toNatClampNeg x2.toInt x3.toInt) - (almV v fa x1.toNatClampNeg x2.toInt x3.toInt)) - fnF v fa x1.toNatClampNeg x2.toInt x3.toInt y_32.toNatClampNeg → y_32.toInt ≤ (fa 30 x1.toNatClampNeg).toInt → mV z_34 → mA fz_35 → scr v fa z_34 fz_35 → va_P (dC, dI) vwCl (mW g0 pq cp z_34 fz_35) H → va_D A (mW g0 pq cp z_34 fz_35) → va_S A s.heap H locs → lv_has ls 8 [(7, .int y_32), (4, .long y_33), (6, .int r_24), (0, .ref g0), (1, .int x1), (2, .int x2), (3, .int x3)] → W p l e (headSpec wsX11_owedOf { frames := 26, cells := 0, slots := 0, locals := 611 }).room s m #[Value.ref g0, Value.int x1, Value.int x2, Value.int x3] below meth c H locs 0 0 (MQ below (va_Qi (fun (r : Int32) (u : (Nat → Int32) × (Nat → Nat → Int32)) => mV u.1 ∧ mA u.2 ∧ scr v fa u.1 u.2 ∧ (r.toInt = owF v fa x1.toNatClampNeg x2 x3.toInt)) (fun u t => va_P (dC, dI) vwCl (mW g0 pq cp u.1 u.2) t.heap ∧ va_K (dC, dI) vwCl (mT cp) t ∧ va_D A (mW g0 pq cp u.1 u.2)) A) #[Value.ref g0, Value.int x1, Value.int x2, Value.int x3] s 0 0 A) (F0 m 159 ls []) := by
        intro n
        induction n using Nat.strongRecOn with
        | ind n ih =>
          intro y_32 y_33 z_34 fz_35 H locs ls hm hy_32 hq0_cut_31 hq1_cut_31 hVz_34 hAz_34 hRz_34 hP hD hS hl
          have hb156 := almV_b (v := v) (d := x2.toInt) (k := x3.toInt) hOw (by omega)
          have hb159 := fnF_b (v := v) (d := x2.toInt) (k := x3.toInt) hOw (n := y_32.toNatClampNeg) (show y_32.toInt.toNat ≤ (fa 30 x1.toNatClampNeg).toInt.toNat by omega)
          have nb159 : ((y_32.toNatClampNeg : Nat) : Int) = y_32.toInt := tn_i (by omega)
          refine lv_iload hx hb dX11_owedOf_159 (lv_at hl 0 rfl) ?_
          refine lv_aload_n hx hb dX11_owedOf_161 rfl (lv_at hl 3 rfl) ?_
          refine va_get (D := (dC, dI)) (ci := 11) (v := .ref (pq 30)) (C := RX11) (T := TX11) (N := 63) hx hb hts in_wsX11_owedOf_X11 hown hK hP 0 rfl rfl 30 (by decide) (hts (.fieldLink RX11 100 "ShipOfficeModel" "fines" "[I") iw_X11_owedOf_4) (fun _ h9 => h9) rfl dX11_owedOf_162 ?_
          refine lv_iload_n hx hb dX11_owedOf_165 rfl (lv_at hl 4 rfl) ?_
          refine va_iald hx hb hK hP 31 30 rfl rfl (vp_in_iff.mpr (by omega)) dX11_owedOf_166 ?_
          refine lv_topi (fun x_36 ex_36 => ?_)
          have hx_36 : 0 ≤ x_36.toInt ∧ x_36.toInt ≤ 6 := iv_of ex_36 (hAz_34 30 _)
          have gx_36 : x_36.toInt = (fz_35 30 (x1 : Int32).toNatClampNeg).toInt := iv_to ex_36
          clear ex_36
          rw [show fz_35 30 = fa 30 from hRz_34.2 30 rfl] at gx_36
          refine lv_icmp_ge (tgt := 210) hx hb dX11_owedOf_167 (by decide) (fun c_37 => ?_) (fun c_37 => ?_)
          · have dc_37 := c_le (a := x_36.toInt) (b := y_32.toInt) rfl rfl c_37
            refine lv_iconst (v := 0) hx hb dX11_owedOf_210 (by decide) ?_
            refine lv_istore (lv' := [(7, .int 0), (4, .long y_33), (6, .int r_24), (0, .ref g0), (1, .int x1), (2, .int x2), (3, .int x3)]) hx hb dX11_owedOf_211 hl (by decide) rfl (fun ls hl => ?_)
            have cut_38 : ∀ (n2 : Nat) (y_39 : Int32) (y_40 : Int64) (z_41 : Nat → Int32) (fz_42 : Nat → Nat → Int32) (H : Heap) (locs : List Loc) (ls : Array Slot), 20 - y_39.toInt ≤ (n2 : Int) → (0 ≤ y_39.toInt ∧ y_39.toInt ≤ 20) → y_40.toInt = (((bsF v fa x1.toNatClampNeg x2.toInt x3.toInt) - (nvF v fa x1.toNatClampNeg x2.toInt x3.toInt) - (almV v fa x1.toNatClampNeg x2.toInt x3.toInt)) - fnF v fa x1.toNatClampNeg x2.toInt x3.toInt (fa 30 x1.toNatClampNeg).toNatClampNeg) + shF fa x1.toNatClampNeg x3.toInt y_39.toNatClampNeg → y_39.toInt ≤ (fa 31 x1.toNatClampNeg).toInt → mV z_41 → mA fz_42 → scr v fa z_41 fz_42 → va_P (dC, dI) vwCl (mW g0 pq cp z_41 fz_42) H → va_D A (mW g0 pq cp z_41 fz_42) → va_S A s.heap H locs → lv_has ls 8 [(7, .int y_39), (4, .long y_40), (6, .int r_24), (0, .ref g0), (1, .int x1), (2, .int x2), (3, .int x3)] → W p l e (headSpec wsX11_owedOf { frames := 26, cells := 0, slots := 0, locals := 611 }).room s m #[Value.ref g0, Value.int x1, Value.int x2, Value.int x3] below meth c H locs 0 0 (MQ below (va_Qi (fun (r : Int32) (u : (Nat → Int32) × (Nat → Nat → Int32)) => mV u.1 ∧ mA u.2 ∧ scr v fa u.1 u.2 ∧ (r.toInt = owF v fa x1.toNatClampNeg x2 x3.toInt)) (fun u t => va_P (dC, dI) vwCl (mW g0 pq cp u.1 u.2) t.heap ∧ va_K (dC, dI) vwCl (mT cp) t ∧ va_D A (mW g0 pq cp u.1 u.2)) A) #[Value.ref g0, Value.int x1, Value.int x2, Value.int x3] s 0 0 A) (F0 m 213 ls []) := by
              intro n2
              induction n2 using Nat.strongRecOn with
              | ind n2 ih2 =>
                intro y_39 y_40 z_41 fz_42 H locs ls hm hy_39 hq0_cut_38 hq1_cut_38 hVz_41 hAz_41 hRz_41 hP hD hS hl
                have hb156 := almV_b (v := v) (d := x2.toInt) (k := x3.toInt) hOw (by omega)
                have hb159 := fnF_b (v := v) (d := x2.toInt) (k := x3.toInt) hOw (n := (fa 30 x1.toNatClampNeg).toNatClampNeg) (Nat.le_refl _)
                have nf213 : (((fa 30 x1.toNatClampNeg).toNatClampNeg : Nat) : Int) = (fa 30 x1.toNatClampNeg).toInt := tn_i (by omega)
                have hb213 := shF_b (k := x3.toInt) hOw (n := y_39.toNatClampNeg) (show y_39.toInt.toNat ≤ (fa 31 x1.toNatClampNeg).toInt.toNat by omega)
                have nb213 : ((y_39.toNatClampNeg : Nat) : Int) = y_39.toInt := tn_i (by omega)
                refine lv_iload hx hb dX11_owedOf_213 (lv_at hl 0 rfl) ?_
                refine lv_aload_n hx hb dX11_owedOf_215 rfl (lv_at hl 3 rfl) ?_
                refine va_get (D := (dC, dI)) (ci := 11) (v := .ref (pq 31)) (C := RX11) (T := TX11) (N := 63) hx hb hts in_wsX11_owedOf_X11 hown hK hP 0 rfl rfl 31 (by decide) (hts (.fieldLink RX11 103 "ShipOfficeModel" "shorts" "[I") iw_X11_owedOf_5) (fun _ h9 => h9) rfl dX11_owedOf_216 ?_
                refine lv_iload_n hx hb dX11_owedOf_219 rfl (lv_at hl 4 rfl) ?_
                refine va_iald hx hb hK hP 32 31 rfl rfl (vp_in_iff.mpr (by omega)) dX11_owedOf_220 ?_
                refine lv_topi (fun x_43 ex_43 => ?_)
                have hx_43 : 0 ≤ x_43.toInt ∧ x_43.toInt ≤ 20 := iv_of ex_43 (hAz_41 31 _)
                have gx_43 : x_43.toInt = (fz_42 31 (x1 : Int32).toNatClampNeg).toInt := iv_to ex_43
                clear ex_43
                rw [show fz_42 31 = fa 31 from hRz_41.2 31 rfl] at gx_43
                refine lv_icmp_ge (tgt := 268) hx hb dX11_owedOf_221 (by decide) (fun c_44 => ?_) (fun c_44 => ?_)
                · have dc_44 := c_le (a := x_43.toInt) (b := y_39.toInt) rfl rfl c_44
                  refine lv_lload hx hb dX11_owedOf_268 (lv_at hl 1 rfl) ?_
                  refine lv_lconst (v := 0) hx hb dX11_owedOf_270 (by decide) ?_
                  refine W.lcmp hx hb dX11_owedOf_271 ?_
                  refine lv_topi (fun x_45 ex_45 => ?_)
                  have hx_45 := lg_c0 ex_45 rfl
                  refine lv_if_le (tgt := 301) hx hb dX11_owedOf_272 (by decide) (fun c_46 => ?_) (fun c_46 => ?_)
                  · have dc_46 := c_le (a := x_45.toInt) (b := 0) rfl (by decide) c_46
                    refine lv_lload hx hb dX11_owedOf_301 (lv_at hl 1 rfl) ?_
                    refine lv_l2i (v := (y_40 : Int64).toInt32) hx hb dX11_owedOf_303 rfl ?_
                    refine lv_topi (fun x_47 ex_47 => ?_)
                    exact W.iret (v := x_47) hx hb hr (fun t ht hW => ⟨⟨x_47, (z_41, fz_42), rfl, ⟨hVz_41, hAz_41, hRz_41, (by have eO : y_40.toInt = owV v fa x1.toNatClampNeg x2.toInt x3.toInt := (by have q := hq0_cut_38; rw [show y_39.toNatClampNeg = (fa 31 x1.toNatClampNeg).toNatClampNeg from (show y_39.toInt.toNat = (fa 31 x1.toNatClampNeg).toInt.toNat by omega)] at q; exact q); have e9 := l2i_i ex_47 (a := y_40.toInt) rfl (by omega) (by omega); unfold owF; rw [if_neg (by omega), if_pos (by omega)]; omega)⟩, ⟨by rw [ht]; exact hP, va_K.moved hW.alike hK, hD⟩⟩, hS.F ht⟩) hS.2.2 dX11_owedOf_304
                  · have dc_46 := c_nle (a := x_45.toInt) (b := 0) rfl (by decide) c_46
                    refine lv_aload_n hx hb dX11_owedOf_275 rfl (lv_at hl 3 rfl) ?_
                    refine lv_iload_n hx hb dX11_owedOf_276 rfl (lv_at hl 4 rfl) ?_
                    refine lv_iload_n hx hb dX11_owedOf_277 rfl (lv_at hl 5 rfl) ?_
                    refine lv_iload_n hx hb dX11_owedOf_278 rfl (lv_at hl 6 rfl) ?_
                    have hFc := va_free (wc := (mW g0 pq cp z_41 fz_42)) hD hS hA (List.range 48) rfl
                    refine va_calli (va_runV (As := [.int x1, .int x2, .int x3]) (rest := []) ⟨hx, hb, hml, hown, hts⟩ (c_X11_stateOf_f l dC dI H.size g0 pq cp z_41 fz_42 hVz_41 hAz_41 x1 (by omega) x2 (by omega) x3 (wlA_fr hWl (hRz_41.1 42 rfl) (hRz_41.2 19 rfl) (hRz_41.2 16 rfl))) (cwV 3 hts gX11_owedOf_X11_stateOf rfl rfl rfl (by decide +kernel) ⟨(Nat.le_of_ble_eq_true rfl), (Nat.le_of_ble_eq_true rfl)⟩) (pr_V (r := (RX11, TX11, 63)) hP hK hD 0 11 rfl rfl) rfl rfl hl.1 rfl (lv_room (Nat.le_of_ble_eq_true rfl)) dX11_owedOf_279 ⟨(Nat.le_of_ble_eq_true rfl), (Nat.le_of_ble_eq_true rfl)⟩) hS (fun q _ h => hFc q h) hFc (fun r_49 u t H locs ht hvm w_48 hB hz1 hk1 hS => ?_)
                    obtain ⟨v_50, fa_51⟩ := u
                    obtain ⟨hP1, hK1, hD1⟩ := hB
                    rw [ht] at hP1
                    have hP : va_P (dC, dI) vwCl (mW g0 pq cp v_50 fa_51) H := hP1
                    have hD : va_D A (mW g0 pq cp v_50 fa_51) := hD1.weaken (fun _ _ _ h => hFc _ h)
                    clear hP1 hK1 hD1 hk1 hz1 hvm ht hFc
                    obtain ⟨hV_52, hA_53, hR_54, hb_55, hx_56⟩ := w_48
                    dsimp only at hV_52 hA_53 hR_54 hb_55 hx_56
                    have g_57 : (fa_51 31 (x1 : Int32).toNatClampNeg).toInt = (fz_42 31 (x1 : Int32).toNatClampNeg).toInt := congrArg (fun h : Nat → Int32 => Int32.toInt (h (x1 : Int32).toNatClampNeg)) (hR_54.2 31 rfl)
                    have R_58 := scr.tr hRz_41 hR_54
                    have sc_59 := scr.tr hRz_41 hR_54
                    have q0_60 : fa_51 0 = fa 0 := (hR_54.2 0 rfl).trans (hRz_41.2 0 rfl)
                    rw [stF_s hWl hRz_41] at hx_56
                    refine lv_iconst (v := 3) hx hb dX11_owedOf_282 (by decide) ?_
                    refine lv_icmp_ne (tgt := 301) hx hb dX11_owedOf_283 (by decide) (fun c_61 => ?_) (fun c_61 => ?_)
                    · have dc_61 := c_ne (a := r_49.toInt) (b := 3) rfl (by decide) c_61
                      refine lv_lload hx hb dX11_owedOf_301 (lv_at hl 1 rfl) ?_
                      refine lv_l2i (v := (y_40 : Int64).toInt32) hx hb dX11_owedOf_303 rfl ?_
                      refine lv_topi (fun x_62 ex_62 => ?_)
                      exact W.iret (v := x_62) hx hb hr (fun t ht hW => ⟨⟨x_62, (v_50, fa_51), rfl, ⟨hV_52, hA_53, R_58, (by have eO : y_40.toInt = owV v fa x1.toNatClampNeg x2.toInt x3.toInt := (by have q := hq0_cut_38; rw [show y_39.toNatClampNeg = (fa 31 x1.toNatClampNeg).toNatClampNeg from (show y_39.toInt.toNat = (fa 31 x1.toNatClampNeg).toInt.toNat by omega)] at q; exact q); have e9 := l2i_i ex_62 (a := y_40.toInt) rfl (by omega) (by omega); unfold owF; rw [if_neg (by omega), if_pos (by omega)]; omega)⟩, ⟨by rw [ht]; exact hP, va_K.moved hW.alike hK, hD⟩⟩, hS.F ht⟩) hS.2.2 dX11_owedOf_304
                    · have dc_61 := c_eq (a := r_49.toInt) (b := 3) rfl (by decide) c_61
                      refine lv_aload_n hx hb dX11_owedOf_286 rfl (lv_at hl 3 rfl) ?_
                      refine va_get (D := (dC, dI)) (ci := 11) (v := .ref (pq 14)) (C := RX11) (T := TX11) (N := 63) hx hb hts in_wsX11_owedOf_X11 hown hK hP 0 rfl rfl 14 (by decide) (hts (.fieldLink RX11 52 "ShipOfficeModel" "way" "[I") iw_X11_owedOf_6) (fun _ h9 => h9) rfl dX11_owedOf_287 ?_
                      refine lv_aload_n hx hb dX11_owedOf_290 rfl (lv_at hl 3 rfl) ?_
                      refine lv_iload_n hx hb dX11_owedOf_291 rfl (lv_at hl 4 rfl) ?_
                      refine lv_iload_n hx hb dX11_owedOf_292 rfl (lv_at hl 5 rfl) ?_
                      refine lv_iload_n hx hb dX11_owedOf_293 rfl (lv_at hl 6 rfl) ?_
                      have hFc : ∀ q, va_A [] H.size q → A q := pu_free hS hA
                      refine va_calli (va_runV (As := [.int x1, .int x2, .int x3]) (rest := [.ref (pq 14)]) ⟨hx, hb, hml, hown, hts⟩ (c_X11_whereOf_f l dC dI H.size g0 pq cp v_50 fa_51 hV_52 hA_53 x1 x2 x3) (cwV 3 hts gX11_owedOf_X11_whereOf rfl rfl rfl (by decide +kernel) ⟨(Nat.le_of_ble_eq_true rfl), (Nat.le_of_ble_eq_true rfl)⟩) (pr_V (r := (RX11, TX11, 63)) hP hK hD 0 11 rfl rfl) rfl rfl hl.1 rfl (lv_room (Nat.le_of_ble_eq_true rfl)) dX11_owedOf_294 ⟨(Nat.le_of_ble_eq_true rfl), (Nat.le_of_ble_eq_true rfl)⟩) hS (fun q _ h => hFc q h) hFc (fun r_64 u t H locs ht hvm w_63 hB hz1 hk1 hS => ?_)
                      have hP := pu_keep hP hk1
                      clear hk1 hz1 hvm hB ht hFc
                      obtain ⟨hb_65, hx_66⟩ := w_63
                      rw [whO_s sc_59] at hx_66
                      have hw3 := st3_w (v := v) (fa := fa) (a := x1.toNatClampNeg) (d := x2.toInt) (k := x3.toInt) (by omega)
                      rw [n1] at hw3
                      have hwr : 0 ≤ r_64.toInt := by omega
                      refine va_iald hx hb hK hP 15 14 rfl rfl (vp_in_iff.mpr (by omega)) dX11_owedOf_297 ?_
                      refine lv_topi (fun x_67 ex_67 => ?_)
                      have gx_67 : x_67.toInt = (fa_51 14 (r_64 : Int32).toNatClampNeg).toInt := iv_to ex_67
                      clear ex_67
                      rw [show fa_51 14 = fa 14 from sc_59.2 14 rfl] at gx_67
                      rw [show (r_64 : Int32).toNatClampNeg = (whO v fa ((x1.toNatClampNeg : Nat) : Int) x2.toInt x3.toInt).toNat from (by show r_64.toInt.toNat = _; congr 1; rw [n1]; omega)] at gx_67
                      refine lv_if_eq (tgt := 305) hx hb dX11_owedOf_298 (by decide) (fun c_68 => ?_) (fun c_68 => ?_)
                      · have dc_68 := c_eq (a := x_67.toInt) (b := 0) rfl (by decide) c_68
                        refine lv_aload_n hx hb dX11_owedOf_305 rfl (lv_at hl 3 rfl) ?_
                        refine lv_iload_n hx hb dX11_owedOf_306 rfl (lv_at hl 4 rfl) ?_
                        refine lv_iload_n hx hb dX11_owedOf_307 rfl (lv_at hl 5 rfl) ?_
                        refine lv_iload_n hx hb dX11_owedOf_308 rfl (lv_at hl 6 rfl) ?_
                        refine lv_iconst (v := 0) hx hb dX11_owedOf_309 (by decide) ?_
                        refine lv_iconst (v := 0) hx hb dX11_owedOf_310 (by decide) ?_
                        have hFc := va_free (wc := (mW g0 pq cp v_50 fa_51)) hD hS hA (List.range 48) rfl
                        refine va_callv (va_runV (As := [.int x1, .int x2, .int x3, .int 0, .int 0]) (rest := []) ⟨hx, hb, hml, hown, hts⟩ (c_X11_puts_f l dC dI H.size g0 pq cp v_50 fa_51 hV_52 hA_53 x1 (by omega) x2 (by omega) x3 0 0 (wlA_fr hWl (sc_59.1 42 rfl) (sc_59.2 19 rfl) (sc_59.2 16 rfl))) (cwV 5 hts gX11_owedOf_X11_puts rfl rfl rfl (by decide +kernel) ⟨(Nat.le_of_ble_eq_true rfl), (Nat.le_of_ble_eq_true rfl)⟩) (pr_V (r := (RX11, TX11, 63)) hP hK hD 0 11 rfl rfl) rfl rfl hl.1 rfl (lv_room (Nat.le_of_ble_eq_true rfl)) dX11_owedOf_311 ⟨(Nat.le_of_ble_eq_true rfl), (Nat.le_of_ble_eq_true rfl)⟩) hS (fun q _ h => hFc q h) hFc (fun u t H locs ht hvm w_69 hB hz1 hk1 hS => ?_)
                        obtain ⟨v_71, fa_72⟩ := u
                        obtain ⟨hP1, hK1, hD1⟩ := hB
                        rw [ht] at hP1
                        have hP : va_P (dC, dI) vwCl (mW g0 pq cp v_71 fa_72) H := hP1
                        have hD : va_D A (mW g0 pq cp v_71 fa_72) := hD1.weaken (fun _ _ _ h => hFc _ h)
                        clear hP1 hK1 hD1 hk1 hz1 hvm ht hFc
                        obtain ⟨hV_73, hA_74, hR_75, hx_76⟩ := w_69
                        dsimp only at hV_73 hA_74 hR_75 hx_76
                        have g_77 : (fa_72 14 (r_64 : Int32).toNatClampNeg).toInt = (fa_51 14 (r_64 : Int32).toNatClampNeg).toInt := congrArg (fun h : Nat → Int32 => Int32.toInt (h (r_64 : Int32).toNatClampNeg)) (hR_75.2 14 rfl)
                        have g_78 : (fa_72 31 (x1 : Int32).toNatClampNeg).toInt = (fa_51 31 (x1 : Int32).toNatClampNeg).toInt := congrArg (fun h : Nat → Int32 => Int32.toInt (h (x1 : Int32).toNatClampNeg)) (hR_75.2 31 rfl)
                        have R_79 := scr.tr R_58 hR_75
                        try rw [show (0 : Int32).toInt = 0 from (by decide)] at hx_76
                        try rw [show (0 : Int32).toInt = 0 from (by decide)] at hx_76
                        have sc_80 := scr.tr sc_59 hR_75
                        have q0_81 : fa_72 0 = fa 0 := (hR_75.2 0 rfl).trans q0_60
                        refine lv_aload_n hx hb dX11_owedOf_314 rfl (lv_at hl 3 rfl) ?_
                        refine lv_iconst (v := 2) hx hb dX11_owedOf_315 (by decide) ?_
                        refine lv_iload_n hx hb dX11_owedOf_316 rfl (lv_at hl 5 rfl) ?_
                        have hFc := va_free (wc := (mW g0 pq cp v_71 fa_72)) hD hS hA (List.range 48) rfl
                        refine va_calli (va_runV (As := [.int 2, .int x2]) (rest := []) ⟨hx, hb, hml, hown, hts⟩ (c_X11_worth_f l dC dI H.size g0 pq cp v_71 fa_72 hV_73 hA_74 2 x2 (wlA_fr hWl (sc_80.1 42 rfl) (sc_80.2 19 rfl) (sc_80.2 16 rfl))) (cwV 2 hts gX11_owedOf_X11_worth rfl rfl rfl (by decide +kernel) ⟨(Nat.le_of_ble_eq_true rfl), (Nat.le_of_ble_eq_true rfl)⟩) (pr_V (r := (RX11, TX11, 63)) hP hK hD 0 11 rfl rfl) rfl rfl hl.1 rfl (lv_room (Nat.le_of_ble_eq_true rfl)) dX11_owedOf_317 ⟨(Nat.le_of_ble_eq_true rfl), (Nat.le_of_ble_eq_true rfl)⟩) hS (fun q _ h => hFc q h) hFc (fun r_83 u t H locs ht hvm w_82 hB hz1 hk1 hS => ?_)
                        obtain ⟨v_84, fa_85⟩ := u
                        obtain ⟨hP1, hK1, hD1⟩ := hB
                        rw [ht] at hP1
                        have hP : va_P (dC, dI) vwCl (mW g0 pq cp v_84 fa_85) H := hP1
                        have hD : va_D A (mW g0 pq cp v_84 fa_85) := hD1.weaken (fun _ _ _ h => hFc _ h)
                        clear hP1 hK1 hD1 hk1 hz1 hvm ht hFc
                        obtain ⟨hV_86, hA_87, hR_88, hx_89⟩ := w_82
                        dsimp only at hV_86 hA_87 hR_88 hx_89
                        have g_90 : (fa_85 14 (r_64 : Int32).toNatClampNeg).toInt = (fa_72 14 (r_64 : Int32).toNatClampNeg).toInt := congrArg (fun h : Nat → Int32 => Int32.toInt (h (r_64 : Int32).toNatClampNeg)) (hR_88.2 14 rfl)
                        have g_91 : (fa_85 31 (x1 : Int32).toNatClampNeg).toInt = (fa_72 31 (x1 : Int32).toNatClampNeg).toInt := congrArg (fun h : Nat → Int32 => Int32.toInt (h (x1 : Int32).toNatClampNeg)) (hR_88.2 31 rfl)
                        have R_92 := scr.tr R_79 hR_88
                        try rw [show (2 : Int32).toInt = 2 from (by decide)] at hx_89
                        have sc_93 := scr.tr sc_80 hR_88
                        have q0_94 : fa_85 0 = fa 0 := (hR_88.2 0 rfl).trans q0_81
                        refine lv_istore (lv' := [(7, .int r_83), (4, .long y_40), (6, .int r_24), (0, .ref g0), (1, .int x1), (2, .int x2), (3, .int x3)]) hx hb dX11_owedOf_320 hl (by decide) rfl (fun ls hl => ?_)
                        refine lv_iload hx hb dX11_owedOf_322 (lv_at hl 0 rfl) ?_
                        refine lv_if_ge (tgt := 331) hx hb dX11_owedOf_324 (by decide) (fun c_95 => ?_) (fun c_95 => ?_)
                        · have dc_95 := c_le (a := 0) (b := r_83.toInt) (by decide) rfl c_95
                          refine lv_iload hx hb dX11_owedOf_331 (lv_at hl 0 rfl) ?_
                          refine lv_bipush (v := 100) hx hb dX11_owedOf_333 (by decide) ?_
                          refine lv_icmp_le (tgt := 343) hx hb dX11_owedOf_335 (by decide) (fun c_96 => ?_) (fun c_96 => ?_)
                          · have dc_96 := c_le (a := r_83.toInt) (b := 100) rfl (by decide) c_96
                            refine lv_iload hx hb dX11_owedOf_343 (lv_at hl 0 rfl) ?_
                            refine lv_istore (lv' := [(7, .int r_83), (4, .long y_40), (6, .int r_24), (0, .ref g0), (1, .int x1), (2, .int x2), (3, .int x3)]) hx hb dX11_owedOf_345 hl (by decide) rfl (fun ls hl => ?_)
                            refine lv_lload hx hb dX11_owedOf_347 (lv_at hl 1 rfl) ?_
                            refine lv_lload hx hb dX11_owedOf_349 (lv_at hl 1 rfl) ?_
                            refine lv_iload hx hb dX11_owedOf_351 (lv_at hl 0 rfl) ?_
                            refine lv_i2l (v := (r_83 : Int32).toInt64) hx hb dX11_owedOf_353 rfl ?_
                            refine lv_topl (fun l_97 el_97 => ?_)
                            have hl_97 : l_97.toInt = r_83.toInt := by rw [el_97]; exact Int32.toInt_toInt64 _
                            refine lv_lmul hx hb dX11_owedOf_354 ?_
                            refine lv_topl (fun l_98 el_98 => ?_)
                            have hl_98 : l_98.toInt = y_40.toInt * l_97.toInt := by rw [el_98]; exact lmu_i rfl rfl (by omega) (by omega)
                            refine lv_ldc2 (v := 100) hx hb hown (hts (.constantLong RX11 310 (100)) (by decide +kernel)) dX11_owedOf_355 ?_
                            refine lv_ldiv hx hb dX11_owedOf_358 (by decide) ?_
                            refine lv_topl (fun l_99 el_99 => ?_)
                            have hl_99 : l_99.toInt = l_98.toInt.tdiv 100 := by rw [el_99]; exact ldv_i rfl (by decide) (by decide)
                            have hbl_99 := dm_b hl_99 hl_98 (by omega) (by omega)
                            refine lv_lsub hx hb dX11_owedOf_359 ?_
                            refine lv_topl (fun l_100 el_100 => ?_)
                            have hl_100 : l_100.toInt = y_40.toInt - l_99.toInt := by rw [el_100]; exact lsb_i rfl rfl (by omega) (by omega)
                            refine lv_l2i (v := (l_100 : Int64).toInt32) hx hb dX11_owedOf_360 rfl ?_
                            refine lv_topi (fun x_101 ex_101 => ?_)
                            exact W.iret (v := x_101) hx hb hr (fun t ht hW => ⟨⟨x_101, (v_84, fa_85), rfl, ⟨hV_86, hA_87, R_92, (by have eO : y_40.toInt = owV v fa x1.toNatClampNeg x2.toInt x3.toInt := (by have q := hq0_cut_38; rw [show y_39.toNatClampNeg = (fa 31 x1.toNatClampNeg).toNatClampNeg from (show y_39.toInt.toNat = (fa 31 x1.toNatClampNeg).toInt.toNat by omega)] at q; exact q); have hL9 := hx_76; rw [lP_s hWl sc_59] at hL9; (try rw [show x2 = x2 from Int32.toInt_inj.mp (by omega)] at hL9); (try rw [if_pos rfl] at hL9); have hw9 : r_83 = wrt v fa 2 x2.toInt (lP v fa x1.toNatClampNeg x2 x3.toInt 0 0) := (by rw [hx_89]; (try rw [show (2 : Int32).toInt = 2 from (by decide)]); exact wrt_c hWl (sc_80.1 42 rfl) (sc_80.2 19 rfl) (sc_80.2 16 rfl) (sc_80.2 17 rfl) (sc_80.2 18 rfl) hL9); have hi9 : r_83.toInt = ffW v fa x1.toNatClampNeg x2 x3.toInt := congrArg Int32.toInt hw9; have ef : r_83.toInt = clF (ffW v fa x1.toNatClampNeg x2 x3.toInt) := (by unfold clF; (repeat (first | rw [if_pos (by omega)] | rw [if_neg (by omega)])); (first | done | omega)); have em : l_99.toInt = (owV v fa x1.toNatClampNeg x2.toInt x3.toInt * clF (ffW v fa x1.toNatClampNeg x2 x3.toInt)).tdiv 100 := (by rw [hl_99, hl_98, hl_97, ← eO, ← ef]); have e9 := l2i_i ex_101 (a := l_100.toInt) rfl (by omega) (by omega); unfold owF; rw [if_neg (by omega), if_neg (by omega)]; omega)⟩, ⟨by rw [ht]; exact hP, va_K.moved hW.alike hK, hD⟩⟩, hS.F ht⟩) hS.2.2 dX11_owedOf_361
                          · have dc_96 := c_nle (a := r_83.toInt) (b := 100) rfl (by decide) c_96
                            refine lv_bipush (v := 100) hx hb dX11_owedOf_338 (by decide) ?_
                            refine lv_goto (tgt := 345) hx hb dX11_owedOf_340 (by decide) ?_
                            refine lv_istore (lv' := [(7, .int 100), (4, .long y_40), (6, .int r_24), (0, .ref g0), (1, .int x1), (2, .int x2), (3, .int x3)]) hx hb dX11_owedOf_345 hl (by decide) rfl (fun ls hl => ?_)
                            refine lv_lload hx hb dX11_owedOf_347 (lv_at hl 1 rfl) ?_
                            refine lv_lload hx hb dX11_owedOf_349 (lv_at hl 1 rfl) ?_
                            refine lv_iload hx hb dX11_owedOf_351 (lv_at hl 0 rfl) ?_
                            refine lv_i2l (v := (100 : Int32).toInt64) hx hb dX11_owedOf_353 rfl ?_
                            refine lv_topl (fun l_102 el_102 => ?_)
                            have hl_102 : l_102.toInt = 100 := by rw [el_102]; decide
                            refine lv_lmul hx hb dX11_owedOf_354 ?_
                            refine lv_topl (fun l_103 el_103 => ?_)
                            have hl_103 : l_103.toInt = y_40.toInt * l_102.toInt := by rw [el_103]; exact lmu_i rfl rfl (by omega) (by omega)
                            refine lv_ldc2 (v := 100) hx hb hown (hts (.constantLong RX11 310 (100)) (by decide +kernel)) dX11_owedOf_355 ?_
                            refine lv_ldiv hx hb dX11_owedOf_358 (by decide) ?_
                            refine lv_topl (fun l_104 el_104 => ?_)
                            have hl_104 : l_104.toInt = l_103.toInt.tdiv 100 := by rw [el_104]; exact ldv_i rfl (by decide) (by decide)
                            have hbl_104 := dm_b hl_104 hl_103 (by omega) (by omega)
                            refine lv_lsub hx hb dX11_owedOf_359 ?_
                            refine lv_topl (fun l_105 el_105 => ?_)
                            have hl_105 : l_105.toInt = y_40.toInt - l_104.toInt := by rw [el_105]; exact lsb_i rfl rfl (by omega) (by omega)
                            refine lv_l2i (v := (l_105 : Int64).toInt32) hx hb dX11_owedOf_360 rfl ?_
                            refine lv_topi (fun x_106 ex_106 => ?_)
                            exact W.iret (v := x_106) hx hb hr (fun t ht hW => ⟨⟨x_106, (v_84, fa_85), rfl, ⟨hV_86, hA_87, R_92, (by have eO : y_40.toInt = owV v fa x1.toNatClampNeg x2.toInt x3.toInt := (by have q := hq0_cut_38; rw [show y_39.toNatClampNeg = (fa 31 x1.toNatClampNeg).toNatClampNeg from (show y_39.toInt.toNat = (fa 31 x1.toNatClampNeg).toInt.toNat by omega)] at q; exact q); have hL9 := hx_76; rw [lP_s hWl sc_59] at hL9; (try rw [show x2 = x2 from Int32.toInt_inj.mp (by omega)] at hL9); (try rw [if_pos rfl] at hL9); have hw9 : r_83 = wrt v fa 2 x2.toInt (lP v fa x1.toNatClampNeg x2 x3.toInt 0 0) := (by rw [hx_89]; (try rw [show (2 : Int32).toInt = 2 from (by decide)]); exact wrt_c hWl (sc_80.1 42 rfl) (sc_80.2 19 rfl) (sc_80.2 16 rfl) (sc_80.2 17 rfl) (sc_80.2 18 rfl) hL9); have hi9 : r_83.toInt = ffW v fa x1.toNatClampNeg x2 x3.toInt := congrArg Int32.toInt hw9; have ef : 100 = clF (ffW v fa x1.toNatClampNeg x2 x3.toInt) := (by unfold clF; (repeat (first | rw [if_pos (by omega)] | rw [if_neg (by omega)])); (first | done | omega)); have em : l_104.toInt = (owV v fa x1.toNatClampNeg x2.toInt x3.toInt * clF (ffW v fa x1.toNatClampNeg x2 x3.toInt)).tdiv 100 := (by rw [hl_104, hl_103, hl_102, ← eO, ← ef]); have e9 := l2i_i ex_106 (a := l_105.toInt) rfl (by omega) (by omega); unfold owF; rw [if_neg (by omega), if_neg (by omega)]; omega)⟩, ⟨by rw [ht]; exact hP, va_K.moved hW.alike hK, hD⟩⟩, hS.F ht⟩) hS.2.2 dX11_owedOf_361
                        · have dc_95 := c_nle (a := 0) (b := r_83.toInt) (by decide) rfl c_95
                          refine lv_iconst (v := 0) hx hb dX11_owedOf_327 (by decide) ?_
                          refine lv_goto (tgt := 345) hx hb dX11_owedOf_328 (by decide) ?_
                          refine lv_istore (lv' := [(7, .int 0), (4, .long y_40), (6, .int r_24), (0, .ref g0), (1, .int x1), (2, .int x2), (3, .int x3)]) hx hb dX11_owedOf_345 hl (by decide) rfl (fun ls hl => ?_)
                          refine lv_lload hx hb dX11_owedOf_347 (lv_at hl 1 rfl) ?_
                          refine lv_lload hx hb dX11_owedOf_349 (lv_at hl 1 rfl) ?_
                          refine lv_iload hx hb dX11_owedOf_351 (lv_at hl 0 rfl) ?_
                          refine lv_i2l (v := (0 : Int32).toInt64) hx hb dX11_owedOf_353 rfl ?_
                          refine lv_topl (fun l_107 el_107 => ?_)
                          have hl_107 : l_107.toInt = 0 := by rw [el_107]; decide
                          refine lv_lmul hx hb dX11_owedOf_354 ?_
                          refine lv_topl (fun l_108 el_108 => ?_)
                          have hl_108 : l_108.toInt = y_40.toInt * l_107.toInt := by rw [el_108]; exact lmu_i rfl rfl (by omega) (by omega)
                          refine lv_ldc2 (v := 100) hx hb hown (hts (.constantLong RX11 310 (100)) (by decide +kernel)) dX11_owedOf_355 ?_
                          refine lv_ldiv hx hb dX11_owedOf_358 (by decide) ?_
                          refine lv_topl (fun l_109 el_109 => ?_)
                          have hl_109 : l_109.toInt = l_108.toInt.tdiv 100 := by rw [el_109]; exact ldv_i rfl (by decide) (by decide)
                          have hbl_109 := dm_b hl_109 hl_108 (by omega) (by omega)
                          refine lv_lsub hx hb dX11_owedOf_359 ?_
                          refine lv_topl (fun l_110 el_110 => ?_)
                          have hl_110 : l_110.toInt = y_40.toInt - l_109.toInt := by rw [el_110]; exact lsb_i rfl rfl (by omega) (by omega)
                          refine lv_l2i (v := (l_110 : Int64).toInt32) hx hb dX11_owedOf_360 rfl ?_
                          refine lv_topi (fun x_111 ex_111 => ?_)
                          exact W.iret (v := x_111) hx hb hr (fun t ht hW => ⟨⟨x_111, (v_84, fa_85), rfl, ⟨hV_86, hA_87, R_92, (by have eO : y_40.toInt = owV v fa x1.toNatClampNeg x2.toInt x3.toInt := (by have q := hq0_cut_38; rw [show y_39.toNatClampNeg = (fa 31 x1.toNatClampNeg).toNatClampNeg from (show y_39.toInt.toNat = (fa 31 x1.toNatClampNeg).toInt.toNat by omega)] at q; exact q); have hL9 := hx_76; rw [lP_s hWl sc_59] at hL9; (try rw [show x2 = x2 from Int32.toInt_inj.mp (by omega)] at hL9); (try rw [if_pos rfl] at hL9); have hw9 : r_83 = wrt v fa 2 x2.toInt (lP v fa x1.toNatClampNeg x2 x3.toInt 0 0) := (by rw [hx_89]; (try rw [show (2 : Int32).toInt = 2 from (by decide)]); exact wrt_c hWl (sc_80.1 42 rfl) (sc_80.2 19 rfl) (sc_80.2 16 rfl) (sc_80.2 17 rfl) (sc_80.2 18 rfl) hL9); have hi9 : r_83.toInt = ffW v fa x1.toNatClampNeg x2 x3.toInt := congrArg Int32.toInt hw9; have ef : 0 = clF (ffW v fa x1.toNatClampNeg x2 x3.toInt) := (by unfold clF; (repeat (first | rw [if_pos (by omega)] | rw [if_neg (by omega)])); (first | done | omega)); have em : l_109.toInt = (owV v fa x1.toNatClampNeg x2.toInt x3.toInt * clF (ffW v fa x1.toNatClampNeg x2 x3.toInt)).tdiv 100 := (by rw [hl_109, hl_108, hl_107, ← eO, ← ef]); have e9 := l2i_i ex_111 (a := l_110.toInt) rfl (by omega) (by omega); unfold owF; rw [if_neg (by omega), if_neg (by omega)]; omega)⟩, ⟨by rw [ht]; exact hP, va_K.moved hW.alike hK, hD⟩⟩, hS.F ht⟩) hS.2.2 dX11_owedOf_361
                      · have dc_68 := c_ne (a := x_67.toInt) (b := 0) rfl (by decide) c_68
                        refine lv_lload hx hb dX11_owedOf_301 (lv_at hl 1 rfl) ?_
                        refine lv_l2i (v := (y_40 : Int64).toInt32) hx hb dX11_owedOf_303 rfl ?_
                        refine lv_topi (fun x_112 ex_112 => ?_)
                        exact W.iret (v := x_112) hx hb hr (fun t ht hW => ⟨⟨x_112, (v_50, fa_51), rfl, ⟨hV_52, hA_53, R_58, (by have eO : y_40.toInt = owV v fa x1.toNatClampNeg x2.toInt x3.toInt := (by have q := hq0_cut_38; rw [show y_39.toNatClampNeg = (fa 31 x1.toNatClampNeg).toNatClampNeg from (show y_39.toInt.toNat = (fa 31 x1.toNatClampNeg).toInt.toNat by omega)] at q; exact q); have e9 := l2i_i ex_112 (a := y_40.toInt) rfl (by omega) (by omega); unfold owF; rw [if_neg (by omega), if_pos (by omega)]; omega)⟩, ⟨by rw [ht]; exact hP, va_K.moved hW.alike hK, hD⟩⟩, hS.F ht⟩) hS.2.2 dX11_owedOf_304
                · have dc_44 := c_nle (a := x_43.toInt) (b := y_39.toInt) rfl rfl c_44
                  refine lv_lload hx hb dX11_owedOf_224 (lv_at hl 1 rfl) ?_
                  refine lv_aload_n hx hb dX11_owedOf_226 rfl (lv_at hl 3 rfl) ?_
                  refine va_get (D := (dC, dI)) (ci := 11) (v := .ref (pq 35)) (C := RX11) (T := TX11) (N := 63) hx hb hts in_wsX11_owedOf_X11 hown hK hP 0 rfl rfl 35 (by decide) (hts (.fieldLink RX11 115 "ShipOfficeModel" "shortOn" "[I") iw_X11_owedOf_7) (fun _ h9 => h9) rfl dX11_owedOf_227 ?_
                  refine lv_bipush (v := 20) hx hb dX11_owedOf_230 (by decide) ?_
                  refine lv_iload_n hx hb dX11_owedOf_232 rfl (lv_at hl 4 rfl) ?_
                  refine lv_imul hx hb dX11_owedOf_233 ?_
                  refine lv_topi (fun x_113 ex_113 => ?_)
                  have hx_113 : x_113.toInt = 20 * x1.toInt := (iv_to ex_113).trans (mu_i (by decide) rfl (by omega) (by omega))
                  refine lv_iload hx hb dX11_owedOf_234 (lv_at hl 0 rfl) ?_
                  refine lv_iadd hx hb dX11_owedOf_236 ?_
                  refine lv_topi (fun x_114 ex_114 => ?_)
                  have hx_114 : x_114.toInt = x_113.toInt + y_39.toInt := (iv_to ex_114).trans (ad_i rfl rfl (by omega) (by omega))
                  refine va_iald hx hb hK hP 36 35 rfl rfl (vp_in_iff.mpr (by omega)) dX11_owedOf_237 ?_
                  refine lv_topi (fun x_115 ex_115 => ?_)
                  have gx_115 : x_115.toInt = (fz_42 35 (x_114 : Int32).toNatClampNeg).toInt := iv_to ex_115
                  clear ex_115
                  rw [show fz_42 35 = fa 35 from hRz_41.2 35 rfl] at gx_115
                  rw [show (x_114 : Int32).toNatClampNeg = 20 * x1.toNatClampNeg + y_39.toNatClampNeg from (show x_114.toInt.toNat = 20 * x1.toInt.toNat + y_39.toInt.toNat by omega)] at gx_115
                  refine lv_iload_n hx hb dX11_owedOf_238 rfl (lv_at hl 6 rfl) ?_
                  refine lv_icmp_gt (tgt := 258) hx hb dX11_owedOf_239 (by decide) (fun c_116 => ?_) (fun c_116 => ?_)
                  · have dc_116 := c_lt (a := x3.toInt) (b := x_115.toInt) rfl rfl c_116
                    refine lv_lconst (v := 0) hx hb dX11_owedOf_258 (by decide) ?_
                    refine lv_ladd hx hb dX11_owedOf_259 ?_
                    refine lv_topl (fun l_117 el_117 => ?_)
                    have hl_117 : l_117.toInt = y_40.toInt + 0 := by rw [el_117]; exact lad_i rfl (by decide) (by omega) (by omega)
                    refine lv_lstore (lv' := [(4, .long l_117), (7, .int y_39), (6, .int r_24), (0, .ref g0), (1, .int x1), (2, .int x2), (3, .int x3)]) hx hb dX11_owedOf_260 hl (by decide) rfl (fun ls hl => ?_)
                    obtain ⟨x_118, ex_118⟩ : ∃ zq : Int32, y_39 + 1 = zq := ⟨_, rfl⟩
                    have hx_118 : x_118.toInt = y_39.toInt + 1 := (iv_to ex_118).symm.trans (ad_i rfl (by decide) (by omega) (by omega))
                    refine lv_iinc (v := x_118) (lv' := [(7, .int x_118), (4, .long l_117), (6, .int r_24), (0, .ref g0), (1, .int x1), (2, .int x2), (3, .int x3)]) hx hb dX11_owedOf_262 hl (k := 1) rfl ex_118 (by decide) rfl (fun ls hl => ?_)
                    clear ex_118
                    refine lv_goto (tgt := 213) hx hb dX11_owedOf_265 (by decide) ?_
                    exact ih2 (n2 - 1) (by omega) x_118 l_117 z_41 fz_42 _ _ ls (by omega) (by omega) (sh_s hq0_cut_38 (by omega) (by omega) (by omega)) (by omega) hVz_41 hAz_41 hRz_41 hP hD hS (lv_sub hl [0, 1, 2, 3, 4, 5, 6] rfl)
                  · have dc_116 := c_nlt (a := x3.toInt) (b := x_115.toInt) rfl rfl c_116
                    refine lv_aload_n hx hb dX11_owedOf_242 rfl (lv_at hl 3 rfl) ?_
                    refine va_get (D := (dC, dI)) (ci := 11) (v := .ref (pq 36)) (C := RX11) (T := TX11) (N := 63) hx hb hts in_wsX11_owedOf_X11 hown hK hP 0 rfl rfl 36 (by decide) (hts (.fieldLink RX11 118 "ShipOfficeModel" "shortSum" "[I") iw_X11_owedOf_8) (fun _ h9 => h9) rfl dX11_owedOf_243 ?_
                    refine lv_bipush (v := 20) hx hb dX11_owedOf_246 (by decide) ?_
                    refine lv_iload_n hx hb dX11_owedOf_248 rfl (lv_at hl 4 rfl) ?_
                    refine lv_imul hx hb dX11_owedOf_249 ?_
                    refine lv_topi (fun x_119 ex_119 => ?_)
                    have hx_119 : x_119.toInt = 20 * x1.toInt := (iv_to ex_119).trans (mu_i (by decide) rfl (by omega) (by omega))
                    refine lv_iload hx hb dX11_owedOf_250 (lv_at hl 0 rfl) ?_
                    refine lv_iadd hx hb dX11_owedOf_252 ?_
                    refine lv_topi (fun x_120 ex_120 => ?_)
                    have hx_120 : x_120.toInt = x_119.toInt + y_39.toInt := (iv_to ex_120).trans (ad_i rfl rfl (by omega) (by omega))
                    refine va_iald hx hb hK hP 37 36 rfl rfl (vp_in_iff.mpr (by omega)) dX11_owedOf_253 ?_
                    refine lv_topi (fun x_121 ex_121 => ?_)
                    have gx_121 : x_121.toInt = (fz_42 36 (x_120 : Int32).toNatClampNeg).toInt := iv_to ex_121
                    clear ex_121
                    rw [show fz_42 36 = fa 36 from hRz_41.2 36 rfl] at gx_121
                    rw [show (x_120 : Int32).toNatClampNeg = 20 * x1.toNatClampNeg + y_39.toNatClampNeg from (show x_120.toInt.toNat = 20 * x1.toInt.toNat + y_39.toInt.toNat by omega)] at gx_121
                    have hbs252 := hOw.2.2.2.2 y_39.toNatClampNeg (show y_39.toInt.toNat < (fa 31 x1.toNatClampNeg).toInt.toNat by omega)
                    refine lv_i2l (v := (x_121 : Int32).toInt64) hx hb dX11_owedOf_254 rfl ?_
                    refine lv_topl (fun l_122 el_122 => ?_)
                    have hl_122 : l_122.toInt = x_121.toInt := by rw [el_122]; exact Int32.toInt_toInt64 _
                    refine lv_goto (tgt := 259) hx hb dX11_owedOf_255 (by decide) ?_
                    refine lv_ladd hx hb dX11_owedOf_259 ?_
                    refine lv_topl (fun l_123 el_123 => ?_)
                    have hl_123 : l_123.toInt = y_40.toInt + l_122.toInt := by rw [el_123]; exact lad_i rfl rfl (by omega) (by omega)
                    refine lv_lstore (lv' := [(4, .long l_123), (7, .int y_39), (6, .int r_24), (0, .ref g0), (1, .int x1), (2, .int x2), (3, .int x3)]) hx hb dX11_owedOf_260 hl (by decide) rfl (fun ls hl => ?_)
                    obtain ⟨x_124, ex_124⟩ : ∃ zq : Int32, y_39 + 1 = zq := ⟨_, rfl⟩
                    have hx_124 : x_124.toInt = y_39.toInt + 1 := (iv_to ex_124).symm.trans (ad_i rfl (by decide) (by omega) (by omega))
                    refine lv_iinc (v := x_124) (lv' := [(7, .int x_124), (4, .long l_123), (6, .int r_24), (0, .ref g0), (1, .int x1), (2, .int x2), (3, .int x3)]) hx hb dX11_owedOf_262 hl (k := 1) rfl ex_124 (by decide) rfl (fun ls hl => ?_)
                    clear ex_124
                    refine lv_goto (tgt := 213) hx hb dX11_owedOf_265 (by decide) ?_
                    exact ih2 (n2 - 1) (by omega) x_124 l_123 z_41 fz_42 _ _ ls (by omega) (by omega) (sh_s hq0_cut_38 (by omega) (by omega) (by omega)) (by omega) hVz_41 hAz_41 hRz_41 hP hD hS (lv_sub hl [0, 1, 2, 3, 4, 5, 6] rfl)
            have kc_125 : (0 : Int32).toInt = 0 := by decide
            exact cut_38 21 0 y_33 z_34 fz_35 _ _ ls (by omega) (by decide) (sm_0 (g := shF fa x1.toNatClampNeg x3.toInt) (by decide) rfl (by have q := hq0_cut_31; rw [show y_32.toNatClampNeg = (fa 30 x1.toNatClampNeg).toNatClampNeg from (show y_32.toInt.toNat = (fa 30 x1.toNatClampNeg).toInt.toNat by omega)] at q; exact q)).2 (by have rc : (0 : Int32).toInt = 0 := (by decide); omega) hVz_34 hAz_34 hRz_34 hP hD hS (lv_sub hl [0, 1, 2, 3, 4, 5, 6] rfl)
          · have dc_37 := c_nle (a := x_36.toInt) (b := y_32.toInt) rfl rfl c_37
            refine lv_lload hx hb dX11_owedOf_170 (lv_at hl 1 rfl) ?_
            refine lv_aload_n hx hb dX11_owedOf_172 rfl (lv_at hl 3 rfl) ?_
            refine va_get (D := (dC, dI)) (ci := 11) (v := .ref (pq 33)) (C := RX11) (T := TX11) (N := 63) hx hb hts in_wsX11_owedOf_X11 hown hK hP 0 rfl rfl 33 (by decide) (hts (.fieldLink RX11 109 "ShipOfficeModel" "fineDay" "[I") iw_X11_owedOf_9) (fun _ h9 => h9) rfl dX11_owedOf_173 ?_
            refine lv_bipush (v := 6) hx hb dX11_owedOf_176 (by decide) ?_
            refine lv_iload_n hx hb dX11_owedOf_178 rfl (lv_at hl 4 rfl) ?_
            refine lv_imul hx hb dX11_owedOf_179 ?_
            refine lv_topi (fun x_126 ex_126 => ?_)
            have hx_126 : x_126.toInt = 6 * x1.toInt := (iv_to ex_126).trans (mu_i (by decide) rfl (by omega) (by omega))
            refine lv_iload hx hb dX11_owedOf_180 (lv_at hl 0 rfl) ?_
            refine lv_iadd hx hb dX11_owedOf_182 ?_
            refine lv_topi (fun x_127 ex_127 => ?_)
            have hx_127 : x_127.toInt = x_126.toInt + y_32.toInt := (iv_to ex_127).trans (ad_i rfl rfl (by omega) (by omega))
            refine va_iald hx hb hK hP 34 33 rfl rfl (vp_in_iff.mpr (by omega)) dX11_owedOf_183 ?_
            refine lv_topi (fun x_128 ex_128 => ?_)
            have hx_128 : 0 ≤ x_128.toInt ∧ x_128.toInt ≤ 3000 := iv_of ex_128 (hAz_34 33 _)
            have gx_128 : x_128.toInt = (fz_35 33 (x_127 : Int32).toNatClampNeg).toInt := iv_to ex_128
            clear ex_128
            rw [show fz_35 33 = fa 33 from hRz_34.2 33 rfl] at gx_128
            rw [show (x_127 : Int32).toNatClampNeg = 6 * x1.toNatClampNeg + y_32.toNatClampNeg from (show x_127.toInt.toNat = 6 * x1.toInt.toNat + y_32.toInt.toNat by omega)] at gx_128
            refine lv_iload_n hx hb dX11_owedOf_184 rfl (lv_at hl 5 rfl) ?_
            refine lv_icmp_gt (tgt := 200) hx hb dX11_owedOf_185 (by decide) (fun c_129 => ?_) (fun c_129 => ?_)
            · have dc_129 := c_lt (a := x2.toInt) (b := x_128.toInt) rfl rfl c_129
              refine lv_lconst (v := 0) hx hb dX11_owedOf_200 (by decide) ?_
              refine lv_lsub hx hb dX11_owedOf_201 ?_
              refine lv_topl (fun l_130 el_130 => ?_)
              have hl_130 : l_130.toInt = y_33.toInt - 0 := by rw [el_130]; exact lsb_i rfl (by decide) (by omega) (by omega)
              refine lv_lstore (lv' := [(4, .long l_130), (7, .int y_32), (6, .int r_24), (0, .ref g0), (1, .int x1), (2, .int x2), (3, .int x3)]) hx hb dX11_owedOf_202 hl (by decide) rfl (fun ls hl => ?_)
              obtain ⟨x_131, ex_131⟩ : ∃ zq : Int32, y_32 + 1 = zq := ⟨_, rfl⟩
              have hx_131 : x_131.toInt = y_32.toInt + 1 := (iv_to ex_131).symm.trans (ad_i rfl (by decide) (by omega) (by omega))
              refine lv_iinc (v := x_131) (lv' := [(7, .int x_131), (4, .long l_130), (6, .int r_24), (0, .ref g0), (1, .int x1), (2, .int x2), (3, .int x3)]) hx hb dX11_owedOf_204 hl (k := 1) rfl ex_131 (by decide) rfl (fun ls hl => ?_)
              clear ex_131
              refine lv_goto (tgt := 159) hx hb dX11_owedOf_207 (by decide) ?_
              exact ih (n - 1) (by omega) x_131 l_130 z_34 fz_35 _ _ ls (by omega) (by omega) (fn_s hq0_cut_31 (by omega) (by omega) (by omega)) (by omega) hVz_34 hAz_34 hRz_34 hP hD hS (lv_sub hl [0, 1, 2, 3, 4, 5, 6] rfl)
            · have dc_129 := c_nlt (a := x2.toInt) (b := x_128.toInt) rfl rfl c_129
              refine lv_aload_n hx hb dX11_owedOf_188 rfl (lv_at hl 3 rfl) ?_
              refine lv_iload_n hx hb dX11_owedOf_189 rfl (lv_at hl 4 rfl) ?_
              refine lv_iload hx hb dX11_owedOf_190 (lv_at hl 0 rfl) ?_
              refine lv_iload_n hx hb dX11_owedOf_192 rfl (lv_at hl 6 rfl) ?_
              have hFc := va_free (wc := (mW g0 pq cp z_34 fz_35)) hD hS hA (List.range 48) rfl
              refine va_calli (va_runV (As := [.int x1, .int y_32, .int x3]) (rest := [.long y_33]) ⟨hx, hb, hml, hown, hts⟩ (c_X11_standsOf_f l dC dI H.size g0 pq cp z_34 fz_35 hVz_34 hAz_34 x1 (by omega) y_32 (by omega) x3 (wlA_fr hWl (hRz_34.1 42 rfl) (hRz_34.2 19 rfl) (hRz_34.2 16 rfl))) (cwV 3 hts gX11_owedOf_X11_standsOf rfl rfl rfl (by decide +kernel) ⟨(Nat.le_of_ble_eq_true rfl), (Nat.le_of_ble_eq_true rfl)⟩) (pr_V (r := (RX11, TX11, 63)) hP hK hD 0 11 rfl rfl) rfl rfl hl.1 rfl (lv_room (Nat.le_of_ble_eq_true rfl)) dX11_owedOf_193 ⟨(Nat.le_of_ble_eq_true rfl), (Nat.le_of_ble_eq_true rfl)⟩) hS (fun q _ h => hFc q h) hFc (fun r_133 u t H locs ht hvm w_132 hB hz1 hk1 hS => ?_)
              obtain ⟨v_134, fa_135⟩ := u
              obtain ⟨hP1, hK1, hD1⟩ := hB
              rw [ht] at hP1
              have hP : va_P (dC, dI) vwCl (mW g0 pq cp v_134 fa_135) H := hP1
              have hD : va_D A (mW g0 pq cp v_134 fa_135) := hD1.weaken (fun _ _ _ h => hFc _ h)
              clear hP1 hK1 hD1 hk1 hz1 hvm ht hFc
              obtain ⟨hV_136, hA_137, hR_138, hx_139⟩ := w_132
              dsimp only at hV_136 hA_137 hR_138 hx_139
              have g_140 : (fa_135 30 (x1 : Int32).toNatClampNeg).toInt = (fz_35 30 (x1 : Int32).toNatClampNeg).toInt := congrArg (fun h : Nat → Int32 => Int32.toInt (h (x1 : Int32).toNatClampNeg)) (hR_138.2 30 rfl)
              have g_141 : (fa_135 33 (x_127 : Int32).toNatClampNeg).toInt = (fz_35 33 (x_127 : Int32).toNatClampNeg).toInt := congrArg (fun h : Nat → Int32 => Int32.toInt (h (x_127 : Int32).toNatClampNeg)) (hR_138.2 33 rfl)
              have R_142 := scr.tr hRz_34 hR_138
              have sc_143 := scr.tr hRz_34 hR_138
              have q0_144 : fa_135 0 = fa 0 := (hR_138.2 0 rfl).trans (hRz_34.2 0 rfl)
              rw [stV_s hWl hRz_34] at hx_139
              have hsv9 := stV_b (v := v) (a := x1.toNatClampNeg) (k := x3.toInt) (hOw.2.2.2.1 (y_32 : Int32).toNatClampNeg (show (y_32 : Int32).toInt.toNat < (fa 30 x1.toNatClampNeg).toInt.toNat by omega))
              refine lv_i2l (v := (r_133 : Int32).toInt64) hx hb dX11_owedOf_196 rfl ?_
              refine lv_topl (fun l_145 el_145 => ?_)
              have hl_145 : l_145.toInt = r_133.toInt := by rw [el_145]; exact Int32.toInt_toInt64 _
              refine lv_goto (tgt := 201) hx hb dX11_owedOf_197 (by decide) ?_
              refine lv_lsub hx hb dX11_owedOf_201 ?_
              refine lv_topl (fun l_146 el_146 => ?_)
              have hl_146 : l_146.toInt = y_33.toInt - l_145.toInt := by rw [el_146]; exact lsb_i rfl rfl (by omega) (by omega)
              refine lv_lstore (lv' := [(4, .long l_146), (7, .int y_32), (6, .int r_24), (0, .ref g0), (1, .int x1), (2, .int x2), (3, .int x3)]) hx hb dX11_owedOf_202 hl (by decide) rfl (fun ls hl => ?_)
              obtain ⟨x_147, ex_147⟩ : ∃ zq : Int32, y_32 + 1 = zq := ⟨_, rfl⟩
              have hx_147 : x_147.toInt = y_32.toInt + 1 := (iv_to ex_147).symm.trans (ad_i rfl (by decide) (by omega) (by omega))
              refine lv_iinc (v := x_147) (lv' := [(7, .int x_147), (4, .long l_146), (6, .int r_24), (0, .ref g0), (1, .int x1), (2, .int x2), (3, .int x3)]) hx hb dX11_owedOf_204 hl (k := 1) rfl ex_147 (by decide) rfl (fun ls hl => ?_)
              clear ex_147
              refine lv_goto (tgt := 159) hx hb dX11_owedOf_207 (by decide) ?_
              exact ih (n - 1) (by omega) x_147 l_146 v_134 fa_135 _ _ ls (by omega) (by omega) (fn_s hq0_cut_31 (by omega) (by omega) (by omega)) (by omega) hV_136 hA_137 R_142 hP hD hS (lv_sub hl [0, 1, 2, 3, 4, 5, 6] rfl)
      have kc_148 : (0 : Int32).toInt = 0 := by decide
      exact cut_31 7 0 y_28 z_29 fz_30 _ _ ls (by omega) (by decide) (sm_0 (g := fnF v fa x1.toNatClampNeg x2.toInt x3.toInt) (by decide) rfl (by omega)).1 (by have rc : (0 : Int32).toInt = 0 := (by decide); omega) hVz_29 hAz_29 hRz_29 hP hD hS (lv_sub hl [0, 1, 2, 3, 4, 5, 6] rfl)
    have cut_149 : ∀ (y_150 : Int64) (z_151 : Nat → Int32) (fz_152 : Nat → Nat → Int32) (H : Heap) (locs : List Loc) (ls : Array Slot), y_150.toInt = ((bsF v fa x1.toNatClampNeg x2.toInt x3.toInt) - (nvF v fa x1.toNatClampNeg x2.toInt x3.toInt)) → mV z_151 → mA fz_152 → scr v fa z_151 fz_152 → va_P (dC, dI) vwCl (mW g0 pq cp z_151 fz_152) H → va_D A (mW g0 pq cp z_151 fz_152) → va_S A s.heap H locs → lv_has ls 8 [(4, .long y_150), (6, .int r_24), (0, .ref g0), (1, .int x1), (2, .int x2), (3, .int x3)] → W p l e (headSpec wsX11_owedOf { frames := 26, cells := 0, slots := 0, locals := 611 }).room s m #[Value.ref g0, Value.int x1, Value.int x2, Value.int x3] below meth c H locs 0 0 (MQ below (va_Qi (fun (r : Int32) (u : (Nat → Int32) × (Nat → Nat → Int32)) => mV u.1 ∧ mA u.2 ∧ scr v fa u.1 u.2 ∧ (r.toInt = owF v fa x1.toNatClampNeg x2 x3.toInt)) (fun u t => va_P (dC, dI) vwCl (mW g0 pq cp u.1 u.2) t.heap ∧ va_K (dC, dI) vwCl (mT cp) t ∧ va_D A (mW g0 pq cp u.1 u.2)) A) #[Value.ref g0, Value.int x1, Value.int x2, Value.int x3] s 0 0 A) (F0 m 95 ls []) := by
      intro y_150 z_151 fz_152 H locs ls hq0_cut_149 hVz_151 hAz_151 hRz_151 hP hD hS hl
      refine lv_iload hx hb dX11_owedOf_95 (lv_at hl 1 rfl) ?_
      refine lv_bipush (v := 30) hx hb dX11_owedOf_97 (by decide) ?_
      refine lv_iadd hx hb dX11_owedOf_99 ?_
      refine lv_topi (fun x_153 ex_153 => ?_)
      have hx_153 : x_153.toInt = r_24.toInt + 30 := (iv_to ex_153).trans (ad_i rfl (by decide) (by omega) (by omega))
      refine lv_istore (lv' := [(7, .int x_153), (4, .long y_150), (6, .int r_24), (0, .ref g0), (1, .int x1), (2, .int x2), (3, .int x3)]) hx hb dX11_owedOf_100 hl (by decide) rfl (fun ls hl => ?_)
      have cut_154 : ∀ (n : Nat) (y_155 : Int32) (y_156 : Int64) (z_157 : Nat → Int32) (fz_158 : Nat → Nat → Int32) (H : Heap) (locs : List Loc) (ls : Array Slot), 3030 - y_155.toInt ≤ (n : Int) → (29 ≤ y_155.toInt ∧ y_155.toInt ≤ 3030) → atI v fa x1.toNatClampNeg (slO v fa (fa 21 x1.toNatClampNeg).toInt x3.toInt) x2.toInt x3.toInt ((bsF v fa x1.toNatClampNeg x2.toInt x3.toInt) - (nvF v fa x1.toNatClampNeg x2.toInt x3.toInt)) y_155.toInt y_156.toInt → mV z_157 → mA fz_158 → scr v fa z_157 fz_158 → va_P (dC, dI) vwCl (mW g0 pq cp z_157 fz_158) H → va_D A (mW g0 pq cp z_157 fz_158) → va_S A s.heap H locs → lv_has ls 8 [(7, .int y_155), (4, .long y_156), (6, .int r_24), (0, .ref g0), (1, .int x1), (2, .int x2), (3, .int x3)] → W p l e (headSpec wsX11_owedOf { frames := 26, cells := 0, slots := 0, locals := 611 }).room s m #[Value.ref g0, Value.int x1, Value.int x2, Value.int x3] below meth c H locs 0 0 (MQ below (va_Qi (fun (r : Int32) (u : (Nat → Int32) × (Nat → Nat → Int32)) => mV u.1 ∧ mA u.2 ∧ scr v fa u.1 u.2 ∧ (r.toInt = owF v fa x1.toNatClampNeg x2 x3.toInt)) (fun u t => va_P (dC, dI) vwCl (mW g0 pq cp u.1 u.2) t.heap ∧ va_K (dC, dI) vwCl (mT cp) t ∧ va_D A (mW g0 pq cp u.1 u.2)) A) #[Value.ref g0, Value.int x1, Value.int x2, Value.int x3] s 0 0 A) (F0 m 102 ls []) := by
        intro n
        induction n using Nat.strongRecOn with
        | ind n ih =>
          intro y_155 y_156 z_157 fz_158 H locs ls hm hy_155 hq0_cut_154 hVz_157 hAz_157 hRz_157 hP hD hS hl
          have hb102 := atI_b hq0_cut_154 hOw
          refine lv_iload hx hb dX11_owedOf_102 (lv_at hl 2 rfl) ?_
          refine lv_if_lt (tgt := 156) hx hb dX11_owedOf_104 (by decide) (fun c_159 => ?_) (fun c_159 => ?_)
          · have dc_159 := c_lt (a := r_24.toInt) (b := 0) rfl (by decide) c_159
            exact cut_27 y_156 z_157 fz_158 _ _ ls (by have q := atI_e hq0_cut_154 (by omega); omega) hVz_157 hAz_157 hRz_157 hP hD hS (lv_sub hl [1, 2, 3, 4, 5, 6] rfl)
          · have dc_159 := c_nlt (a := r_24.toInt) (b := 0) rfl (by decide) c_159
            refine lv_aload_n hx hb dX11_owedOf_107 rfl (lv_at hl 3 rfl) ?_
            refine va_get (D := (dC, dI)) (ci := 11) (v := .ref (pq 29)) (C := RX11) (T := TX11) (N := 63) hx hb hts in_wsX11_owedOf_X11 hown hK hP 0 rfl rfl 29 (by decide) (hts (.fieldLink RX11 97 "ShipOfficeModel" "allotted" "[I") iw_X11_owedOf_10) (fun _ h9 => h9) rfl dX11_owedOf_108 ?_
            refine lv_iload_n hx hb dX11_owedOf_111 rfl (lv_at hl 4 rfl) ?_
            refine va_iald hx hb hK hP 30 29 rfl rfl (vp_in_iff.mpr (by omega)) dX11_owedOf_112 ?_
            refine lv_topi (fun x_160 ex_160 => ?_)
            have gx_160 : x_160.toInt = (fz_158 29 (x1 : Int32).toNatClampNeg).toInt := iv_to ex_160
            clear ex_160
            rw [show fz_158 29 = fa 29 from hRz_157.2 29 rfl] at gx_160
            refine lv_if_le (tgt := 156) hx hb dX11_owedOf_113 (by decide) (fun c_161 => ?_) (fun c_161 => ?_)
            · have dc_161 := c_le (a := x_160.toInt) (b := 0) rfl (by decide) c_161
              exact cut_27 y_156 z_157 fz_158 _ _ ls (by have q := atI_e hq0_cut_154 (by omega); omega) hVz_157 hAz_157 hRz_157 hP hD hS (lv_sub hl [1, 2, 3, 4, 5, 6] rfl)
            · have dc_161 := c_nle (a := x_160.toInt) (b := 0) rfl (by decide) c_161
              refine lv_iload hx hb dX11_owedOf_116 (lv_at hl 0 rfl) ?_
              refine lv_iload_n hx hb dX11_owedOf_118 rfl (lv_at hl 5 rfl) ?_
              refine lv_icmp_gt (tgt := 156) hx hb dX11_owedOf_119 (by decide) (fun c_162 => ?_) (fun c_162 => ?_)
              · have dc_162 := c_lt (a := x2.toInt) (b := y_155.toInt) rfl rfl c_162
                exact cut_27 y_156 z_157 fz_158 _ _ ls (by have q := atI_e hq0_cut_154 (by omega); omega) hVz_157 hAz_157 hRz_157 hP hD hS (lv_sub hl [1, 2, 3, 4, 5, 6] rfl)
              · have dc_162 := c_nlt (a := x2.toInt) (b := y_155.toInt) rfl rfl c_162
                refine lv_lload hx hb dX11_owedOf_122 (lv_at hl 1 rfl) ?_
                refine lv_aload_n hx hb dX11_owedOf_124 rfl (lv_at hl 3 rfl) ?_
                refine lv_iload_n hx hb dX11_owedOf_125 rfl (lv_at hl 4 rfl) ?_
                refine lv_iload hx hb dX11_owedOf_126 (lv_at hl 0 rfl) ?_
                refine lv_iload_n hx hb dX11_owedOf_128 rfl (lv_at hl 6 rfl) ?_
                have hFc := va_free (wc := (mW g0 pq cp z_157 fz_158)) hD hS hA (List.range 48) rfl
                refine va_calli (va_runV (As := [.int x1, .int y_155, .int x3]) (rest := [.long y_156]) ⟨hx, hb, hml, hown, hts⟩ (c_X11_stateOf_f l dC dI H.size g0 pq cp z_157 fz_158 hVz_157 hAz_157 x1 (by omega) y_155 (by omega) x3 (wlA_fr hWl (hRz_157.1 42 rfl) (hRz_157.2 19 rfl) (hRz_157.2 16 rfl))) (cwV 3 hts gX11_owedOf_X11_stateOf rfl rfl rfl (by decide +kernel) ⟨(Nat.le_of_ble_eq_true rfl), (Nat.le_of_ble_eq_true rfl)⟩) (pr_V (r := (RX11, TX11, 63)) hP hK hD 0 11 rfl rfl) rfl rfl hl.1 rfl (lv_room (Nat.le_of_ble_eq_true rfl)) dX11_owedOf_129 ⟨(Nat.le_of_ble_eq_true rfl), (Nat.le_of_ble_eq_true rfl)⟩) hS (fun q _ h => hFc q h) hFc (fun r_164 u t H locs ht hvm w_163 hB hz1 hk1 hS => ?_)
                obtain ⟨v_165, fa_166⟩ := u
                obtain ⟨hP1, hK1, hD1⟩ := hB
                rw [ht] at hP1
                have hP : va_P (dC, dI) vwCl (mW g0 pq cp v_165 fa_166) H := hP1
                have hD : va_D A (mW g0 pq cp v_165 fa_166) := hD1.weaken (fun _ _ _ h => hFc _ h)
                clear hP1 hK1 hD1 hk1 hz1 hvm ht hFc
                obtain ⟨hV_167, hA_168, hR_169, hb_170, hx_171⟩ := w_163
                dsimp only at hV_167 hA_168 hR_169 hb_170 hx_171
                have g_172 : (fa_166 29 (x1 : Int32).toNatClampNeg).toInt = (fz_158 29 (x1 : Int32).toNatClampNeg).toInt := congrArg (fun h : Nat → Int32 => Int32.toInt (h (x1 : Int32).toNatClampNeg)) (hR_169.2 29 rfl)
                have R_173 := scr.tr hRz_157 hR_169
                have sc_174 := scr.tr hRz_157 hR_169
                have q0_175 : fa_166 0 = fa 0 := (hR_169.2 0 rfl).trans (hRz_157.2 0 rfl)
                rw [stF_s hWl hRz_157] at hx_171
                refine lv_iconst (v := 1) hx hb dX11_owedOf_132 (by decide) ?_
                refine lv_icmp_ne (tgt := 146) hx hb dX11_owedOf_133 (by decide) (fun c_176 => ?_) (fun c_176 => ?_)
                · have dc_176 := c_ne (a := r_164.toInt) (b := 1) rfl (by decide) c_176
                  refine lv_lconst (v := 0) hx hb dX11_owedOf_146 (by decide) ?_
                  refine lv_lsub hx hb dX11_owedOf_147 ?_
                  refine lv_topl (fun l_177 el_177 => ?_)
                  have hl_177 : l_177.toInt = y_156.toInt - 0 := by rw [el_177]; exact lsb_i rfl (by decide) (by omega) (by omega)
                  refine lv_lstore (lv' := [(4, .long l_177), (7, .int y_155), (6, .int r_24), (0, .ref g0), (1, .int x1), (2, .int x2), (3, .int x3)]) hx hb dX11_owedOf_148 hl (by decide) rfl (fun ls hl => ?_)
                  obtain ⟨x_178, ex_178⟩ : ∃ zq : Int32, y_155 + 30 = zq := ⟨_, rfl⟩
                  have hx_178 : x_178.toInt = y_155.toInt + 30 := (iv_to ex_178).symm.trans (ad_i rfl (by decide) (by omega) (by omega))
                  refine lv_iinc (v := x_178) (lv' := [(7, .int x_178), (4, .long l_177), (6, .int r_24), (0, .ref g0), (1, .int x1), (2, .int x2), (3, .int x3)]) hx hb dX11_owedOf_150 hl (k := 1) rfl ex_178 (by decide) rfl (fun ls hl => ?_)
                  clear ex_178
                  refine lv_goto (tgt := 102) hx hb dX11_owedOf_153 (by decide) ?_
                  exact ih (n - 1) (by omega) x_178 l_177 v_165 fa_166 _ _ ls (by omega) (by omega) (atI_s hq0_cut_154 (by omega) (by omega) (by omega) (by omega) (by omega) (by omega)) hV_167 hA_168 R_173 hP hD hS (lv_sub hl [0, 1, 2, 3, 4, 5, 6] rfl)
                · have dc_176 := c_eq (a := r_164.toInt) (b := 1) rfl (by decide) c_176
                  refine lv_aload_n hx hb dX11_owedOf_136 rfl (lv_at hl 3 rfl) ?_
                  refine va_get (D := (dC, dI)) (ci := 11) (v := .ref (pq 29)) (C := RX11) (T := TX11) (N := 63) hx hb hts in_wsX11_owedOf_X11 hown hK hP 0 rfl rfl 29 (by decide) (hts (.fieldLink RX11 97 "ShipOfficeModel" "allotted" "[I") iw_X11_owedOf_10) (fun _ h9 => h9) rfl dX11_owedOf_137 ?_
                  refine lv_iload_n hx hb dX11_owedOf_140 rfl (lv_at hl 4 rfl) ?_
                  refine va_iald hx hb hK hP 30 29 rfl rfl (vp_in_iff.mpr (by omega)) dX11_owedOf_141 ?_
                  refine lv_topi (fun x_179 ex_179 => ?_)
                  have gx_179 : x_179.toInt = (fa_166 29 (x1 : Int32).toNatClampNeg).toInt := iv_to ex_179
                  clear ex_179
                  rw [show fa_166 29 = fa 29 from sc_174.2 29 rfl] at gx_179
                  refine lv_i2l (v := (x_179 : Int32).toInt64) hx hb dX11_owedOf_142 rfl ?_
                  refine lv_topl (fun l_180 el_180 => ?_)
                  have hl_180 : l_180.toInt = x_179.toInt := by rw [el_180]; exact Int32.toInt_toInt64 _
                  refine lv_goto (tgt := 147) hx hb dX11_owedOf_143 (by decide) ?_
                  refine lv_lsub hx hb dX11_owedOf_147 ?_
                  refine lv_topl (fun l_181 el_181 => ?_)
                  have hl_181 : l_181.toInt = y_156.toInt - l_180.toInt := by rw [el_181]; exact lsb_i rfl rfl (by omega) (by omega)
                  refine lv_lstore (lv' := [(4, .long l_181), (7, .int y_155), (6, .int r_24), (0, .ref g0), (1, .int x1), (2, .int x2), (3, .int x3)]) hx hb dX11_owedOf_148 hl (by decide) rfl (fun ls hl => ?_)
                  obtain ⟨x_182, ex_182⟩ : ∃ zq : Int32, y_155 + 30 = zq := ⟨_, rfl⟩
                  have hx_182 : x_182.toInt = y_155.toInt + 30 := (iv_to ex_182).symm.trans (ad_i rfl (by decide) (by omega) (by omega))
                  refine lv_iinc (v := x_182) (lv' := [(7, .int x_182), (4, .long l_181), (6, .int r_24), (0, .ref g0), (1, .int x1), (2, .int x2), (3, .int x3)]) hx hb dX11_owedOf_150 hl (k := 1) rfl ex_182 (by decide) rfl (fun ls hl => ?_)
                  clear ex_182
                  refine lv_goto (tgt := 102) hx hb dX11_owedOf_153 (by decide) ?_
                  exact ih (n - 1) (by omega) x_182 l_181 v_165 fa_166 _ _ ls (by omega) (by omega) (atI_s hq0_cut_154 (by omega) (by omega) (by omega) (by omega) (by omega) (by omega)) hV_167 hA_168 R_173 hP hD hS (lv_sub hl [0, 1, 2, 3, 4, 5, 6] rfl)
      exact cut_154 3031 x_153 y_150 z_151 fz_152 _ _ ls (by omega) (by omega) (atI_0 (by omega) (by omega)) hVz_151 hAz_151 hRz_151 hP hD hS (lv_sub hl [0, 1, 2, 3, 4, 5, 6] rfl)
    refine lv_aload_n hx hb dX11_owedOf_47 rfl (lv_at hl 2 rfl) ?_
    refine va_get (D := (dC, dI)) (ci := 11) (v := .ref (pq 27)) (C := RX11) (T := TX11) (N := 63) hx hb hts in_wsX11_owedOf_X11 hown hK hP 0 rfl rfl 27 (by decide) (hts (.fieldLink RX11 91 "ShipOfficeModel" "note" "[I") iw_X11_owedOf_11) (fun _ h9 => h9) rfl dX11_owedOf_48 ?_
    refine lv_iload_n hx hb dX11_owedOf_51 rfl (lv_at hl 3 rfl) ?_
    refine va_iald hx hb hK hP 28 27 rfl rfl (vp_in_iff.mpr (by omega)) dX11_owedOf_52 ?_
    refine lv_topi (fun x_183 ex_183 => ?_)
    have gx_183 : x_183.toInt = (fa_8 27 (x1 : Int32).toNatClampNeg).toInt := iv_to ex_183
    clear ex_183
    rw [show fa_8 27 = fa 27 from sc_17.2 27 rfl] at gx_183
    refine lv_if_le (tgt := 95) hx hb dX11_owedOf_53 (by decide) (fun c_184 => ?_) (fun c_184 => ?_)
    · have dc_184 := c_le (a := x_183.toInt) (b := 0) rfl (by decide) c_184
      exact cut_149 l_21 v_7 fa_8 _ _ ls (by have eB : l_21.toInt = (bsF v fa x1.toNatClampNeg x2.toInt x3.toInt) := (by unfold bsF; rw [hl_21, hl_20]; congr 1; congr 1 <;> omega); unfold nvF; (repeat (first | rw [if_pos (by omega)] | rw [if_neg (by omega)])); omega) hV_9 hA_10 R_16 hP hD hS (lv_sub hl [1, 0, 2, 3, 4, 5] rfl)
    · have dc_184 := c_nle (a := x_183.toInt) (b := 0) rfl (by decide) c_184
      refine lv_iload hx hb dX11_owedOf_56 (lv_at hl 0 rfl) ?_
      refine lv_if_lt (tgt := 95) hx hb dX11_owedOf_58 (by decide) (fun c_185 => ?_) (fun c_185 => ?_)
      · have dc_185 := c_lt (a := r_24.toInt) (b := 0) rfl (by decide) c_185
        exact cut_149 l_21 v_7 fa_8 _ _ ls (by have eB : l_21.toInt = (bsF v fa x1.toNatClampNeg x2.toInt x3.toInt) := (by unfold bsF; rw [hl_21, hl_20]; congr 1; congr 1 <;> omega); unfold nvF; (repeat (first | rw [if_pos (by omega)] | rw [if_neg (by omega)])); omega) hV_9 hA_10 R_16 hP hD hS (lv_sub hl [1, 0, 2, 3, 4, 5] rfl)
      · have dc_185 := c_nlt (a := r_24.toInt) (b := 0) rfl (by decide) c_185
        refine lv_iload hx hb dX11_owedOf_61 (lv_at hl 0 rfl) ?_
        refine lv_iconst (v := 3) hx hb dX11_owedOf_63 (by decide) ?_
        refine lv_iadd hx hb dX11_owedOf_64 ?_
        refine lv_topi (fun x_186 ex_186 => ?_)
        have hx_186 : x_186.toInt = r_24.toInt + 3 := (iv_to ex_186).trans (ad_i rfl (by decide) (by omega) (by omega))
        refine lv_iload_n hx hb dX11_owedOf_65 rfl (lv_at hl 4 rfl) ?_
        refine lv_icmp_gt (tgt := 95) hx hb dX11_owedOf_66 (by decide) (fun c_187 => ?_) (fun c_187 => ?_)
        · have dc_187 := c_lt (a := x2.toInt) (b := x_186.toInt) rfl rfl c_187
          exact cut_149 l_21 v_7 fa_8 _ _ ls (by have eB : l_21.toInt = (bsF v fa x1.toNatClampNeg x2.toInt x3.toInt) := (by unfold bsF; rw [hl_21, hl_20]; congr 1; congr 1 <;> omega); unfold nvF; (repeat (first | rw [if_pos (by omega)] | rw [if_neg (by omega)])); omega) hV_9 hA_10 R_16 hP hD hS (lv_sub hl [1, 0, 2, 3, 4, 5] rfl)
        · have dc_187 := c_nlt (a := x2.toInt) (b := x_186.toInt) rfl rfl c_187
          refine lv_aload_n hx hb dX11_owedOf_69 rfl (lv_at hl 2 rfl) ?_
          refine lv_iload_n hx hb dX11_owedOf_70 rfl (lv_at hl 3 rfl) ?_
          refine lv_iload hx hb dX11_owedOf_71 (lv_at hl 0 rfl) ?_
          refine lv_iconst (v := 3) hx hb dX11_owedOf_73 (by decide) ?_
          refine lv_iadd hx hb dX11_owedOf_74 ?_
          refine lv_topi (fun x_188 ex_188 => ?_)
          have hx_188 : x_188.toInt = r_24.toInt + 3 := (iv_to ex_188).trans (ad_i rfl (by decide) (by omega) (by omega))
          refine lv_iload_n hx hb dX11_owedOf_75 rfl (lv_at hl 5 rfl) ?_
          have hFc := va_free (wc := (mW g0 pq cp v_7 fa_8)) hD hS hA (List.range 48) rfl
          refine va_calli (va_runV (As := [.int x1, .int x_188, .int x3]) (rest := []) ⟨hx, hb, hml, hown, hts⟩ (c_X11_stateOf_f l dC dI H.size g0 pq cp v_7 fa_8 hV_9 hA_10 x1 (by omega) x_188 (by omega) x3 (wlA_fr hWl (sc_17.1 42 rfl) (sc_17.2 19 rfl) (sc_17.2 16 rfl))) (cwV 3 hts gX11_owedOf_X11_stateOf rfl rfl rfl (by decide +kernel) ⟨(Nat.le_of_ble_eq_true rfl), (Nat.le_of_ble_eq_true rfl)⟩) (pr_V (r := (RX11, TX11, 63)) hP hK hD 0 11 rfl rfl) rfl rfl hl.1 rfl (lv_room (Nat.le_of_ble_eq_true rfl)) dX11_owedOf_76 ⟨(Nat.le_of_ble_eq_true rfl), (Nat.le_of_ble_eq_true rfl)⟩) hS (fun q _ h => hFc q h) hFc (fun r_190 u t H locs ht hvm w_189 hB hz1 hk1 hS => ?_)
          obtain ⟨v_191, fa_192⟩ := u
          obtain ⟨hP1, hK1, hD1⟩ := hB
          rw [ht] at hP1
          have hP : va_P (dC, dI) vwCl (mW g0 pq cp v_191 fa_192) H := hP1
          have hD : va_D A (mW g0 pq cp v_191 fa_192) := hD1.weaken (fun _ _ _ h => hFc _ h)
          clear hP1 hK1 hD1 hk1 hz1 hvm ht hFc
          obtain ⟨hV_193, hA_194, hR_195, hb_196, hx_197⟩ := w_189
          dsimp only at hV_193 hA_194 hR_195 hb_196 hx_197
          have g_198 : (fa_192 21 (x1 : Int32).toNatClampNeg).toInt = (fa_8 21 (x1 : Int32).toNatClampNeg).toInt := congrArg (fun h : Nat → Int32 => Int32.toInt (h (x1 : Int32).toNatClampNeg)) (hR_195.2 21 rfl)
          have g_199 : (fa_192 22 (x1 : Int32).toNatClampNeg).toInt = (fa_8 22 (x1 : Int32).toNatClampNeg).toInt := congrArg (fun h : Nat → Int32 => Int32.toInt (h (x1 : Int32).toNatClampNeg)) (hR_195.2 22 rfl)
          have g_200 : (fa_192 25 (x1 : Int32).toNatClampNeg).toInt = (fa_8 25 (x1 : Int32).toNatClampNeg).toInt := congrArg (fun h : Nat → Int32 => Int32.toInt (h (x1 : Int32).toNatClampNeg)) (hR_195.2 25 rfl)
          have g_201 : (fa_192 27 (x1 : Int32).toNatClampNeg).toInt = (fa_8 27 (x1 : Int32).toNatClampNeg).toInt := congrArg (fun h : Nat → Int32 => Int32.toInt (h (x1 : Int32).toNatClampNeg)) (hR_195.2 27 rfl)
          have R_202 := scr.tr R_16 hR_195
          have sc_203 := scr.tr sc_17 hR_195
          have q0_204 : fa_192 0 = fa 0 := (hR_195.2 0 rfl).trans q0_18
          rw [stF_s hWl sc_17] at hx_197
          refine lv_iconst (v := 1) hx hb dX11_owedOf_79 (by decide) ?_
          refine lv_icmp_ne (tgt := 95) hx hb dX11_owedOf_80 (by decide) (fun c_205 => ?_) (fun c_205 => ?_)
          · have dc_205 := c_ne (a := r_190.toInt) (b := 1) rfl (by decide) c_205
            exact cut_149 l_21 v_191 fa_192 _ _ ls (by have eB : l_21.toInt = (bsF v fa x1.toNatClampNeg x2.toInt x3.toInt) := (by unfold bsF; rw [hl_21, hl_20]; congr 1; congr 1 <;> omega); have hst9 := hx_197; rw [show (x_188 : Int32).toInt = (slO v fa (fa 21 x1.toNatClampNeg).toInt x3.toInt) + 3 from (by omega)] at hst9; unfold nvF; (repeat (first | rw [if_pos (by omega)] | rw [if_neg (by omega)])); omega) hV_193 hA_194 R_202 hP hD hS (lv_sub hl [1, 0, 2, 3, 4, 5] rfl)
          · have dc_205 := c_eq (a := r_190.toInt) (b := 1) rfl (by decide) c_205
            refine lv_lload hx hb dX11_owedOf_83 (lv_at hl 1 rfl) ?_
            refine lv_aload_n hx hb dX11_owedOf_85 rfl (lv_at hl 2 rfl) ?_
            refine va_get (D := (dC, dI)) (ci := 11) (v := .ref (pq 27)) (C := RX11) (T := TX11) (N := 63) hx hb hts in_wsX11_owedOf_X11 hown hK hP 0 rfl rfl 27 (by decide) (hts (.fieldLink RX11 91 "ShipOfficeModel" "note" "[I") iw_X11_owedOf_11) (fun _ h9 => h9) rfl dX11_owedOf_86 ?_
            refine lv_iload_n hx hb dX11_owedOf_89 rfl (lv_at hl 3 rfl) ?_
            refine va_iald hx hb hK hP 28 27 rfl rfl (vp_in_iff.mpr (by omega)) dX11_owedOf_90 ?_
            refine lv_topi (fun x_206 ex_206 => ?_)
            have gx_206 : x_206.toInt = (fa_192 27 (x1 : Int32).toNatClampNeg).toInt := iv_to ex_206
            clear ex_206
            rw [show fa_192 27 = fa 27 from sc_203.2 27 rfl] at gx_206
            refine lv_i2l (v := (x_206 : Int32).toInt64) hx hb dX11_owedOf_91 rfl ?_
            refine lv_topl (fun l_207 el_207 => ?_)
            have hl_207 : l_207.toInt = x_206.toInt := by rw [el_207]; exact Int32.toInt_toInt64 _
            refine lv_lsub hx hb dX11_owedOf_92 ?_
            refine lv_topl (fun l_208 el_208 => ?_)
            have hl_208 : l_208.toInt = l_21.toInt - l_207.toInt := by rw [el_208]; exact lsb_i rfl rfl (by omega) (by omega)
            refine lv_lstore (lv' := [(4, .long l_208), (6, .int r_24), (0, .ref g0), (1, .int x1), (2, .int x2), (3, .int x3)]) hx hb dX11_owedOf_93 hl (by decide) rfl (fun ls hl => ?_)
            exact cut_149 l_208 v_191 fa_192 _ _ ls (by have eB : l_21.toInt = (bsF v fa x1.toNatClampNeg x2.toInt x3.toInt) := (by unfold bsF; rw [hl_21, hl_20]; congr 1; congr 1 <;> omega); have hst9 := hx_197; rw [show (x_188 : Int32).toInt = (slO v fa (fa 21 x1.toNatClampNeg).toInt x3.toInt) + 3 from (by omega)] at hst9; unfold nvF; (repeat (first | rw [if_pos (by omega)] | rw [if_neg (by omega)])); omega) hV_193 hA_194 R_202 hP hD hS (lv_sub hl [0, 1, 2, 3, 4, 5] rfl)
  · have dc_2 := c_nle (a := x_1.toInt) (b := x2.toInt) rfl rfl c_2
    refine lv_iconst (v := 0) hx hb dX11_owedOf_10 (by decide) ?_
    exact W.iret (v := 0) hx hb hr (fun t ht hW => ⟨⟨0, (v, fa), rfl, ⟨gV, gA, scr.rf, (by have rc : (0 : Int32).toInt = 0 := (by decide); unfold owF; rw [if_pos (by omega)]; (first | done | omega))⟩, ⟨by rw [ht]; exact hP, va_K.moved hW.alike hK, hD⟩⟩, hS.F ht⟩) hS.2.2 dX11_owedOf_11
