

/-- how many below n -/
noncomputable def cnN (P : Nat → Prop) : Nat → Int
  | 0 => 0
  | n + 1 => cnN P n + b01 (P n)
theorem cnN_0 {P : Nat → Prop} {x : Int32} {y : Int} (h : x.toInt = 0) (hy : y = 0) : y = cnN P x.toNatClampNeg := by
  rw [show x.toNatClampNeg = 0 from (show x.toInt.toNat = 0 by omega)]
  exact hy
theorem cnN_s {P : Nat → Prop} {x x1 : Int32} {y y1 : Int} (h : y = cnN P x.toNatClampNeg) (h0 : 0 ≤ x.toInt) (e : x1.toInt = x.toInt + 1) (ey : y1 = y + b01 (P x.toNatClampNeg)) : y1 = cnN P x1.toNatClampNeg := by
  rw [show x1.toNatClampNeg = x.toNatClampNeg + 1 from (show x1.toInt.toNat = x.toInt.toNat + 1 by omega), ey, h]
  rfl
/-- a man asks for a wage -/
def akP (fa : Nat → Nat → Int32) (m : Nat) : Prop := 0 < (fa 5 (4 * m)).toInt ∨ 0 < (fa 5 (4 * m + 1)).toInt ∨ 0 < (fa 5 (4 * m + 2)).toInt ∨ 0 < (fa 5 (4 * m + 3)).toInt
def enP9 (fa : Nat → Nat → Int32) (x : Nat) : Prop := (fa 9 x).toInt < 0
def gnP9 (v : Nat → Int32) (fa : Nat → Nat → Int32) (a : Nat) : Prop := gonI v fa a = 1
def asB (fa : Nat → Nat → Int32) : Prop := ∀ i, 0 ≤ (fa 5 i).toInt ∧ (fa 5 i).toInt ≤ 9999
/-- COUNT -/
def coA (v : Nat → Int32) (fa : Nat → Nat → Int32) (w r : Int) : Prop := (w = 0 ∧ r = (v 38).toInt) ∨ (w = 1 ∧ r = (v 39).toInt) ∨ (w = 2 ∧ r = (v 40).toInt) ∨ (w = 3 ∧ r = cnN (enP9 fa) (v 40).toNatClampNeg) ∨ (w = 4 ∧ r = (v 43).toInt) ∨ (w = 5 ∧ r = cnN (gnP9 v fa) (v 43).toNatClampNeg) ∨ (w = 6 ∧ r = (v 41).toInt) ∨ (w = 7 ∧ r = (v 42).toInt) ∨ (w = 8 ∧ r = (v 46).toInt) ∨ (w = 9 ∧ r = (v 62).toInt) ∨ (w = 17 ∧ r = cnN (akP fa) (v 39).toNatClampNeg) ∨ (11 ≤ w ∧ w ≤ 16 ∧ r = (fa 0 (w - 10).toNat).toInt) ∨ ((w < 0 ∨ w = 10 ∨ 17 < w) ∧ r = -9)
theorem coA_e {v : Nat → Int32} {fa : Nat → Nat → Int32} {w r r1 : Int} (h : coA v fa w r) (g : coA v fa w r1) : r = r1 := by
  unfold coA at h g
  rcases h with ⟨a, b⟩ | ⟨a, b⟩ | ⟨a, b⟩ | ⟨a, b⟩ | ⟨a, b⟩ | ⟨a, b⟩ | ⟨a, b⟩ | ⟨a, b⟩ | ⟨a, b⟩ | ⟨a, b⟩ | ⟨a, b⟩ | ⟨a, a2, b⟩ | ⟨a, b⟩ <;> rcases g with ⟨c, d⟩ | ⟨c, d⟩ | ⟨c, d⟩ | ⟨c, d⟩ | ⟨c, d⟩ | ⟨c, d⟩ | ⟨c, d⟩ | ⟨c, d⟩ | ⟨c, d⟩ | ⟨c, d⟩ | ⟨c, d⟩ | ⟨c, c2, d⟩ | ⟨c, d⟩ <;> omega
set_option maxHeartbeats 4000000 in
set_option maxRecDepth 100000 in
theorem c_X11_asksAny_f (l : Launch) (dC : Nat → ClassId) (dI : Nat → Nat → Nat) (sz : Nat) (g0 : Nat) (pq : Nat → Nat) (cp : Nat → ClassId) (v : Nat → Int32) (fa : Nat → Nat → Int32) (gV : mV v) (gA : mA fa) (x1 : Int32) (hx1 : 0 ≤ x1.toInt ∧ x1.toInt ≤ 39) (hAk : asB fa) : Met l yX11_asksAny wsX11_asksAny ({ frames := 0, cells := 0, slots := 0, locals := 0 }) (va_Pc [.ref g0, .int x1] (pcW (dC, dI) (mT cp) (mW g0 pq cp v fa) sz)) (va_Qi (fun (r : Int32) (u : Unit) => (0 ≤ r.toInt ∧ r.toInt ≤ 1) ∧ (r.toInt = b01 (akP fa x1.toNatClampNeg))) (fun _ _ => True) (va_A [] sz)) 0 0 (va_A [] sz) := by
  refine Met.ofW (cc := cX11_asksAny) (maxL := 2) (ret := (some .boolean)) (by decide) rfl ?_
  intro p e s m args below meth c s₁ B hml hv
  obtain ⟨rfl, hsz, hP, hK, hD0⟩ := hv
  have hx := B.exec
  have hb := B.bytes
  have hr := B.returns
  have hts := atoms_spec (ws := wsX11_asksAny) B.pre
  have hown : s.vm.findClass RX11 = some m.cls := findClass_of_methodNamed B.named
  have hlocks := B.notSynchronized
  subst hsz
  have hD := hD0
  generalize hAe : va_A [] s.heap.size = A at ⊢
  have hA : ∀ q : Nat, s.heap.size ≤ q → A q := fun q h => by rw [← hAe]; exact Or.inr h
  have hS : va_S A s.heap s.heap [] := va_S.rf
  have hP : va_P (dC, dI) vwCl (mW g0 pq cp v fa) s.heap := hP
  have hl := lv_entry ([.ref g0, .int x1]) (n := 2) (Nat.le_of_ble_eq_true rfl)
  rw [lg_entry_eq]
  generalize (lg_sl ([.ref g0, .int x1]) ++ List.replicate (2 - (lg_sl ([.ref g0, .int x1])).length) Slot.unset).toArray = ls at hl ⊢
  have hl : lv_has ls 2 [(0, .ref g0), (1, .int x1)] := hl
  refine lv_aload_n hx hb dX11_asksAny_0 rfl (lv_at hl 0 rfl) ?_
  refine va_get (D := (dC, dI)) (ci := 11) (v := .ref (pq 5)) (C := RX11) (T := TX11) (N := 63) hx hb hts in_wsX11_asksAny_X11 hown hK hP 0 rfl rfl 5 (by decide) (hts (.fieldLink RX11 25 "ShipOfficeModel" "asks" "[I") iw_X11_asksAny_1) (fun _ h9 => h9) rfl dX11_asksAny_1 ?_
  refine lv_iconst (v := 4) hx hb dX11_asksAny_4 (by decide) ?_
  refine lv_iload_n hx hb dX11_asksAny_5 rfl (lv_at hl 1 rfl) ?_
  refine lv_imul hx hb dX11_asksAny_6 ?_
  refine lv_topi (fun x_1 ex_1 => ?_)
  have hx_1 : x_1.toInt = 4 * x1.toInt := (iv_to ex_1).trans (mu_i (by decide) rfl (by omega) (by omega))
  refine va_iald hx hb hK hP 6 5 rfl rfl (vp_in_iff.mpr (by omega)) dX11_asksAny_7 ?_
  refine lv_topi (fun x_2 ex_2 => ?_)
  have gx_2 : x_2.toInt = (fa 5 (x_1 : Int32).toNatClampNeg).toInt := iv_to ex_2
  clear ex_2
  have gbx_2 : 0 ≤ x_2.toInt ∧ x_2.toInt ≤ 9999 := by rw [gx_2]; exact hAk _
  rw [show (x_1 : Int32).toNatClampNeg = 4 * x1.toNatClampNeg from (show x_1.toInt.toNat = 4 * x1.toInt.toNat by omega)] at gx_2
  refine lv_aload_n hx hb dX11_asksAny_8 rfl (lv_at hl 0 rfl) ?_
  refine va_get (D := (dC, dI)) (ci := 11) (v := .ref (pq 5)) (C := RX11) (T := TX11) (N := 63) hx hb hts in_wsX11_asksAny_X11 hown hK hP 0 rfl rfl 5 (by decide) (hts (.fieldLink RX11 25 "ShipOfficeModel" "asks" "[I") iw_X11_asksAny_1) (fun _ h9 => h9) rfl dX11_asksAny_9 ?_
  refine lv_iconst (v := 4) hx hb dX11_asksAny_12 (by decide) ?_
  refine lv_iload_n hx hb dX11_asksAny_13 rfl (lv_at hl 1 rfl) ?_
  refine lv_imul hx hb dX11_asksAny_14 ?_
  refine lv_topi (fun x_3 ex_3 => ?_)
  have hx_3 : x_3.toInt = 4 * x1.toInt := (iv_to ex_3).trans (mu_i (by decide) rfl (by omega) (by omega))
  refine lv_iconst (v := 1) hx hb dX11_asksAny_15 (by decide) ?_
  refine lv_iadd hx hb dX11_asksAny_16 ?_
  refine lv_topi (fun x_4 ex_4 => ?_)
  have hx_4 : x_4.toInt = x_3.toInt + 1 := (iv_to ex_4).trans (ad_i rfl (by decide) (by omega) (by omega))
  refine va_iald hx hb hK hP 6 5 rfl rfl (vp_in_iff.mpr (by omega)) dX11_asksAny_17 ?_
  refine lv_topi (fun x_5 ex_5 => ?_)
  have gx_5 : x_5.toInt = (fa 5 (x_4 : Int32).toNatClampNeg).toInt := iv_to ex_5
  clear ex_5
  have gbx_5 : 0 ≤ x_5.toInt ∧ x_5.toInt ≤ 9999 := by rw [gx_5]; exact hAk _
  rw [show (x_4 : Int32).toNatClampNeg = 4 * x1.toNatClampNeg + 1 from (show x_4.toInt.toNat = 4 * x1.toInt.toNat + 1 by omega)] at gx_5
  refine lv_iadd hx hb dX11_asksAny_18 ?_
  refine lv_topi (fun x_6 ex_6 => ?_)
  have hx_6 : x_6.toInt = x_2.toInt + x_5.toInt := (iv_to ex_6).trans (ad_i rfl rfl (by omega) (by omega))
  refine lv_aload_n hx hb dX11_asksAny_19 rfl (lv_at hl 0 rfl) ?_
  refine va_get (D := (dC, dI)) (ci := 11) (v := .ref (pq 5)) (C := RX11) (T := TX11) (N := 63) hx hb hts in_wsX11_asksAny_X11 hown hK hP 0 rfl rfl 5 (by decide) (hts (.fieldLink RX11 25 "ShipOfficeModel" "asks" "[I") iw_X11_asksAny_1) (fun _ h9 => h9) rfl dX11_asksAny_20 ?_
  refine lv_iconst (v := 4) hx hb dX11_asksAny_23 (by decide) ?_
  refine lv_iload_n hx hb dX11_asksAny_24 rfl (lv_at hl 1 rfl) ?_
  refine lv_imul hx hb dX11_asksAny_25 ?_
  refine lv_topi (fun x_7 ex_7 => ?_)
  have hx_7 : x_7.toInt = 4 * x1.toInt := (iv_to ex_7).trans (mu_i (by decide) rfl (by omega) (by omega))
  refine lv_iconst (v := 2) hx hb dX11_asksAny_26 (by decide) ?_
  refine lv_iadd hx hb dX11_asksAny_27 ?_
  refine lv_topi (fun x_8 ex_8 => ?_)
  have hx_8 : x_8.toInt = x_7.toInt + 2 := (iv_to ex_8).trans (ad_i rfl (by decide) (by omega) (by omega))
  refine va_iald hx hb hK hP 6 5 rfl rfl (vp_in_iff.mpr (by omega)) dX11_asksAny_28 ?_
  refine lv_topi (fun x_9 ex_9 => ?_)
  have gx_9 : x_9.toInt = (fa 5 (x_8 : Int32).toNatClampNeg).toInt := iv_to ex_9
  clear ex_9
  have gbx_9 : 0 ≤ x_9.toInt ∧ x_9.toInt ≤ 9999 := by rw [gx_9]; exact hAk _
  rw [show (x_8 : Int32).toNatClampNeg = 4 * x1.toNatClampNeg + 2 from (show x_8.toInt.toNat = 4 * x1.toInt.toNat + 2 by omega)] at gx_9
  refine lv_iadd hx hb dX11_asksAny_29 ?_
  refine lv_topi (fun x_10 ex_10 => ?_)
  have hx_10 : x_10.toInt = x_6.toInt + x_9.toInt := (iv_to ex_10).trans (ad_i rfl rfl (by omega) (by omega))
  refine lv_aload_n hx hb dX11_asksAny_30 rfl (lv_at hl 0 rfl) ?_
  refine va_get (D := (dC, dI)) (ci := 11) (v := .ref (pq 5)) (C := RX11) (T := TX11) (N := 63) hx hb hts in_wsX11_asksAny_X11 hown hK hP 0 rfl rfl 5 (by decide) (hts (.fieldLink RX11 25 "ShipOfficeModel" "asks" "[I") iw_X11_asksAny_1) (fun _ h9 => h9) rfl dX11_asksAny_31 ?_
  refine lv_iconst (v := 4) hx hb dX11_asksAny_34 (by decide) ?_
  refine lv_iload_n hx hb dX11_asksAny_35 rfl (lv_at hl 1 rfl) ?_
  refine lv_imul hx hb dX11_asksAny_36 ?_
  refine lv_topi (fun x_11 ex_11 => ?_)
  have hx_11 : x_11.toInt = 4 * x1.toInt := (iv_to ex_11).trans (mu_i (by decide) rfl (by omega) (by omega))
  refine lv_iconst (v := 3) hx hb dX11_asksAny_37 (by decide) ?_
  refine lv_iadd hx hb dX11_asksAny_38 ?_
  refine lv_topi (fun x_12 ex_12 => ?_)
  have hx_12 : x_12.toInt = x_11.toInt + 3 := (iv_to ex_12).trans (ad_i rfl (by decide) (by omega) (by omega))
  refine va_iald hx hb hK hP 6 5 rfl rfl (vp_in_iff.mpr (by omega)) dX11_asksAny_39 ?_
  refine lv_topi (fun x_13 ex_13 => ?_)
  have gx_13 : x_13.toInt = (fa 5 (x_12 : Int32).toNatClampNeg).toInt := iv_to ex_13
  clear ex_13
  have gbx_13 : 0 ≤ x_13.toInt ∧ x_13.toInt ≤ 9999 := by rw [gx_13]; exact hAk _
  rw [show (x_12 : Int32).toNatClampNeg = 4 * x1.toNatClampNeg + 3 from (show x_12.toInt.toNat = 4 * x1.toInt.toNat + 3 by omega)] at gx_13
  refine lv_iadd hx hb dX11_asksAny_40 ?_
  refine lv_topi (fun x_14 ex_14 => ?_)
  have hx_14 : x_14.toInt = x_10.toInt + x_13.toInt := (iv_to ex_14).trans (ad_i rfl rfl (by omega) (by omega))
  refine lv_if_le (tgt := 48) hx hb dX11_asksAny_41 (by decide) (fun c_15 => ?_) (fun c_15 => ?_)
  · have dc_15 := c_le (a := x_14.toInt) (b := 0) rfl (by decide) c_15
    refine lv_iconst (v := 0) hx hb dX11_asksAny_48 (by decide) ?_
    exact W.zret (v := 0) hx hb hr rfl (fun t ht hW => ⟨⟨0, (), rfl, ⟨(by decide), (b1_f (by unfold akP; omega))⟩, trivial⟩, hS.F ht⟩) hS.2.2 dX11_asksAny_49
  · have dc_15 := c_nle (a := x_14.toInt) (b := 0) rfl (by decide) c_15
    refine lv_iconst (v := 1) hx hb dX11_asksAny_44 (by decide) ?_
    refine lv_goto (tgt := 49) hx hb dX11_asksAny_45 (by decide) ?_
    exact W.zret (v := 1) hx hb hr rfl (fun t ht hW => ⟨⟨1, (), rfl, ⟨(by decide), (b1_t (by unfold akP; omega))⟩, trivial⟩, hS.F ht⟩) hS.2.2 dX11_asksAny_49
theorem gn_b (v : Nat → Int32) (fa : Nat → Nat → Int32) (a : Nat) : gonI v fa a = b01 (gnP9 v fa a) := by
  have h := gonI_i v fa a
  by_cases c : gnP9 v fa a
  · rw [b01_t c]; exact c
  · rw [b01_f c]
    unfold gnP9 at c
    omega
theorem en_b (fa : Nat → Nat → Int32) (x : Nat) : (b01 (enP9 fa x) = 1 ∧ (fa 9 x).toInt < 0) ∨ (b01 (enP9 fa x) = 0 ∧ 0 ≤ (fa 9 x).toInt) := by
  by_cases c : enP9 fa x
  · exact Or.inl ⟨b01_t c, c⟩
  · refine Or.inr ⟨b01_f c, ?_⟩
    unfold enP9 at c
    omega
set_option maxHeartbeats 4000000 in
set_option maxRecDepth 100000 in
theorem c_X11_count_f (l : Launch) (dC : Nat → ClassId) (dI : Nat → Nat → Nat) (sz : Nat) (g0 : Nat) (pq : Nat → Nat) (cp : Nat → ClassId) (v : Nat → Int32) (fa : Nat → Nat → Int32) (gV : mV v) (gA : mA fa) (x1 : Int32) (hAk : asB fa) : Met l yX11_count wsX11_count ({ frames := 2, cells := 0, slots := 0, locals := 44 }) (va_Pc [.ref g0, .int x1] (pcW (dC, dI) (mT cp) (mW g0 pq cp v fa) sz)) (va_Qi (fun (r : Int32) (u : Unit) => (coA v fa x1.toInt r.toInt)) (fun _ _ => True) (va_A [] sz)) 0 0 (va_A [] sz) := by
  refine Met.ofW (cc := cX11_count) (maxL := 4) (ret := (some .int)) (by decide) rfl ?_
  intro p e s m args below meth c s₁ B hml hv
  obtain ⟨rfl, hsz, hP, hK, hD0⟩ := hv
  have hx := B.exec
  have hb := B.bytes
  have hr := B.returns
  have hts := atoms_spec (ws := wsX11_count) B.pre
  have hown : s.vm.findClass RX11 = some m.cls := findClass_of_methodNamed B.named
  have hlocks := B.notSynchronized
  subst hsz
  have hD := hD0
  generalize hAe : va_A [] s.heap.size = A at ⊢
  have hA : ∀ q : Nat, s.heap.size ≤ q → A q := fun q h => by rw [← hAe]; exact Or.inr h
  have hS : va_S A s.heap s.heap [] := va_S.rf
  have hP : va_P (dC, dI) vwCl (mW g0 pq cp v fa) s.heap := hP
  have hl := lv_entry ([.ref g0, .int x1]) (n := 4) (Nat.le_of_ble_eq_true rfl)
  rw [lg_entry_eq]
  generalize (lg_sl ([.ref g0, .int x1]) ++ List.replicate (4 - (lg_sl ([.ref g0, .int x1])).length) Slot.unset).toArray = ls at hl ⊢
  have hl : lv_has ls 4 [(0, .ref g0), (1, .int x1)] := hl
  have iv_1 : 0 ≤ (v 38).toInt ∧ (v 38).toInt ≤ 3000 := gV 38
  have iv_2 : 0 ≤ (v 39).toInt ∧ (v 39).toInt ≤ 40 := gV 39
  have iv_3 : 0 ≤ (v 40).toInt ∧ (v 40).toInt ≤ 20 := gV 40
  have iv_4 : 0 ≤ (v 41).toInt ∧ (v 41).toInt ≤ 200 := gV 41
  have iv_5 : 0 ≤ (v 42).toInt ∧ (v 42).toInt ≤ 30 := gV 42
  have iv_6 : 0 ≤ (v 43).toInt ∧ (v 43).toInt ≤ 60 := gV 43
  have iv_7 : 0 ≤ (v 46).toInt ∧ (v 46).toInt ≤ 60 := gV 46
  have iv_8 : 0 ≤ (v 62).toInt ∧ (v 62).toInt ≤ 12 := gV 62
  refine lv_iload_n hx hb dX11_count_0 rfl (lv_at hl 1 rfl) ?_
  refine lv_bipush (v := 10) hx hb dX11_count_1 (by decide) ?_
  refine lv_icmp_le (tgt := 22) hx hb dX11_count_3 (by decide) (fun c_9 => ?_) (fun c_9 => ?_)
  · have dc_9 := c_le (a := x1.toInt) (b := 10) rfl (by decide) c_9
    refine lv_iconst (v := 0) hx hb dX11_count_22 (by decide) ?_
    refine lv_istore_n (lv' := [(2, .int 0), (0, .ref g0), (1, .int x1)]) hx hb dX11_count_23 rfl hl (by decide) rfl (fun ls hl => ?_)
    refine lv_iload_n hx hb dX11_count_24 rfl (lv_at hl 2 rfl) ?_
    by_cases q_10 : x1 = 0
    · have kq_10 : x1.toInt = 0 := by rw [q_10]; decide
      refine lv_topi (fun y ey => ?_)
      obtain rfl : y = 0 := ey.trans q_10
      refine lv_tableIn (x := 0) (off := 87) (tgt := 112) hx hb dX11_count_25 (by decide) (by decide) (by decide) (by decide) ?_
      refine lv_aload_n hx hb dX11_count_112 rfl (lv_at hl 1 rfl) ?_
      refine va_get (D := (dC, dI)) (ci := 11) (v := .int (v 38)) (C := RX11) (T := TX11) (N := 63) hx hb hts in_wsX11_count_X11 hown hK hP 0 rfl rfl 38 (by decide) (hts (.fieldLink RX11 171 "ShipOfficeModel" "now" "I") iw_X11_count_1) (fun _ h9 => h9) rfl dX11_count_113 ?_
      refine lv_topi (fun x_11 ex_11 => ?_)
      have hx_11 : 0 ≤ x_11.toInt ∧ x_11.toInt ≤ 3000 := iv_of ex_11 (gV 38)
      have gx_11 : x_11.toInt = (v 38).toInt := iv_to ex_11
      clear ex_11
      exact W.iret (v := x_11) hx hb hr (fun t ht hW => ⟨⟨x_11, (), rfl, (by unfold coA; (first | exact Or.inl ⟨by omega, by omega⟩ | exact Or.inr (Or.inl ⟨by omega, by omega⟩) | exact Or.inr (Or.inr (Or.inl ⟨by omega, by omega⟩)) | exact Or.inr (Or.inr (Or.inr (Or.inl ⟨by omega, by omega⟩))) | exact Or.inr (Or.inr (Or.inr (Or.inr (Or.inl ⟨by omega, by omega⟩)))) | exact Or.inr (Or.inr (Or.inr (Or.inr (Or.inr (Or.inl ⟨by omega, by omega⟩))))) | exact Or.inr (Or.inr (Or.inr (Or.inr (Or.inr (Or.inr (Or.inl ⟨by omega, by omega⟩)))))) | exact Or.inr (Or.inr (Or.inr (Or.inr (Or.inr (Or.inr (Or.inr (Or.inl ⟨by omega, by omega⟩))))))) | exact Or.inr (Or.inr (Or.inr (Or.inr (Or.inr (Or.inr (Or.inr (Or.inr (Or.inl ⟨by omega, by omega⟩)))))))) | exact Or.inr (Or.inr (Or.inr (Or.inr (Or.inr (Or.inr (Or.inr (Or.inr (Or.inr (Or.inl ⟨by omega, by omega⟩))))))))) | exact Or.inr (Or.inr (Or.inr (Or.inr (Or.inr (Or.inr (Or.inr (Or.inr (Or.inr (Or.inr (Or.inl ⟨by omega, by omega⟩)))))))))) | exact Or.inr (Or.inr (Or.inr (Or.inr (Or.inr (Or.inr (Or.inr (Or.inr (Or.inr (Or.inr (Or.inr (Or.inl ⟨by omega, by omega, by omega⟩))))))))))) | exact Or.inr (Or.inr (Or.inr (Or.inr (Or.inr (Or.inr (Or.inr (Or.inr (Or.inr (Or.inr (Or.inr (Or.inr (⟨by omega, by omega⟩)))))))))))))), trivial⟩, hS.F ht⟩) hS.2.2 dX11_count_116
    have n_12 := c_ne (a := x1.toInt) (b := 0) rfl (by decide) q_10
    by_cases q_13 : x1 = 1
    · have kq_13 : x1.toInt = 1 := by rw [q_13]; decide
      refine lv_topi (fun y ey => ?_)
      obtain rfl : y = 1 := ey.trans q_13
      refine lv_tableIn (x := 1) (off := 92) (tgt := 117) hx hb dX11_count_25 (by decide) (by decide) (by decide) (by decide) ?_
      refine lv_aload_n hx hb dX11_count_117 rfl (lv_at hl 1 rfl) ?_
      refine va_get (D := (dC, dI)) (ci := 11) (v := .int (v 39)) (C := RX11) (T := TX11) (N := 63) hx hb hts in_wsX11_count_X11 hown hK hP 0 rfl rfl 39 (by decide) (hts (.fieldLink RX11 157 "ShipOfficeModel" "men" "I") iw_X11_count_2) (fun _ h9 => h9) rfl dX11_count_118 ?_
      refine lv_topi (fun x_14 ex_14 => ?_)
      have hx_14 : 0 ≤ x_14.toInt ∧ x_14.toInt ≤ 40 := iv_of ex_14 (gV 39)
      have gx_14 : x_14.toInt = (v 39).toInt := iv_to ex_14
      clear ex_14
      exact W.iret (v := x_14) hx hb hr (fun t ht hW => ⟨⟨x_14, (), rfl, (by unfold coA; (first | exact Or.inl ⟨by omega, by omega⟩ | exact Or.inr (Or.inl ⟨by omega, by omega⟩) | exact Or.inr (Or.inr (Or.inl ⟨by omega, by omega⟩)) | exact Or.inr (Or.inr (Or.inr (Or.inl ⟨by omega, by omega⟩))) | exact Or.inr (Or.inr (Or.inr (Or.inr (Or.inl ⟨by omega, by omega⟩)))) | exact Or.inr (Or.inr (Or.inr (Or.inr (Or.inr (Or.inl ⟨by omega, by omega⟩))))) | exact Or.inr (Or.inr (Or.inr (Or.inr (Or.inr (Or.inr (Or.inl ⟨by omega, by omega⟩)))))) | exact Or.inr (Or.inr (Or.inr (Or.inr (Or.inr (Or.inr (Or.inr (Or.inl ⟨by omega, by omega⟩))))))) | exact Or.inr (Or.inr (Or.inr (Or.inr (Or.inr (Or.inr (Or.inr (Or.inr (Or.inl ⟨by omega, by omega⟩)))))))) | exact Or.inr (Or.inr (Or.inr (Or.inr (Or.inr (Or.inr (Or.inr (Or.inr (Or.inr (Or.inl ⟨by omega, by omega⟩))))))))) | exact Or.inr (Or.inr (Or.inr (Or.inr (Or.inr (Or.inr (Or.inr (Or.inr (Or.inr (Or.inr (Or.inl ⟨by omega, by omega⟩)))))))))) | exact Or.inr (Or.inr (Or.inr (Or.inr (Or.inr (Or.inr (Or.inr (Or.inr (Or.inr (Or.inr (Or.inr (Or.inl ⟨by omega, by omega, by omega⟩))))))))))) | exact Or.inr (Or.inr (Or.inr (Or.inr (Or.inr (Or.inr (Or.inr (Or.inr (Or.inr (Or.inr (Or.inr (Or.inr (⟨by omega, by omega⟩)))))))))))))), trivial⟩, hS.F ht⟩) hS.2.2 dX11_count_121
    have n_15 := c_ne (a := x1.toInt) (b := 1) rfl (by decide) q_13
    by_cases q_16 : x1 = 2
    · have kq_16 : x1.toInt = 2 := by rw [q_16]; decide
      refine lv_topi (fun y ey => ?_)
      obtain rfl : y = 2 := ey.trans q_16
      refine lv_tableIn (x := 2) (off := 97) (tgt := 122) hx hb dX11_count_25 (by decide) (by decide) (by decide) (by decide) ?_
      refine lv_aload_n hx hb dX11_count_122 rfl (lv_at hl 1 rfl) ?_
      refine va_get (D := (dC, dI)) (ci := 11) (v := .int (v 40)) (C := RX11) (T := TX11) (N := 63) hx hb hts in_wsX11_count_X11 hown hK hP 0 rfl rfl 40 (by decide) (hts (.fieldLink RX11 165 "ShipOfficeModel" "voyages" "I") iw_X11_count_3) (fun _ h9 => h9) rfl dX11_count_123 ?_
      refine lv_topi (fun x_17 ex_17 => ?_)
      have hx_17 : 0 ≤ x_17.toInt ∧ x_17.toInt ≤ 20 := iv_of ex_17 (gV 40)
      have gx_17 : x_17.toInt = (v 40).toInt := iv_to ex_17
      clear ex_17
      exact W.iret (v := x_17) hx hb hr (fun t ht hW => ⟨⟨x_17, (), rfl, (by unfold coA; (first | exact Or.inl ⟨by omega, by omega⟩ | exact Or.inr (Or.inl ⟨by omega, by omega⟩) | exact Or.inr (Or.inr (Or.inl ⟨by omega, by omega⟩)) | exact Or.inr (Or.inr (Or.inr (Or.inl ⟨by omega, by omega⟩))) | exact Or.inr (Or.inr (Or.inr (Or.inr (Or.inl ⟨by omega, by omega⟩)))) | exact Or.inr (Or.inr (Or.inr (Or.inr (Or.inr (Or.inl ⟨by omega, by omega⟩))))) | exact Or.inr (Or.inr (Or.inr (Or.inr (Or.inr (Or.inr (Or.inl ⟨by omega, by omega⟩)))))) | exact Or.inr (Or.inr (Or.inr (Or.inr (Or.inr (Or.inr (Or.inr (Or.inl ⟨by omega, by omega⟩))))))) | exact Or.inr (Or.inr (Or.inr (Or.inr (Or.inr (Or.inr (Or.inr (Or.inr (Or.inl ⟨by omega, by omega⟩)))))))) | exact Or.inr (Or.inr (Or.inr (Or.inr (Or.inr (Or.inr (Or.inr (Or.inr (Or.inr (Or.inl ⟨by omega, by omega⟩))))))))) | exact Or.inr (Or.inr (Or.inr (Or.inr (Or.inr (Or.inr (Or.inr (Or.inr (Or.inr (Or.inr (Or.inl ⟨by omega, by omega⟩)))))))))) | exact Or.inr (Or.inr (Or.inr (Or.inr (Or.inr (Or.inr (Or.inr (Or.inr (Or.inr (Or.inr (Or.inr (Or.inl ⟨by omega, by omega, by omega⟩))))))))))) | exact Or.inr (Or.inr (Or.inr (Or.inr (Or.inr (Or.inr (Or.inr (Or.inr (Or.inr (Or.inr (Or.inr (Or.inr (⟨by omega, by omega⟩)))))))))))))), trivial⟩, hS.F ht⟩) hS.2.2 dX11_count_126
    have n_18 := c_ne (a := x1.toInt) (b := 2) rfl (by decide) q_16
    by_cases q_19 : x1 = 3
    · have kq_19 : x1.toInt = 3 := by rw [q_19]; decide
      refine lv_topi (fun y ey => ?_)
      obtain rfl : y = 3 := ey.trans q_19
      refine lv_tableIn (x := 3) (off := 102) (tgt := 127) hx hb dX11_count_25 (by decide) (by decide) (by decide) (by decide) ?_
      refine lv_iconst (v := 0) hx hb dX11_count_127 (by decide) ?_
      refine lv_istore_n (lv' := [(3, .int 0), (2, .int 0), (0, .ref g0), (1, .int x1)]) hx hb dX11_count_128 rfl hl (by decide) rfl (fun ls hl => ?_)
      have cut_20 : ∀ (n : Nat) (y_21 : Int32) (y_22 : Int32) (H : Heap) (locs : List Loc) (ls : Array Slot), 20 - y_22.toInt ≤ (n : Int) → (0 ≤ y_21.toInt ∧ y_21.toInt ≤ 20) → (0 ≤ y_22.toInt ∧ y_22.toInt ≤ 20) → y_21.toInt = cnN (enP9 fa) y_22.toNatClampNeg → y_21.toInt ≤ y_22.toInt → y_22.toInt ≤ (v 40).toInt → va_P (dC, dI) vwCl (mW g0 pq cp v fa) H → va_S A s.heap H locs → lv_has ls 4 [(2, .int y_21), (3, .int y_22), (0, .ref g0), (1, .int x1)] → W p l e (headSpec wsX11_count { frames := 2, cells := 0, slots := 0, locals := 44 }).room s m #[Value.ref g0, Value.int x1] below meth c H locs 0 0 (MQ below (va_Qi (fun (r : Int32) (u : Unit) => (coA v fa x1.toInt r.toInt)) (fun _ _ => True) A) #[Value.ref g0, Value.int x1] s 0 0 A) (F0 m 129 ls []) := by
        intro n
        induction n using Nat.strongRecOn with
        | ind n ih =>
          intro y_21 y_22 H locs ls hm hy_21 hy_22 hq0_cut_20 hq1_cut_20 hq2_cut_20 hP hS hl
          refine lv_iload_n hx hb dX11_count_129 rfl (lv_at hl 1 rfl) ?_
          refine lv_aload_n hx hb dX11_count_130 rfl (lv_at hl 2 rfl) ?_
          refine va_get (D := (dC, dI)) (ci := 11) (v := .int (v 40)) (C := RX11) (T := TX11) (N := 63) hx hb hts in_wsX11_count_X11 hown hK hP 0 rfl rfl 40 (by decide) (hts (.fieldLink RX11 165 "ShipOfficeModel" "voyages" "I") iw_X11_count_3) (fun _ h9 => h9) rfl dX11_count_131 ?_
          refine lv_topi (fun x_23 ex_23 => ?_)
          have hx_23 : 0 ≤ x_23.toInt ∧ x_23.toInt ≤ 20 := iv_of ex_23 (gV 40)
          have gx_23 : x_23.toInt = (v 40).toInt := iv_to ex_23
          clear ex_23
          refine lv_icmp_ge (tgt := 160) hx hb dX11_count_134 (by decide) (fun c_24 => ?_) (fun c_24 => ?_)
          · have dc_24 := c_le (a := x_23.toInt) (b := y_22.toInt) rfl rfl c_24
            refine lv_iload_n hx hb dX11_count_160 rfl (lv_at hl 0 rfl) ?_
            exact W.iret (v := y_21) hx hb hr (fun t ht hW => ⟨⟨y_21, (), rfl, (by have hc9 := hq0_cut_20; rw [show y_22.toNatClampNeg = (v 40).toNatClampNeg from (show y_22.toInt.toNat = (v 40).toInt.toNat by omega)] at hc9; unfold coA; (first | exact Or.inl ⟨by omega, by omega⟩ | exact Or.inr (Or.inl ⟨by omega, by omega⟩) | exact Or.inr (Or.inr (Or.inl ⟨by omega, by omega⟩)) | exact Or.inr (Or.inr (Or.inr (Or.inl ⟨by omega, by omega⟩))) | exact Or.inr (Or.inr (Or.inr (Or.inr (Or.inl ⟨by omega, by omega⟩)))) | exact Or.inr (Or.inr (Or.inr (Or.inr (Or.inr (Or.inl ⟨by omega, by omega⟩))))) | exact Or.inr (Or.inr (Or.inr (Or.inr (Or.inr (Or.inr (Or.inl ⟨by omega, by omega⟩)))))) | exact Or.inr (Or.inr (Or.inr (Or.inr (Or.inr (Or.inr (Or.inr (Or.inl ⟨by omega, by omega⟩))))))) | exact Or.inr (Or.inr (Or.inr (Or.inr (Or.inr (Or.inr (Or.inr (Or.inr (Or.inl ⟨by omega, by omega⟩)))))))) | exact Or.inr (Or.inr (Or.inr (Or.inr (Or.inr (Or.inr (Or.inr (Or.inr (Or.inr (Or.inl ⟨by omega, by omega⟩))))))))) | exact Or.inr (Or.inr (Or.inr (Or.inr (Or.inr (Or.inr (Or.inr (Or.inr (Or.inr (Or.inr (Or.inl ⟨by omega, by omega⟩)))))))))) | exact Or.inr (Or.inr (Or.inr (Or.inr (Or.inr (Or.inr (Or.inr (Or.inr (Or.inr (Or.inr (Or.inr (Or.inl ⟨by omega, by omega, by omega⟩))))))))))) | exact Or.inr (Or.inr (Or.inr (Or.inr (Or.inr (Or.inr (Or.inr (Or.inr (Or.inr (Or.inr (Or.inr (Or.inr (⟨by omega, by omega⟩)))))))))))))), trivial⟩, hS.F ht⟩) hS.2.2 dX11_count_161
          · have dc_24 := c_nle (a := x_23.toInt) (b := y_22.toInt) rfl rfl c_24
            refine lv_iload_n hx hb dX11_count_137 rfl (lv_at hl 0 rfl) ?_
            refine lv_aload_n hx hb dX11_count_138 rfl (lv_at hl 2 rfl) ?_
            refine va_get (D := (dC, dI)) (ci := 11) (v := .ref (pq 9)) (C := RX11) (T := TX11) (N := 63) hx hb hts in_wsX11_count_X11 hown hK hP 0 rfl rfl 9 (by decide) (hts (.fieldLink RX11 37 "ShipOfficeModel" "endedOn" "[I") iw_X11_count_4) (fun _ h9 => h9) rfl dX11_count_139 ?_
            refine lv_iload_n hx hb dX11_count_142 rfl (lv_at hl 1 rfl) ?_
            refine va_iald hx hb hK hP 10 9 rfl rfl (vp_in_iff.mpr (by omega)) dX11_count_143 ?_
            refine lv_topi (fun x_25 ex_25 => ?_)
            have gx_25 : x_25.toInt = (fa 9 (y_22 : Int32).toNatClampNeg).toInt := iv_to ex_25
            clear ex_25
            refine lv_if_ge (tgt := 151) hx hb dX11_count_144 (by decide) (fun c_26 => ?_) (fun c_26 => ?_)
            · have dc_26 := c_le (a := 0) (b := x_25.toInt) (by decide) rfl c_26
              refine lv_iconst (v := 0) hx hb dX11_count_151 (by decide) ?_
              refine lv_iadd hx hb dX11_count_152 ?_
              refine lv_topi (fun x_27 ex_27 => ?_)
              have hx_27 : x_27.toInt = y_21.toInt + 0 := (iv_to ex_27).trans (ad_i rfl (by decide) (by omega) (by omega))
              refine lv_istore_n (lv' := [(2, .int x_27), (3, .int y_22), (0, .ref g0), (1, .int x1)]) hx hb dX11_count_153 rfl hl (by decide) rfl (fun ls hl => ?_)
              obtain ⟨x_28, ex_28⟩ : ∃ zq : Int32, y_22 + 1 = zq := ⟨_, rfl⟩
              have hx_28 : x_28.toInt = y_22.toInt + 1 := (iv_to ex_28).symm.trans (ad_i rfl (by decide) (by omega) (by omega))
              refine lv_iinc (v := x_28) (lv' := [(3, .int x_28), (2, .int x_27), (0, .ref g0), (1, .int x1)]) hx hb dX11_count_154 hl (k := 1) rfl ex_28 (by decide) rfl (fun ls hl => ?_)
              clear ex_28
              refine lv_goto (tgt := 129) hx hb dX11_count_157 (by decide) ?_
              exact ih (n - 1) (by omega) x_27 x_28 _ _ ls (by omega) (by omega) (by omega) (cnN_s hq0_cut_20 (by omega) (by omega) (show x_27.toInt = y_21.toInt + b01 (enP9 fa y_22.toNatClampNeg) from by have bq := b01_i (enP9 fa y_22.toNatClampNeg); have q9 : (b01 (enP9 fa y_22.toNatClampNeg) = 1 ∧ (fa 9 y_22.toNatClampNeg).toInt < 0) ∨ (b01 (enP9 fa y_22.toNatClampNeg) = 0 ∧ 0 ≤ (fa 9 y_22.toNatClampNeg).toInt) := en_b fa _; omega)) (by omega) (by omega) hP hS (lv_sub hl [1, 0, 2, 3] rfl)
            · have dc_26 := c_nle (a := 0) (b := x_25.toInt) (by decide) rfl c_26
              refine lv_iconst (v := 1) hx hb dX11_count_147 (by decide) ?_
              refine lv_goto (tgt := 152) hx hb dX11_count_148 (by decide) ?_
              refine lv_iadd hx hb dX11_count_152 ?_
              refine lv_topi (fun x_29 ex_29 => ?_)
              have hx_29 : x_29.toInt = y_21.toInt + 1 := (iv_to ex_29).trans (ad_i rfl (by decide) (by omega) (by omega))
              refine lv_istore_n (lv' := [(2, .int x_29), (3, .int y_22), (0, .ref g0), (1, .int x1)]) hx hb dX11_count_153 rfl hl (by decide) rfl (fun ls hl => ?_)
              obtain ⟨x_30, ex_30⟩ : ∃ zq : Int32, y_22 + 1 = zq := ⟨_, rfl⟩
              have hx_30 : x_30.toInt = y_22.toInt + 1 := (iv_to ex_30).symm.trans (ad_i rfl (by decide) (by omega) (by omega))
              refine lv_iinc (v := x_30) (lv' := [(3, .int x_30), (2, .int x_29), (0, .ref g0), (1, .int x1)]) hx hb dX11_count_154 hl (k := 1) rfl ex_30 (by decide) rfl (fun ls hl => ?_)
              clear ex_30
              refine lv_goto (tgt := 129) hx hb dX11_count_157 (by decide) ?_
              exact ih (n - 1) (by omega) x_29 x_30 _ _ ls (by omega) (by omega) (by omega) (cnN_s hq0_cut_20 (by omega) (by omega) (show x_29.toInt = y_21.toInt + b01 (enP9 fa y_22.toNatClampNeg) from by have bq := b01_i (enP9 fa y_22.toNatClampNeg); have q9 : (b01 (enP9 fa y_22.toNatClampNeg) = 1 ∧ (fa 9 y_22.toNatClampNeg).toInt < 0) ∨ (b01 (enP9 fa y_22.toNatClampNeg) = 0 ∧ 0 ≤ (fa 9 y_22.toNatClampNeg).toInt) := en_b fa _; omega)) (by omega) (by omega) hP hS (lv_sub hl [1, 0, 2, 3] rfl)
      have kc_31 : (0 : Int32).toInt = 0 := by decide
      exact cut_20 21 0 0 _ _ ls (by omega) (by decide) (by decide) (cnN_0 (by decide) (by decide)) (by decide) (by have rc : (0 : Int32).toInt = 0 := (by decide); omega) hP hS (lv_sub hl [1, 0, 2, 3] rfl)
    have n_32 := c_ne (a := x1.toInt) (b := 3) rfl (by decide) q_19
    by_cases q_33 : x1 = 4
    · have kq_33 : x1.toInt = 4 := by rw [q_33]; decide
      refine lv_topi (fun y ey => ?_)
      obtain rfl : y = 4 := ey.trans q_33
      refine lv_tableIn (x := 4) (off := 137) (tgt := 162) hx hb dX11_count_25 (by decide) (by decide) (by decide) (by decide) ?_
      refine lv_aload_n hx hb dX11_count_162 rfl (lv_at hl 1 rfl) ?_
      refine va_get (D := (dC, dI)) (ci := 11) (v := .int (v 43)) (C := RX11) (T := TX11) (N := 63) hx hb hts in_wsX11_count_X11 hown hK hP 0 rfl rfl 43 (by decide) (hts (.fieldLink RX11 168 "ShipOfficeModel" "agreements" "I") iw_X11_count_5) (fun _ h9 => h9) rfl dX11_count_163 ?_
      refine lv_topi (fun x_34 ex_34 => ?_)
      have hx_34 : 0 ≤ x_34.toInt ∧ x_34.toInt ≤ 60 := iv_of ex_34 (gV 43)
      have gx_34 : x_34.toInt = (v 43).toInt := iv_to ex_34
      clear ex_34
      exact W.iret (v := x_34) hx hb hr (fun t ht hW => ⟨⟨x_34, (), rfl, (by unfold coA; (first | exact Or.inl ⟨by omega, by omega⟩ | exact Or.inr (Or.inl ⟨by omega, by omega⟩) | exact Or.inr (Or.inr (Or.inl ⟨by omega, by omega⟩)) | exact Or.inr (Or.inr (Or.inr (Or.inl ⟨by omega, by omega⟩))) | exact Or.inr (Or.inr (Or.inr (Or.inr (Or.inl ⟨by omega, by omega⟩)))) | exact Or.inr (Or.inr (Or.inr (Or.inr (Or.inr (Or.inl ⟨by omega, by omega⟩))))) | exact Or.inr (Or.inr (Or.inr (Or.inr (Or.inr (Or.inr (Or.inl ⟨by omega, by omega⟩)))))) | exact Or.inr (Or.inr (Or.inr (Or.inr (Or.inr (Or.inr (Or.inr (Or.inl ⟨by omega, by omega⟩))))))) | exact Or.inr (Or.inr (Or.inr (Or.inr (Or.inr (Or.inr (Or.inr (Or.inr (Or.inl ⟨by omega, by omega⟩)))))))) | exact Or.inr (Or.inr (Or.inr (Or.inr (Or.inr (Or.inr (Or.inr (Or.inr (Or.inr (Or.inl ⟨by omega, by omega⟩))))))))) | exact Or.inr (Or.inr (Or.inr (Or.inr (Or.inr (Or.inr (Or.inr (Or.inr (Or.inr (Or.inr (Or.inl ⟨by omega, by omega⟩)))))))))) | exact Or.inr (Or.inr (Or.inr (Or.inr (Or.inr (Or.inr (Or.inr (Or.inr (Or.inr (Or.inr (Or.inr (Or.inl ⟨by omega, by omega, by omega⟩))))))))))) | exact Or.inr (Or.inr (Or.inr (Or.inr (Or.inr (Or.inr (Or.inr (Or.inr (Or.inr (Or.inr (Or.inr (Or.inr (⟨by omega, by omega⟩)))))))))))))), trivial⟩, hS.F ht⟩) hS.2.2 dX11_count_166
    have n_35 := c_ne (a := x1.toInt) (b := 4) rfl (by decide) q_33
    by_cases q_36 : x1 = 5
    · have kq_36 : x1.toInt = 5 := by rw [q_36]; decide
      refine lv_topi (fun y ey => ?_)
      obtain rfl : y = 5 := ey.trans q_36
      refine lv_tableIn (x := 5) (off := 142) (tgt := 167) hx hb dX11_count_25 (by decide) (by decide) (by decide) (by decide) ?_
      refine lv_iconst (v := 0) hx hb dX11_count_167 (by decide) ?_
      refine lv_istore_n (lv' := [(3, .int 0), (2, .int 0), (0, .ref g0), (1, .int x1)]) hx hb dX11_count_168 rfl hl (by decide) rfl (fun ls hl => ?_)
      have cut_37 : ∀ (n : Nat) (y_38 : Int32) (y_39 : Int32) (H : Heap) (locs : List Loc) (ls : Array Slot), 60 - y_39.toInt ≤ (n : Int) → (0 ≤ y_38.toInt ∧ y_38.toInt ≤ 60) → (0 ≤ y_39.toInt ∧ y_39.toInt ≤ 60) → y_38.toInt = cnN (gnP9 v fa) y_39.toNatClampNeg → y_38.toInt ≤ y_39.toInt → y_39.toInt ≤ (v 43).toInt → va_P (dC, dI) vwCl (mW g0 pq cp v fa) H → va_S A s.heap H locs → lv_has ls 4 [(2, .int y_38), (3, .int y_39), (0, .ref g0), (1, .int x1)] → W p l e (headSpec wsX11_count { frames := 2, cells := 0, slots := 0, locals := 44 }).room s m #[Value.ref g0, Value.int x1] below meth c H locs 0 0 (MQ below (va_Qi (fun (r : Int32) (u : Unit) => (coA v fa x1.toInt r.toInt)) (fun _ _ => True) A) #[Value.ref g0, Value.int x1] s 0 0 A) (F0 m 169 ls []) := by
        intro n
        induction n using Nat.strongRecOn with
        | ind n ih =>
          intro y_38 y_39 H locs ls hm hy_38 hy_39 hq0_cut_37 hq1_cut_37 hq2_cut_37 hP hS hl
          refine lv_iload_n hx hb dX11_count_169 rfl (lv_at hl 1 rfl) ?_
          refine lv_aload_n hx hb dX11_count_170 rfl (lv_at hl 2 rfl) ?_
          refine va_get (D := (dC, dI)) (ci := 11) (v := .int (v 43)) (C := RX11) (T := TX11) (N := 63) hx hb hts in_wsX11_count_X11 hown hK hP 0 rfl rfl 43 (by decide) (hts (.fieldLink RX11 168 "ShipOfficeModel" "agreements" "I") iw_X11_count_5) (fun _ h9 => h9) rfl dX11_count_171 ?_
          refine lv_topi (fun x_40 ex_40 => ?_)
          have hx_40 : 0 ≤ x_40.toInt ∧ x_40.toInt ≤ 60 := iv_of ex_40 (gV 43)
          have gx_40 : x_40.toInt = (v 43).toInt := iv_to ex_40
          clear ex_40
          refine lv_icmp_ge (tgt := 199) hx hb dX11_count_174 (by decide) (fun c_41 => ?_) (fun c_41 => ?_)
          · have dc_41 := c_le (a := x_40.toInt) (b := y_39.toInt) rfl rfl c_41
            refine lv_iload_n hx hb dX11_count_199 rfl (lv_at hl 0 rfl) ?_
            exact W.iret (v := y_38) hx hb hr (fun t ht hW => ⟨⟨y_38, (), rfl, (by have hc9 := hq0_cut_37; rw [show y_39.toNatClampNeg = (v 43).toNatClampNeg from (show y_39.toInt.toNat = (v 43).toInt.toNat by omega)] at hc9; unfold coA; (first | exact Or.inl ⟨by omega, by omega⟩ | exact Or.inr (Or.inl ⟨by omega, by omega⟩) | exact Or.inr (Or.inr (Or.inl ⟨by omega, by omega⟩)) | exact Or.inr (Or.inr (Or.inr (Or.inl ⟨by omega, by omega⟩))) | exact Or.inr (Or.inr (Or.inr (Or.inr (Or.inl ⟨by omega, by omega⟩)))) | exact Or.inr (Or.inr (Or.inr (Or.inr (Or.inr (Or.inl ⟨by omega, by omega⟩))))) | exact Or.inr (Or.inr (Or.inr (Or.inr (Or.inr (Or.inr (Or.inl ⟨by omega, by omega⟩)))))) | exact Or.inr (Or.inr (Or.inr (Or.inr (Or.inr (Or.inr (Or.inr (Or.inl ⟨by omega, by omega⟩))))))) | exact Or.inr (Or.inr (Or.inr (Or.inr (Or.inr (Or.inr (Or.inr (Or.inr (Or.inl ⟨by omega, by omega⟩)))))))) | exact Or.inr (Or.inr (Or.inr (Or.inr (Or.inr (Or.inr (Or.inr (Or.inr (Or.inr (Or.inl ⟨by omega, by omega⟩))))))))) | exact Or.inr (Or.inr (Or.inr (Or.inr (Or.inr (Or.inr (Or.inr (Or.inr (Or.inr (Or.inr (Or.inl ⟨by omega, by omega⟩)))))))))) | exact Or.inr (Or.inr (Or.inr (Or.inr (Or.inr (Or.inr (Or.inr (Or.inr (Or.inr (Or.inr (Or.inr (Or.inl ⟨by omega, by omega, by omega⟩))))))))))) | exact Or.inr (Or.inr (Or.inr (Or.inr (Or.inr (Or.inr (Or.inr (Or.inr (Or.inr (Or.inr (Or.inr (Or.inr (⟨by omega, by omega⟩)))))))))))))), trivial⟩, hS.F ht⟩) hS.2.2 dX11_count_200
          · have dc_41 := c_nle (a := x_40.toInt) (b := y_39.toInt) rfl rfl c_41
            refine lv_iload_n hx hb dX11_count_177 rfl (lv_at hl 0 rfl) ?_
            refine lv_aload_n hx hb dX11_count_178 rfl (lv_at hl 2 rfl) ?_
            refine lv_iload_n hx hb dX11_count_179 rfl (lv_at hl 1 rfl) ?_
            have hFc : ∀ q, va_A [] H.size q → A q := pu_free hS hA
            refine va_calli (va_runV (As := [.int y_39]) (rest := [.int y_38]) ⟨hx, hb, hml, hown, hts⟩ (c_X11_goesOn_f l dC dI H.size g0 pq cp v fa gV gA y_39 (by omega)) (cwV 1 hts gX11_count_X11_goesOn rfl rfl rfl (by decide +kernel) ⟨(Nat.le_of_ble_eq_true rfl), (Nat.le_of_ble_eq_true rfl)⟩) (pr_V (r := (RX11, TX11, 63)) hP hK hD 0 11 rfl rfl) rfl rfl hl.1 rfl (lv_room (Nat.le_of_ble_eq_true rfl)) dX11_count_180 ⟨(Nat.le_of_ble_eq_true rfl), (Nat.le_of_ble_eq_true rfl)⟩) hS (fun q _ h => hFc q h) hFc (fun r_43 u t H locs ht hvm w_42 hB hz1 hk1 hS => ?_)
            have hP := pu_keep hP hk1
            clear hk1 hz1 hvm hB ht hFc
            obtain ⟨hb_44, hx_45⟩ := w_42
            refine lv_if_eq (tgt := 190) hx hb dX11_count_183 (by decide) (fun c_46 => ?_) (fun c_46 => ?_)
            · have dc_46 := c_eq (a := r_43.toInt) (b := 0) rfl (by decide) c_46
              refine lv_iconst (v := 0) hx hb dX11_count_190 (by decide) ?_
              refine lv_iadd hx hb dX11_count_191 ?_
              refine lv_topi (fun x_47 ex_47 => ?_)
              have hx_47 : x_47.toInt = y_38.toInt + 0 := (iv_to ex_47).trans (ad_i rfl (by decide) (by omega) (by omega))
              refine lv_istore_n (lv' := [(2, .int x_47), (3, .int y_39), (0, .ref g0), (1, .int x1)]) hx hb dX11_count_192 rfl hl (by decide) rfl (fun ls hl => ?_)
              obtain ⟨x_48, ex_48⟩ : ∃ zq : Int32, y_39 + 1 = zq := ⟨_, rfl⟩
              have hx_48 : x_48.toInt = y_39.toInt + 1 := (iv_to ex_48).symm.trans (ad_i rfl (by decide) (by omega) (by omega))
              refine lv_iinc (v := x_48) (lv' := [(3, .int x_48), (2, .int x_47), (0, .ref g0), (1, .int x1)]) hx hb dX11_count_193 hl (k := 1) rfl ex_48 (by decide) rfl (fun ls hl => ?_)
              clear ex_48
              refine lv_goto (tgt := 169) hx hb dX11_count_196 (by decide) ?_
              exact ih (n - 1) (by omega) x_47 x_48 _ _ ls (by omega) (by omega) (by omega) (cnN_s hq0_cut_37 (by omega) (by omega) (show x_47.toInt = y_38.toInt + b01 (gnP9 v fa y_39.toNatClampNeg) from by have bq := b01_i (gnP9 v fa y_39.toNatClampNeg); have q9 : gonI v fa y_39.toNatClampNeg = b01 (gnP9 v fa y_39.toNatClampNeg) := gn_b v fa _; omega)) (by omega) (by omega) hP hS (lv_sub hl [1, 0, 2, 3] rfl)
            · have dc_46 := c_ne (a := r_43.toInt) (b := 0) rfl (by decide) c_46
              refine lv_iconst (v := 1) hx hb dX11_count_186 (by decide) ?_
              refine lv_goto (tgt := 191) hx hb dX11_count_187 (by decide) ?_
              refine lv_iadd hx hb dX11_count_191 ?_
              refine lv_topi (fun x_49 ex_49 => ?_)
              have hx_49 : x_49.toInt = y_38.toInt + 1 := (iv_to ex_49).trans (ad_i rfl (by decide) (by omega) (by omega))
              refine lv_istore_n (lv' := [(2, .int x_49), (3, .int y_39), (0, .ref g0), (1, .int x1)]) hx hb dX11_count_192 rfl hl (by decide) rfl (fun ls hl => ?_)
              obtain ⟨x_50, ex_50⟩ : ∃ zq : Int32, y_39 + 1 = zq := ⟨_, rfl⟩
              have hx_50 : x_50.toInt = y_39.toInt + 1 := (iv_to ex_50).symm.trans (ad_i rfl (by decide) (by omega) (by omega))
              refine lv_iinc (v := x_50) (lv' := [(3, .int x_50), (2, .int x_49), (0, .ref g0), (1, .int x1)]) hx hb dX11_count_193 hl (k := 1) rfl ex_50 (by decide) rfl (fun ls hl => ?_)
              clear ex_50
              refine lv_goto (tgt := 169) hx hb dX11_count_196 (by decide) ?_
              exact ih (n - 1) (by omega) x_49 x_50 _ _ ls (by omega) (by omega) (by omega) (cnN_s hq0_cut_37 (by omega) (by omega) (show x_49.toInt = y_38.toInt + b01 (gnP9 v fa y_39.toNatClampNeg) from by have bq := b01_i (gnP9 v fa y_39.toNatClampNeg); have q9 : gonI v fa y_39.toNatClampNeg = b01 (gnP9 v fa y_39.toNatClampNeg) := gn_b v fa _; omega)) (by omega) (by omega) hP hS (lv_sub hl [1, 0, 2, 3] rfl)
      have kc_51 : (0 : Int32).toInt = 0 := by decide
      exact cut_37 61 0 0 _ _ ls (by omega) (by decide) (by decide) (cnN_0 (by decide) (by decide)) (by decide) (by have rc : (0 : Int32).toInt = 0 := (by decide); omega) hP hS (lv_sub hl [1, 0, 2, 3] rfl)
    have n_52 := c_ne (a := x1.toInt) (b := 5) rfl (by decide) q_36
    by_cases q_53 : x1 = 6
    · have kq_53 : x1.toInt = 6 := by rw [q_53]; decide
      refine lv_topi (fun y ey => ?_)
      obtain rfl : y = 6 := ey.trans q_53
      refine lv_tableIn (x := 6) (off := 176) (tgt := 201) hx hb dX11_count_25 (by decide) (by decide) (by decide) (by decide) ?_
      refine lv_aload_n hx hb dX11_count_201 rfl (lv_at hl 1 rfl) ?_
      refine va_get (D := (dC, dI)) (ci := 11) (v := .int (v 41)) (C := RX11) (T := TX11) (N := 63) hx hb hts in_wsX11_count_X11 hown hK hP 0 rfl rfl 41 (by decide) (hts (.fieldLink RX11 179 "ShipOfficeModel" "happened" "I") iw_X11_count_6) (fun _ h9 => h9) rfl dX11_count_202 ?_
      refine lv_topi (fun x_54 ex_54 => ?_)
      have hx_54 : 0 ≤ x_54.toInt ∧ x_54.toInt ≤ 200 := iv_of ex_54 (gV 41)
      have gx_54 : x_54.toInt = (v 41).toInt := iv_to ex_54
      clear ex_54
      exact W.iret (v := x_54) hx hb hr (fun t ht hW => ⟨⟨x_54, (), rfl, (by unfold coA; (first | exact Or.inl ⟨by omega, by omega⟩ | exact Or.inr (Or.inl ⟨by omega, by omega⟩) | exact Or.inr (Or.inr (Or.inl ⟨by omega, by omega⟩)) | exact Or.inr (Or.inr (Or.inr (Or.inl ⟨by omega, by omega⟩))) | exact Or.inr (Or.inr (Or.inr (Or.inr (Or.inl ⟨by omega, by omega⟩)))) | exact Or.inr (Or.inr (Or.inr (Or.inr (Or.inr (Or.inl ⟨by omega, by omega⟩))))) | exact Or.inr (Or.inr (Or.inr (Or.inr (Or.inr (Or.inr (Or.inl ⟨by omega, by omega⟩)))))) | exact Or.inr (Or.inr (Or.inr (Or.inr (Or.inr (Or.inr (Or.inr (Or.inl ⟨by omega, by omega⟩))))))) | exact Or.inr (Or.inr (Or.inr (Or.inr (Or.inr (Or.inr (Or.inr (Or.inr (Or.inl ⟨by omega, by omega⟩)))))))) | exact Or.inr (Or.inr (Or.inr (Or.inr (Or.inr (Or.inr (Or.inr (Or.inr (Or.inr (Or.inl ⟨by omega, by omega⟩))))))))) | exact Or.inr (Or.inr (Or.inr (Or.inr (Or.inr (Or.inr (Or.inr (Or.inr (Or.inr (Or.inr (Or.inl ⟨by omega, by omega⟩)))))))))) | exact Or.inr (Or.inr (Or.inr (Or.inr (Or.inr (Or.inr (Or.inr (Or.inr (Or.inr (Or.inr (Or.inr (Or.inl ⟨by omega, by omega, by omega⟩))))))))))) | exact Or.inr (Or.inr (Or.inr (Or.inr (Or.inr (Or.inr (Or.inr (Or.inr (Or.inr (Or.inr (Or.inr (Or.inr (⟨by omega, by omega⟩)))))))))))))), trivial⟩, hS.F ht⟩) hS.2.2 dX11_count_205
    have n_55 := c_ne (a := x1.toInt) (b := 6) rfl (by decide) q_53
    by_cases q_56 : x1 = 7
    · have kq_56 : x1.toInt = 7 := by rw [q_56]; decide
      refine lv_topi (fun y ey => ?_)
      obtain rfl : y = 7 := ey.trans q_56
      refine lv_tableIn (x := 7) (off := 181) (tgt := 206) hx hb dX11_count_25 (by decide) (by decide) (by decide) (by decide) ?_
      refine lv_aload_n hx hb dX11_count_206 rfl (lv_at hl 1 rfl) ?_
      refine va_get (D := (dC, dI)) (ci := 11) (v := .int (v 42)) (C := RX11) (T := TX11) (N := 63) hx hb hts in_wsX11_count_X11 hown hK hP 0 rfl rfl 42 (by decide) (hts (.fieldLink RX11 256 "ShipOfficeModel" "acts" "I") iw_X11_count_7) (fun _ h9 => h9) rfl dX11_count_207 ?_
      refine lv_topi (fun x_57 ex_57 => ?_)
      have hx_57 : 0 ≤ x_57.toInt ∧ x_57.toInt ≤ 30 := iv_of ex_57 (gV 42)
      have gx_57 : x_57.toInt = (v 42).toInt := iv_to ex_57
      clear ex_57
      exact W.iret (v := x_57) hx hb hr (fun t ht hW => ⟨⟨x_57, (), rfl, (by unfold coA; (first | exact Or.inl ⟨by omega, by omega⟩ | exact Or.inr (Or.inl ⟨by omega, by omega⟩) | exact Or.inr (Or.inr (Or.inl ⟨by omega, by omega⟩)) | exact Or.inr (Or.inr (Or.inr (Or.inl ⟨by omega, by omega⟩))) | exact Or.inr (Or.inr (Or.inr (Or.inr (Or.inl ⟨by omega, by omega⟩)))) | exact Or.inr (Or.inr (Or.inr (Or.inr (Or.inr (Or.inl ⟨by omega, by omega⟩))))) | exact Or.inr (Or.inr (Or.inr (Or.inr (Or.inr (Or.inr (Or.inl ⟨by omega, by omega⟩)))))) | exact Or.inr (Or.inr (Or.inr (Or.inr (Or.inr (Or.inr (Or.inr (Or.inl ⟨by omega, by omega⟩))))))) | exact Or.inr (Or.inr (Or.inr (Or.inr (Or.inr (Or.inr (Or.inr (Or.inr (Or.inl ⟨by omega, by omega⟩)))))))) | exact Or.inr (Or.inr (Or.inr (Or.inr (Or.inr (Or.inr (Or.inr (Or.inr (Or.inr (Or.inl ⟨by omega, by omega⟩))))))))) | exact Or.inr (Or.inr (Or.inr (Or.inr (Or.inr (Or.inr (Or.inr (Or.inr (Or.inr (Or.inr (Or.inl ⟨by omega, by omega⟩)))))))))) | exact Or.inr (Or.inr (Or.inr (Or.inr (Or.inr (Or.inr (Or.inr (Or.inr (Or.inr (Or.inr (Or.inr (Or.inl ⟨by omega, by omega, by omega⟩))))))))))) | exact Or.inr (Or.inr (Or.inr (Or.inr (Or.inr (Or.inr (Or.inr (Or.inr (Or.inr (Or.inr (Or.inr (Or.inr (⟨by omega, by omega⟩)))))))))))))), trivial⟩, hS.F ht⟩) hS.2.2 dX11_count_210
    have n_58 := c_ne (a := x1.toInt) (b := 7) rfl (by decide) q_56
    by_cases q_59 : x1 = 8
    · have kq_59 : x1.toInt = 8 := by rw [q_59]; decide
      refine lv_topi (fun y ey => ?_)
      obtain rfl : y = 8 := ey.trans q_59
      refine lv_tableIn (x := 8) (off := 186) (tgt := 211) hx hb dX11_count_25 (by decide) (by decide) (by decide) (by decide) ?_
      refine lv_aload_n hx hb dX11_count_211 rfl (lv_at hl 1 rfl) ?_
      refine va_get (D := (dC, dI)) (ci := 11) (v := .int (v 46)) (C := RX11) (T := TX11) (N := 63) hx hb hts in_wsX11_count_X11 hown hK hP 0 rfl rfl 46 (by decide) (hts (.fieldLink RX11 205 "ShipOfficeModel" "taped" "I") iw_X11_count_8) (fun _ h9 => h9) rfl dX11_count_212 ?_
      refine lv_topi (fun x_60 ex_60 => ?_)
      have hx_60 : 0 ≤ x_60.toInt ∧ x_60.toInt ≤ 60 := iv_of ex_60 (gV 46)
      have gx_60 : x_60.toInt = (v 46).toInt := iv_to ex_60
      clear ex_60
      exact W.iret (v := x_60) hx hb hr (fun t ht hW => ⟨⟨x_60, (), rfl, (by unfold coA; (first | exact Or.inl ⟨by omega, by omega⟩ | exact Or.inr (Or.inl ⟨by omega, by omega⟩) | exact Or.inr (Or.inr (Or.inl ⟨by omega, by omega⟩)) | exact Or.inr (Or.inr (Or.inr (Or.inl ⟨by omega, by omega⟩))) | exact Or.inr (Or.inr (Or.inr (Or.inr (Or.inl ⟨by omega, by omega⟩)))) | exact Or.inr (Or.inr (Or.inr (Or.inr (Or.inr (Or.inl ⟨by omega, by omega⟩))))) | exact Or.inr (Or.inr (Or.inr (Or.inr (Or.inr (Or.inr (Or.inl ⟨by omega, by omega⟩)))))) | exact Or.inr (Or.inr (Or.inr (Or.inr (Or.inr (Or.inr (Or.inr (Or.inl ⟨by omega, by omega⟩))))))) | exact Or.inr (Or.inr (Or.inr (Or.inr (Or.inr (Or.inr (Or.inr (Or.inr (Or.inl ⟨by omega, by omega⟩)))))))) | exact Or.inr (Or.inr (Or.inr (Or.inr (Or.inr (Or.inr (Or.inr (Or.inr (Or.inr (Or.inl ⟨by omega, by omega⟩))))))))) | exact Or.inr (Or.inr (Or.inr (Or.inr (Or.inr (Or.inr (Or.inr (Or.inr (Or.inr (Or.inr (Or.inl ⟨by omega, by omega⟩)))))))))) | exact Or.inr (Or.inr (Or.inr (Or.inr (Or.inr (Or.inr (Or.inr (Or.inr (Or.inr (Or.inr (Or.inr (Or.inl ⟨by omega, by omega, by omega⟩))))))))))) | exact Or.inr (Or.inr (Or.inr (Or.inr (Or.inr (Or.inr (Or.inr (Or.inr (Or.inr (Or.inr (Or.inr (Or.inr (⟨by omega, by omega⟩)))))))))))))), trivial⟩, hS.F ht⟩) hS.2.2 dX11_count_215
    have n_61 := c_ne (a := x1.toInt) (b := 8) rfl (by decide) q_59
    by_cases q_62 : x1 = 9
    · have kq_62 : x1.toInt = 9 := by rw [q_62]; decide
      refine lv_topi (fun y ey => ?_)
      obtain rfl : y = 9 := ey.trans q_62
      refine lv_tableIn (x := 9) (off := 191) (tgt := 216) hx hb dX11_count_25 (by decide) (by decide) (by decide) (by decide) ?_
      refine lv_aload_n hx hb dX11_count_216 rfl (lv_at hl 1 rfl) ?_
      refine va_get (D := (dC, dI)) (ci := 11) (v := .int (v 62)) (C := RX11) (T := TX11) (N := 63) hx hb hts in_wsX11_count_X11 hown hK hP 0 rfl rfl 62 (by decide) (hts (.fieldLink RX11 357 "ShipOfficeModel" "rowed" "I") iw_X11_count_9) (fun _ h9 => h9) rfl dX11_count_217 ?_
      refine lv_topi (fun x_63 ex_63 => ?_)
      have hx_63 : 0 ≤ x_63.toInt ∧ x_63.toInt ≤ 12 := iv_of ex_63 (gV 62)
      have gx_63 : x_63.toInt = (v 62).toInt := iv_to ex_63
      clear ex_63
      exact W.iret (v := x_63) hx hb hr (fun t ht hW => ⟨⟨x_63, (), rfl, (by unfold coA; (first | exact Or.inl ⟨by omega, by omega⟩ | exact Or.inr (Or.inl ⟨by omega, by omega⟩) | exact Or.inr (Or.inr (Or.inl ⟨by omega, by omega⟩)) | exact Or.inr (Or.inr (Or.inr (Or.inl ⟨by omega, by omega⟩))) | exact Or.inr (Or.inr (Or.inr (Or.inr (Or.inl ⟨by omega, by omega⟩)))) | exact Or.inr (Or.inr (Or.inr (Or.inr (Or.inr (Or.inl ⟨by omega, by omega⟩))))) | exact Or.inr (Or.inr (Or.inr (Or.inr (Or.inr (Or.inr (Or.inl ⟨by omega, by omega⟩)))))) | exact Or.inr (Or.inr (Or.inr (Or.inr (Or.inr (Or.inr (Or.inr (Or.inl ⟨by omega, by omega⟩))))))) | exact Or.inr (Or.inr (Or.inr (Or.inr (Or.inr (Or.inr (Or.inr (Or.inr (Or.inl ⟨by omega, by omega⟩)))))))) | exact Or.inr (Or.inr (Or.inr (Or.inr (Or.inr (Or.inr (Or.inr (Or.inr (Or.inr (Or.inl ⟨by omega, by omega⟩))))))))) | exact Or.inr (Or.inr (Or.inr (Or.inr (Or.inr (Or.inr (Or.inr (Or.inr (Or.inr (Or.inr (Or.inl ⟨by omega, by omega⟩)))))))))) | exact Or.inr (Or.inr (Or.inr (Or.inr (Or.inr (Or.inr (Or.inr (Or.inr (Or.inr (Or.inr (Or.inr (Or.inl ⟨by omega, by omega, by omega⟩))))))))))) | exact Or.inr (Or.inr (Or.inr (Or.inr (Or.inr (Or.inr (Or.inr (Or.inr (Or.inr (Or.inr (Or.inr (Or.inr (⟨by omega, by omega⟩)))))))))))))), trivial⟩, hS.F ht⟩) hS.2.2 dX11_count_220
    have n_64 := c_ne (a := x1.toInt) (b := 9) rfl (by decide) q_62
    by_cases q_65 : x1 = 10
    · have kq_65 : x1.toInt = 10 := by rw [q_65]; decide
      refine lv_topi (fun y ey => ?_)
      obtain rfl : y = 10 := ey.trans q_65
      refine lv_tableIn (x := 10) (off := 230) (tgt := 255) hx hb dX11_count_25 (by decide) (by decide) (by decide) (by decide) ?_
      refine lv_bipush (v := (-9)) hx hb dX11_count_255 (by decide) ?_
      exact W.iret (v := (-9)) hx hb hr (fun t ht hW => ⟨⟨(-9), (), rfl, (by have rc : ((-9) : Int32).toInt = -9 := (by decide); unfold coA; (first | exact Or.inl ⟨by omega, by omega⟩ | exact Or.inr (Or.inl ⟨by omega, by omega⟩) | exact Or.inr (Or.inr (Or.inl ⟨by omega, by omega⟩)) | exact Or.inr (Or.inr (Or.inr (Or.inl ⟨by omega, by omega⟩))) | exact Or.inr (Or.inr (Or.inr (Or.inr (Or.inl ⟨by omega, by omega⟩)))) | exact Or.inr (Or.inr (Or.inr (Or.inr (Or.inr (Or.inl ⟨by omega, by omega⟩))))) | exact Or.inr (Or.inr (Or.inr (Or.inr (Or.inr (Or.inr (Or.inl ⟨by omega, by omega⟩)))))) | exact Or.inr (Or.inr (Or.inr (Or.inr (Or.inr (Or.inr (Or.inr (Or.inl ⟨by omega, by omega⟩))))))) | exact Or.inr (Or.inr (Or.inr (Or.inr (Or.inr (Or.inr (Or.inr (Or.inr (Or.inl ⟨by omega, by omega⟩)))))))) | exact Or.inr (Or.inr (Or.inr (Or.inr (Or.inr (Or.inr (Or.inr (Or.inr (Or.inr (Or.inl ⟨by omega, by omega⟩))))))))) | exact Or.inr (Or.inr (Or.inr (Or.inr (Or.inr (Or.inr (Or.inr (Or.inr (Or.inr (Or.inr (Or.inl ⟨by omega, by omega⟩)))))))))) | exact Or.inr (Or.inr (Or.inr (Or.inr (Or.inr (Or.inr (Or.inr (Or.inr (Or.inr (Or.inr (Or.inr (Or.inl ⟨by omega, by omega, by omega⟩))))))))))) | exact Or.inr (Or.inr (Or.inr (Or.inr (Or.inr (Or.inr (Or.inr (Or.inr (Or.inr (Or.inr (Or.inr (Or.inr (⟨by omega, by omega⟩)))))))))))))), trivial⟩, hS.F ht⟩) hS.2.2 dX11_count_257
    have n_66 := c_ne (a := x1.toInt) (b := 10) rfl (by decide) q_65
    by_cases q_67 : x1 = 11
    · have kq_67 : x1.toInt = 11 := by rw [q_67]; decide
      refine lv_topi (fun y ey => ?_)
      obtain rfl : y = 11 := ey.trans q_67
      refine lv_tableIn (x := 11) (off := 230) (tgt := 255) hx hb dX11_count_25 (by decide) (by decide) (by decide) (by decide) ?_
      refine lv_bipush (v := (-9)) hx hb dX11_count_255 (by decide) ?_
      exact W.iret (v := (-9)) hx hb hr (fun t ht hW => ⟨⟨(-9), (), rfl, (by have rc : ((-9) : Int32).toInt = -9 := (by decide); unfold coA; (first | exact Or.inl ⟨by omega, by omega⟩ | exact Or.inr (Or.inl ⟨by omega, by omega⟩) | exact Or.inr (Or.inr (Or.inl ⟨by omega, by omega⟩)) | exact Or.inr (Or.inr (Or.inr (Or.inl ⟨by omega, by omega⟩))) | exact Or.inr (Or.inr (Or.inr (Or.inr (Or.inl ⟨by omega, by omega⟩)))) | exact Or.inr (Or.inr (Or.inr (Or.inr (Or.inr (Or.inl ⟨by omega, by omega⟩))))) | exact Or.inr (Or.inr (Or.inr (Or.inr (Or.inr (Or.inr (Or.inl ⟨by omega, by omega⟩)))))) | exact Or.inr (Or.inr (Or.inr (Or.inr (Or.inr (Or.inr (Or.inr (Or.inl ⟨by omega, by omega⟩))))))) | exact Or.inr (Or.inr (Or.inr (Or.inr (Or.inr (Or.inr (Or.inr (Or.inr (Or.inl ⟨by omega, by omega⟩)))))))) | exact Or.inr (Or.inr (Or.inr (Or.inr (Or.inr (Or.inr (Or.inr (Or.inr (Or.inr (Or.inl ⟨by omega, by omega⟩))))))))) | exact Or.inr (Or.inr (Or.inr (Or.inr (Or.inr (Or.inr (Or.inr (Or.inr (Or.inr (Or.inr (Or.inl ⟨by omega, by omega⟩)))))))))) | exact Or.inr (Or.inr (Or.inr (Or.inr (Or.inr (Or.inr (Or.inr (Or.inr (Or.inr (Or.inr (Or.inr (Or.inl ⟨by omega, by omega, by omega⟩))))))))))) | exact Or.inr (Or.inr (Or.inr (Or.inr (Or.inr (Or.inr (Or.inr (Or.inr (Or.inr (Or.inr (Or.inr (Or.inr (⟨by omega, by omega⟩)))))))))))))), trivial⟩, hS.F ht⟩) hS.2.2 dX11_count_257
    have n_68 := c_ne (a := x1.toInt) (b := 11) rfl (by decide) q_67
    by_cases q_69 : x1 = 12
    · have kq_69 : x1.toInt = 12 := by rw [q_69]; decide
      refine lv_topi (fun y ey => ?_)
      obtain rfl : y = 12 := ey.trans q_69
      refine lv_tableIn (x := 12) (off := 230) (tgt := 255) hx hb dX11_count_25 (by decide) (by decide) (by decide) (by decide) ?_
      refine lv_bipush (v := (-9)) hx hb dX11_count_255 (by decide) ?_
      exact W.iret (v := (-9)) hx hb hr (fun t ht hW => ⟨⟨(-9), (), rfl, (by have rc : ((-9) : Int32).toInt = -9 := (by decide); unfold coA; (first | exact Or.inl ⟨by omega, by omega⟩ | exact Or.inr (Or.inl ⟨by omega, by omega⟩) | exact Or.inr (Or.inr (Or.inl ⟨by omega, by omega⟩)) | exact Or.inr (Or.inr (Or.inr (Or.inl ⟨by omega, by omega⟩))) | exact Or.inr (Or.inr (Or.inr (Or.inr (Or.inl ⟨by omega, by omega⟩)))) | exact Or.inr (Or.inr (Or.inr (Or.inr (Or.inr (Or.inl ⟨by omega, by omega⟩))))) | exact Or.inr (Or.inr (Or.inr (Or.inr (Or.inr (Or.inr (Or.inl ⟨by omega, by omega⟩)))))) | exact Or.inr (Or.inr (Or.inr (Or.inr (Or.inr (Or.inr (Or.inr (Or.inl ⟨by omega, by omega⟩))))))) | exact Or.inr (Or.inr (Or.inr (Or.inr (Or.inr (Or.inr (Or.inr (Or.inr (Or.inl ⟨by omega, by omega⟩)))))))) | exact Or.inr (Or.inr (Or.inr (Or.inr (Or.inr (Or.inr (Or.inr (Or.inr (Or.inr (Or.inl ⟨by omega, by omega⟩))))))))) | exact Or.inr (Or.inr (Or.inr (Or.inr (Or.inr (Or.inr (Or.inr (Or.inr (Or.inr (Or.inr (Or.inl ⟨by omega, by omega⟩)))))))))) | exact Or.inr (Or.inr (Or.inr (Or.inr (Or.inr (Or.inr (Or.inr (Or.inr (Or.inr (Or.inr (Or.inr (Or.inl ⟨by omega, by omega, by omega⟩))))))))))) | exact Or.inr (Or.inr (Or.inr (Or.inr (Or.inr (Or.inr (Or.inr (Or.inr (Or.inr (Or.inr (Or.inr (Or.inr (⟨by omega, by omega⟩)))))))))))))), trivial⟩, hS.F ht⟩) hS.2.2 dX11_count_257
    have n_70 := c_ne (a := x1.toInt) (b := 12) rfl (by decide) q_69
    by_cases q_71 : x1 = 13
    · have kq_71 : x1.toInt = 13 := by rw [q_71]; decide
      refine lv_topi (fun y ey => ?_)
      obtain rfl : y = 13 := ey.trans q_71
      refine lv_tableIn (x := 13) (off := 230) (tgt := 255) hx hb dX11_count_25 (by decide) (by decide) (by decide) (by decide) ?_
      refine lv_bipush (v := (-9)) hx hb dX11_count_255 (by decide) ?_
      exact W.iret (v := (-9)) hx hb hr (fun t ht hW => ⟨⟨(-9), (), rfl, (by have rc : ((-9) : Int32).toInt = -9 := (by decide); unfold coA; (first | exact Or.inl ⟨by omega, by omega⟩ | exact Or.inr (Or.inl ⟨by omega, by omega⟩) | exact Or.inr (Or.inr (Or.inl ⟨by omega, by omega⟩)) | exact Or.inr (Or.inr (Or.inr (Or.inl ⟨by omega, by omega⟩))) | exact Or.inr (Or.inr (Or.inr (Or.inr (Or.inl ⟨by omega, by omega⟩)))) | exact Or.inr (Or.inr (Or.inr (Or.inr (Or.inr (Or.inl ⟨by omega, by omega⟩))))) | exact Or.inr (Or.inr (Or.inr (Or.inr (Or.inr (Or.inr (Or.inl ⟨by omega, by omega⟩)))))) | exact Or.inr (Or.inr (Or.inr (Or.inr (Or.inr (Or.inr (Or.inr (Or.inl ⟨by omega, by omega⟩))))))) | exact Or.inr (Or.inr (Or.inr (Or.inr (Or.inr (Or.inr (Or.inr (Or.inr (Or.inl ⟨by omega, by omega⟩)))))))) | exact Or.inr (Or.inr (Or.inr (Or.inr (Or.inr (Or.inr (Or.inr (Or.inr (Or.inr (Or.inl ⟨by omega, by omega⟩))))))))) | exact Or.inr (Or.inr (Or.inr (Or.inr (Or.inr (Or.inr (Or.inr (Or.inr (Or.inr (Or.inr (Or.inl ⟨by omega, by omega⟩)))))))))) | exact Or.inr (Or.inr (Or.inr (Or.inr (Or.inr (Or.inr (Or.inr (Or.inr (Or.inr (Or.inr (Or.inr (Or.inl ⟨by omega, by omega, by omega⟩))))))))))) | exact Or.inr (Or.inr (Or.inr (Or.inr (Or.inr (Or.inr (Or.inr (Or.inr (Or.inr (Or.inr (Or.inr (Or.inr (⟨by omega, by omega⟩)))))))))))))), trivial⟩, hS.F ht⟩) hS.2.2 dX11_count_257
    have n_72 := c_ne (a := x1.toInt) (b := 13) rfl (by decide) q_71
    by_cases q_73 : x1 = 14
    · have kq_73 : x1.toInt = 14 := by rw [q_73]; decide
      refine lv_topi (fun y ey => ?_)
      obtain rfl : y = 14 := ey.trans q_73
      refine lv_tableIn (x := 14) (off := 230) (tgt := 255) hx hb dX11_count_25 (by decide) (by decide) (by decide) (by decide) ?_
      refine lv_bipush (v := (-9)) hx hb dX11_count_255 (by decide) ?_
      exact W.iret (v := (-9)) hx hb hr (fun t ht hW => ⟨⟨(-9), (), rfl, (by have rc : ((-9) : Int32).toInt = -9 := (by decide); unfold coA; (first | exact Or.inl ⟨by omega, by omega⟩ | exact Or.inr (Or.inl ⟨by omega, by omega⟩) | exact Or.inr (Or.inr (Or.inl ⟨by omega, by omega⟩)) | exact Or.inr (Or.inr (Or.inr (Or.inl ⟨by omega, by omega⟩))) | exact Or.inr (Or.inr (Or.inr (Or.inr (Or.inl ⟨by omega, by omega⟩)))) | exact Or.inr (Or.inr (Or.inr (Or.inr (Or.inr (Or.inl ⟨by omega, by omega⟩))))) | exact Or.inr (Or.inr (Or.inr (Or.inr (Or.inr (Or.inr (Or.inl ⟨by omega, by omega⟩)))))) | exact Or.inr (Or.inr (Or.inr (Or.inr (Or.inr (Or.inr (Or.inr (Or.inl ⟨by omega, by omega⟩))))))) | exact Or.inr (Or.inr (Or.inr (Or.inr (Or.inr (Or.inr (Or.inr (Or.inr (Or.inl ⟨by omega, by omega⟩)))))))) | exact Or.inr (Or.inr (Or.inr (Or.inr (Or.inr (Or.inr (Or.inr (Or.inr (Or.inr (Or.inl ⟨by omega, by omega⟩))))))))) | exact Or.inr (Or.inr (Or.inr (Or.inr (Or.inr (Or.inr (Or.inr (Or.inr (Or.inr (Or.inr (Or.inl ⟨by omega, by omega⟩)))))))))) | exact Or.inr (Or.inr (Or.inr (Or.inr (Or.inr (Or.inr (Or.inr (Or.inr (Or.inr (Or.inr (Or.inr (Or.inl ⟨by omega, by omega, by omega⟩))))))))))) | exact Or.inr (Or.inr (Or.inr (Or.inr (Or.inr (Or.inr (Or.inr (Or.inr (Or.inr (Or.inr (Or.inr (Or.inr (⟨by omega, by omega⟩)))))))))))))), trivial⟩, hS.F ht⟩) hS.2.2 dX11_count_257
    have n_74 := c_ne (a := x1.toInt) (b := 14) rfl (by decide) q_73
    by_cases q_75 : x1 = 15
    · have kq_75 : x1.toInt = 15 := by rw [q_75]; decide
      refine lv_topi (fun y ey => ?_)
      obtain rfl : y = 15 := ey.trans q_75
      refine lv_tableIn (x := 15) (off := 230) (tgt := 255) hx hb dX11_count_25 (by decide) (by decide) (by decide) (by decide) ?_
      refine lv_bipush (v := (-9)) hx hb dX11_count_255 (by decide) ?_
      exact W.iret (v := (-9)) hx hb hr (fun t ht hW => ⟨⟨(-9), (), rfl, (by have rc : ((-9) : Int32).toInt = -9 := (by decide); unfold coA; (first | exact Or.inl ⟨by omega, by omega⟩ | exact Or.inr (Or.inl ⟨by omega, by omega⟩) | exact Or.inr (Or.inr (Or.inl ⟨by omega, by omega⟩)) | exact Or.inr (Or.inr (Or.inr (Or.inl ⟨by omega, by omega⟩))) | exact Or.inr (Or.inr (Or.inr (Or.inr (Or.inl ⟨by omega, by omega⟩)))) | exact Or.inr (Or.inr (Or.inr (Or.inr (Or.inr (Or.inl ⟨by omega, by omega⟩))))) | exact Or.inr (Or.inr (Or.inr (Or.inr (Or.inr (Or.inr (Or.inl ⟨by omega, by omega⟩)))))) | exact Or.inr (Or.inr (Or.inr (Or.inr (Or.inr (Or.inr (Or.inr (Or.inl ⟨by omega, by omega⟩))))))) | exact Or.inr (Or.inr (Or.inr (Or.inr (Or.inr (Or.inr (Or.inr (Or.inr (Or.inl ⟨by omega, by omega⟩)))))))) | exact Or.inr (Or.inr (Or.inr (Or.inr (Or.inr (Or.inr (Or.inr (Or.inr (Or.inr (Or.inl ⟨by omega, by omega⟩))))))))) | exact Or.inr (Or.inr (Or.inr (Or.inr (Or.inr (Or.inr (Or.inr (Or.inr (Or.inr (Or.inr (Or.inl ⟨by omega, by omega⟩)))))))))) | exact Or.inr (Or.inr (Or.inr (Or.inr (Or.inr (Or.inr (Or.inr (Or.inr (Or.inr (Or.inr (Or.inr (Or.inl ⟨by omega, by omega, by omega⟩))))))))))) | exact Or.inr (Or.inr (Or.inr (Or.inr (Or.inr (Or.inr (Or.inr (Or.inr (Or.inr (Or.inr (Or.inr (Or.inr (⟨by omega, by omega⟩)))))))))))))), trivial⟩, hS.F ht⟩) hS.2.2 dX11_count_257
    have n_76 := c_ne (a := x1.toInt) (b := 15) rfl (by decide) q_75
    by_cases q_77 : x1 = 16
    · have kq_77 : x1.toInt = 16 := by rw [q_77]; decide
      refine lv_topi (fun y ey => ?_)
      obtain rfl : y = 16 := ey.trans q_77
      refine lv_tableIn (x := 16) (off := 230) (tgt := 255) hx hb dX11_count_25 (by decide) (by decide) (by decide) (by decide) ?_
      refine lv_bipush (v := (-9)) hx hb dX11_count_255 (by decide) ?_
      exact W.iret (v := (-9)) hx hb hr (fun t ht hW => ⟨⟨(-9), (), rfl, (by have rc : ((-9) : Int32).toInt = -9 := (by decide); unfold coA; (first | exact Or.inl ⟨by omega, by omega⟩ | exact Or.inr (Or.inl ⟨by omega, by omega⟩) | exact Or.inr (Or.inr (Or.inl ⟨by omega, by omega⟩)) | exact Or.inr (Or.inr (Or.inr (Or.inl ⟨by omega, by omega⟩))) | exact Or.inr (Or.inr (Or.inr (Or.inr (Or.inl ⟨by omega, by omega⟩)))) | exact Or.inr (Or.inr (Or.inr (Or.inr (Or.inr (Or.inl ⟨by omega, by omega⟩))))) | exact Or.inr (Or.inr (Or.inr (Or.inr (Or.inr (Or.inr (Or.inl ⟨by omega, by omega⟩)))))) | exact Or.inr (Or.inr (Or.inr (Or.inr (Or.inr (Or.inr (Or.inr (Or.inl ⟨by omega, by omega⟩))))))) | exact Or.inr (Or.inr (Or.inr (Or.inr (Or.inr (Or.inr (Or.inr (Or.inr (Or.inl ⟨by omega, by omega⟩)))))))) | exact Or.inr (Or.inr (Or.inr (Or.inr (Or.inr (Or.inr (Or.inr (Or.inr (Or.inr (Or.inl ⟨by omega, by omega⟩))))))))) | exact Or.inr (Or.inr (Or.inr (Or.inr (Or.inr (Or.inr (Or.inr (Or.inr (Or.inr (Or.inr (Or.inl ⟨by omega, by omega⟩)))))))))) | exact Or.inr (Or.inr (Or.inr (Or.inr (Or.inr (Or.inr (Or.inr (Or.inr (Or.inr (Or.inr (Or.inr (Or.inl ⟨by omega, by omega, by omega⟩))))))))))) | exact Or.inr (Or.inr (Or.inr (Or.inr (Or.inr (Or.inr (Or.inr (Or.inr (Or.inr (Or.inr (Or.inr (Or.inr (⟨by omega, by omega⟩)))))))))))))), trivial⟩, hS.F ht⟩) hS.2.2 dX11_count_257
    have n_78 := c_ne (a := x1.toInt) (b := 16) rfl (by decide) q_77
    by_cases q_79 : x1 = 17
    · have kq_79 : x1.toInt = 17 := by rw [q_79]; decide
      refine lv_topi (fun y ey => ?_)
      obtain rfl : y = 17 := ey.trans q_79
      refine lv_tableIn (x := 17) (off := 196) (tgt := 221) hx hb dX11_count_25 (by decide) (by decide) (by decide) (by decide) ?_
      refine lv_iconst (v := 0) hx hb dX11_count_221 (by decide) ?_
      refine lv_istore_n (lv' := [(3, .int 0), (2, .int 0), (0, .ref g0), (1, .int x1)]) hx hb dX11_count_222 rfl hl (by decide) rfl (fun ls hl => ?_)
      have cut_80 : ∀ (n : Nat) (y_81 : Int32) (y_82 : Int32) (H : Heap) (locs : List Loc) (ls : Array Slot), 40 - y_82.toInt ≤ (n : Int) → (0 ≤ y_81.toInt ∧ y_81.toInt ≤ 40) → (0 ≤ y_82.toInt ∧ y_82.toInt ≤ 40) → y_81.toInt = cnN (akP fa) y_82.toNatClampNeg → y_81.toInt ≤ y_82.toInt → y_82.toInt ≤ (v 39).toInt → va_P (dC, dI) vwCl (mW g0 pq cp v fa) H → va_S A s.heap H locs → lv_has ls 4 [(2, .int y_81), (3, .int y_82), (0, .ref g0), (1, .int x1)] → W p l e (headSpec wsX11_count { frames := 2, cells := 0, slots := 0, locals := 44 }).room s m #[Value.ref g0, Value.int x1] below meth c H locs 0 0 (MQ below (va_Qi (fun (r : Int32) (u : Unit) => (coA v fa x1.toInt r.toInt)) (fun _ _ => True) A) #[Value.ref g0, Value.int x1] s 0 0 A) (F0 m 223 ls []) := by
        intro n
        induction n using Nat.strongRecOn with
        | ind n ih =>
          intro y_81 y_82 H locs ls hm hy_81 hy_82 hq0_cut_80 hq1_cut_80 hq2_cut_80 hP hS hl
          refine lv_iload_n hx hb dX11_count_223 rfl (lv_at hl 1 rfl) ?_
          refine lv_aload_n hx hb dX11_count_224 rfl (lv_at hl 2 rfl) ?_
          refine va_get (D := (dC, dI)) (ci := 11) (v := .int (v 39)) (C := RX11) (T := TX11) (N := 63) hx hb hts in_wsX11_count_X11 hown hK hP 0 rfl rfl 39 (by decide) (hts (.fieldLink RX11 157 "ShipOfficeModel" "men" "I") iw_X11_count_2) (fun _ h9 => h9) rfl dX11_count_225 ?_
          refine lv_topi (fun x_83 ex_83 => ?_)
          have hx_83 : 0 ≤ x_83.toInt ∧ x_83.toInt ≤ 40 := iv_of ex_83 (gV 39)
          have gx_83 : x_83.toInt = (v 39).toInt := iv_to ex_83
          clear ex_83
          refine lv_icmp_ge (tgt := 253) hx hb dX11_count_228 (by decide) (fun c_84 => ?_) (fun c_84 => ?_)
          · have dc_84 := c_le (a := x_83.toInt) (b := y_82.toInt) rfl rfl c_84
            refine lv_iload_n hx hb dX11_count_253 rfl (lv_at hl 0 rfl) ?_
            exact W.iret (v := y_81) hx hb hr (fun t ht hW => ⟨⟨y_81, (), rfl, (by have hc9 := hq0_cut_80; rw [show y_82.toNatClampNeg = (v 39).toNatClampNeg from (show y_82.toInt.toNat = (v 39).toInt.toNat by omega)] at hc9; unfold coA; (first | exact Or.inl ⟨by omega, by omega⟩ | exact Or.inr (Or.inl ⟨by omega, by omega⟩) | exact Or.inr (Or.inr (Or.inl ⟨by omega, by omega⟩)) | exact Or.inr (Or.inr (Or.inr (Or.inl ⟨by omega, by omega⟩))) | exact Or.inr (Or.inr (Or.inr (Or.inr (Or.inl ⟨by omega, by omega⟩)))) | exact Or.inr (Or.inr (Or.inr (Or.inr (Or.inr (Or.inl ⟨by omega, by omega⟩))))) | exact Or.inr (Or.inr (Or.inr (Or.inr (Or.inr (Or.inr (Or.inl ⟨by omega, by omega⟩)))))) | exact Or.inr (Or.inr (Or.inr (Or.inr (Or.inr (Or.inr (Or.inr (Or.inl ⟨by omega, by omega⟩))))))) | exact Or.inr (Or.inr (Or.inr (Or.inr (Or.inr (Or.inr (Or.inr (Or.inr (Or.inl ⟨by omega, by omega⟩)))))))) | exact Or.inr (Or.inr (Or.inr (Or.inr (Or.inr (Or.inr (Or.inr (Or.inr (Or.inr (Or.inl ⟨by omega, by omega⟩))))))))) | exact Or.inr (Or.inr (Or.inr (Or.inr (Or.inr (Or.inr (Or.inr (Or.inr (Or.inr (Or.inr (Or.inl ⟨by omega, by omega⟩)))))))))) | exact Or.inr (Or.inr (Or.inr (Or.inr (Or.inr (Or.inr (Or.inr (Or.inr (Or.inr (Or.inr (Or.inr (Or.inl ⟨by omega, by omega, by omega⟩))))))))))) | exact Or.inr (Or.inr (Or.inr (Or.inr (Or.inr (Or.inr (Or.inr (Or.inr (Or.inr (Or.inr (Or.inr (Or.inr (⟨by omega, by omega⟩)))))))))))))), trivial⟩, hS.F ht⟩) hS.2.2 dX11_count_254
          · have dc_84 := c_nle (a := x_83.toInt) (b := y_82.toInt) rfl rfl c_84
            refine lv_iload_n hx hb dX11_count_231 rfl (lv_at hl 0 rfl) ?_
            refine lv_aload_n hx hb dX11_count_232 rfl (lv_at hl 2 rfl) ?_
            refine lv_iload_n hx hb dX11_count_233 rfl (lv_at hl 1 rfl) ?_
            have hFc : ∀ q, va_A [] H.size q → A q := pu_free hS hA
            refine va_calli (va_runV (As := [.int y_82]) (rest := [.int y_81]) ⟨hx, hb, hml, hown, hts⟩ (c_X11_asksAny_f l dC dI H.size g0 pq cp v fa gV gA y_82 (by omega) hAk) (cwV 1 hts gX11_count_X11_asksAny rfl rfl rfl (by decide +kernel) ⟨(Nat.le_of_ble_eq_true rfl), (Nat.le_of_ble_eq_true rfl)⟩) (pr_V (r := (RX11, TX11, 63)) hP hK hD 0 11 rfl rfl) rfl rfl hl.1 rfl (lv_room (Nat.le_of_ble_eq_true rfl)) dX11_count_234 ⟨(Nat.le_of_ble_eq_true rfl), (Nat.le_of_ble_eq_true rfl)⟩) hS (fun q _ h => hFc q h) hFc (fun r_86 u t H locs ht hvm w_85 hB hz1 hk1 hS => ?_)
            have hP := pu_keep hP hk1
            clear hk1 hz1 hvm hB ht hFc
            obtain ⟨hb_87, hx_88⟩ := w_85
            refine lv_if_eq (tgt := 244) hx hb dX11_count_237 (by decide) (fun c_89 => ?_) (fun c_89 => ?_)
            · have dc_89 := c_eq (a := r_86.toInt) (b := 0) rfl (by decide) c_89
              refine lv_iconst (v := 0) hx hb dX11_count_244 (by decide) ?_
              refine lv_iadd hx hb dX11_count_245 ?_
              refine lv_topi (fun x_90 ex_90 => ?_)
              have hx_90 : x_90.toInt = y_81.toInt + 0 := (iv_to ex_90).trans (ad_i rfl (by decide) (by omega) (by omega))
              refine lv_istore_n (lv' := [(2, .int x_90), (3, .int y_82), (0, .ref g0), (1, .int x1)]) hx hb dX11_count_246 rfl hl (by decide) rfl (fun ls hl => ?_)
              obtain ⟨x_91, ex_91⟩ : ∃ zq : Int32, y_82 + 1 = zq := ⟨_, rfl⟩
              have hx_91 : x_91.toInt = y_82.toInt + 1 := (iv_to ex_91).symm.trans (ad_i rfl (by decide) (by omega) (by omega))
              refine lv_iinc (v := x_91) (lv' := [(3, .int x_91), (2, .int x_90), (0, .ref g0), (1, .int x1)]) hx hb dX11_count_247 hl (k := 1) rfl ex_91 (by decide) rfl (fun ls hl => ?_)
              clear ex_91
              refine lv_goto (tgt := 223) hx hb dX11_count_250 (by decide) ?_
              exact ih (n - 1) (by omega) x_90 x_91 _ _ ls (by omega) (by omega) (by omega) (cnN_s hq0_cut_80 (by omega) (by omega) (show x_90.toInt = y_81.toInt + b01 (akP fa y_82.toNatClampNeg) from by have bq := b01_i (akP fa y_82.toNatClampNeg); omega)) (by omega) (by omega) hP hS (lv_sub hl [1, 0, 2, 3] rfl)
            · have dc_89 := c_ne (a := r_86.toInt) (b := 0) rfl (by decide) c_89
              refine lv_iconst (v := 1) hx hb dX11_count_240 (by decide) ?_
              refine lv_goto (tgt := 245) hx hb dX11_count_241 (by decide) ?_
              refine lv_iadd hx hb dX11_count_245 ?_
              refine lv_topi (fun x_92 ex_92 => ?_)
              have hx_92 : x_92.toInt = y_81.toInt + 1 := (iv_to ex_92).trans (ad_i rfl (by decide) (by omega) (by omega))
              refine lv_istore_n (lv' := [(2, .int x_92), (3, .int y_82), (0, .ref g0), (1, .int x1)]) hx hb dX11_count_246 rfl hl (by decide) rfl (fun ls hl => ?_)
              obtain ⟨x_93, ex_93⟩ : ∃ zq : Int32, y_82 + 1 = zq := ⟨_, rfl⟩
              have hx_93 : x_93.toInt = y_82.toInt + 1 := (iv_to ex_93).symm.trans (ad_i rfl (by decide) (by omega) (by omega))
              refine lv_iinc (v := x_93) (lv' := [(3, .int x_93), (2, .int x_92), (0, .ref g0), (1, .int x1)]) hx hb dX11_count_247 hl (k := 1) rfl ex_93 (by decide) rfl (fun ls hl => ?_)
              clear ex_93
              refine lv_goto (tgt := 223) hx hb dX11_count_250 (by decide) ?_
              exact ih (n - 1) (by omega) x_92 x_93 _ _ ls (by omega) (by omega) (by omega) (cnN_s hq0_cut_80 (by omega) (by omega) (show x_92.toInt = y_81.toInt + b01 (akP fa y_82.toNatClampNeg) from by have bq := b01_i (akP fa y_82.toNatClampNeg); omega)) (by omega) (by omega) hP hS (lv_sub hl [1, 0, 2, 3] rfl)
      have kc_94 : (0 : Int32).toInt = 0 := by decide
      exact cut_80 41 0 0 _ _ ls (by omega) (by decide) (by decide) (cnN_0 (by decide) (by decide)) (by decide) (by have rc : (0 : Int32).toInt = 0 := (by decide); omega) hP hS (lv_sub hl [1, 0, 2, 3] rfl)
    have n_95 := c_ne (a := x1.toInt) (b := 17) rfl (by decide) q_79
    refine lv_tableOut (tgt := 255) hx hb dX11_count_25 (by omega) (by decide) ?_
    refine lv_bipush (v := (-9)) hx hb dX11_count_255 (by decide) ?_
    exact W.iret (v := (-9)) hx hb hr (fun t ht hW => ⟨⟨(-9), (), rfl, (by have rc : ((-9) : Int32).toInt = -9 := (by decide); unfold coA; (first | exact Or.inl ⟨by omega, by omega⟩ | exact Or.inr (Or.inl ⟨by omega, by omega⟩) | exact Or.inr (Or.inr (Or.inl ⟨by omega, by omega⟩)) | exact Or.inr (Or.inr (Or.inr (Or.inl ⟨by omega, by omega⟩))) | exact Or.inr (Or.inr (Or.inr (Or.inr (Or.inl ⟨by omega, by omega⟩)))) | exact Or.inr (Or.inr (Or.inr (Or.inr (Or.inr (Or.inl ⟨by omega, by omega⟩))))) | exact Or.inr (Or.inr (Or.inr (Or.inr (Or.inr (Or.inr (Or.inl ⟨by omega, by omega⟩)))))) | exact Or.inr (Or.inr (Or.inr (Or.inr (Or.inr (Or.inr (Or.inr (Or.inl ⟨by omega, by omega⟩))))))) | exact Or.inr (Or.inr (Or.inr (Or.inr (Or.inr (Or.inr (Or.inr (Or.inr (Or.inl ⟨by omega, by omega⟩)))))))) | exact Or.inr (Or.inr (Or.inr (Or.inr (Or.inr (Or.inr (Or.inr (Or.inr (Or.inr (Or.inl ⟨by omega, by omega⟩))))))))) | exact Or.inr (Or.inr (Or.inr (Or.inr (Or.inr (Or.inr (Or.inr (Or.inr (Or.inr (Or.inr (Or.inl ⟨by omega, by omega⟩)))))))))) | exact Or.inr (Or.inr (Or.inr (Or.inr (Or.inr (Or.inr (Or.inr (Or.inr (Or.inr (Or.inr (Or.inr (Or.inl ⟨by omega, by omega, by omega⟩))))))))))) | exact Or.inr (Or.inr (Or.inr (Or.inr (Or.inr (Or.inr (Or.inr (Or.inr (Or.inr (Or.inr (Or.inr (Or.inr (⟨by omega, by omega⟩)))))))))))))), trivial⟩, hS.F ht⟩) hS.2.2 dX11_count_257
  · have dc_9 := c_nle (a := x1.toInt) (b := 10) rfl (by decide) c_9
    refine lv_iload_n hx hb dX11_count_6 rfl (lv_at hl 1 rfl) ?_
    refine lv_bipush (v := 17) hx hb dX11_count_7 (by decide) ?_
    refine lv_icmp_ge (tgt := 22) hx hb dX11_count_9 (by decide) (fun c_96 => ?_) (fun c_96 => ?_)
    · have dc_96 := c_le (a := 17) (b := x1.toInt) (by decide) rfl c_96
      refine lv_iconst (v := 0) hx hb dX11_count_22 (by decide) ?_
      refine lv_istore_n (lv' := [(2, .int 0), (0, .ref g0), (1, .int x1)]) hx hb dX11_count_23 rfl hl (by decide) rfl (fun ls hl => ?_)
      refine lv_iload_n hx hb dX11_count_24 rfl (lv_at hl 2 rfl) ?_
      by_cases q_97 : x1 = 0
      · have kq_97 : x1.toInt = 0 := by rw [q_97]; decide
        refine lv_topi (fun y ey => ?_)
        obtain rfl : y = 0 := ey.trans q_97
        refine lv_tableIn (x := 0) (off := 87) (tgt := 112) hx hb dX11_count_25 (by decide) (by decide) (by decide) (by decide) ?_
        refine lv_aload_n hx hb dX11_count_112 rfl (lv_at hl 1 rfl) ?_
        refine va_get (D := (dC, dI)) (ci := 11) (v := .int (v 38)) (C := RX11) (T := TX11) (N := 63) hx hb hts in_wsX11_count_X11 hown hK hP 0 rfl rfl 38 (by decide) (hts (.fieldLink RX11 171 "ShipOfficeModel" "now" "I") iw_X11_count_1) (fun _ h9 => h9) rfl dX11_count_113 ?_
        refine lv_topi (fun x_98 ex_98 => ?_)
        have hx_98 : 0 ≤ x_98.toInt ∧ x_98.toInt ≤ 3000 := iv_of ex_98 (gV 38)
        have gx_98 : x_98.toInt = (v 38).toInt := iv_to ex_98
        clear ex_98
        exact W.iret (v := x_98) hx hb hr (fun t ht hW => ⟨⟨x_98, (), rfl, (by unfold coA; (first | exact Or.inl ⟨by omega, by omega⟩ | exact Or.inr (Or.inl ⟨by omega, by omega⟩) | exact Or.inr (Or.inr (Or.inl ⟨by omega, by omega⟩)) | exact Or.inr (Or.inr (Or.inr (Or.inl ⟨by omega, by omega⟩))) | exact Or.inr (Or.inr (Or.inr (Or.inr (Or.inl ⟨by omega, by omega⟩)))) | exact Or.inr (Or.inr (Or.inr (Or.inr (Or.inr (Or.inl ⟨by omega, by omega⟩))))) | exact Or.inr (Or.inr (Or.inr (Or.inr (Or.inr (Or.inr (Or.inl ⟨by omega, by omega⟩)))))) | exact Or.inr (Or.inr (Or.inr (Or.inr (Or.inr (Or.inr (Or.inr (Or.inl ⟨by omega, by omega⟩))))))) | exact Or.inr (Or.inr (Or.inr (Or.inr (Or.inr (Or.inr (Or.inr (Or.inr (Or.inl ⟨by omega, by omega⟩)))))))) | exact Or.inr (Or.inr (Or.inr (Or.inr (Or.inr (Or.inr (Or.inr (Or.inr (Or.inr (Or.inl ⟨by omega, by omega⟩))))))))) | exact Or.inr (Or.inr (Or.inr (Or.inr (Or.inr (Or.inr (Or.inr (Or.inr (Or.inr (Or.inr (Or.inl ⟨by omega, by omega⟩)))))))))) | exact Or.inr (Or.inr (Or.inr (Or.inr (Or.inr (Or.inr (Or.inr (Or.inr (Or.inr (Or.inr (Or.inr (Or.inl ⟨by omega, by omega, by omega⟩))))))))))) | exact Or.inr (Or.inr (Or.inr (Or.inr (Or.inr (Or.inr (Or.inr (Or.inr (Or.inr (Or.inr (Or.inr (Or.inr (⟨by omega, by omega⟩)))))))))))))), trivial⟩, hS.F ht⟩) hS.2.2 dX11_count_116
      have n_99 := c_ne (a := x1.toInt) (b := 0) rfl (by decide) q_97
      by_cases q_100 : x1 = 1
      · have kq_100 : x1.toInt = 1 := by rw [q_100]; decide
        refine lv_topi (fun y ey => ?_)
        obtain rfl : y = 1 := ey.trans q_100
        refine lv_tableIn (x := 1) (off := 92) (tgt := 117) hx hb dX11_count_25 (by decide) (by decide) (by decide) (by decide) ?_
        refine lv_aload_n hx hb dX11_count_117 rfl (lv_at hl 1 rfl) ?_
        refine va_get (D := (dC, dI)) (ci := 11) (v := .int (v 39)) (C := RX11) (T := TX11) (N := 63) hx hb hts in_wsX11_count_X11 hown hK hP 0 rfl rfl 39 (by decide) (hts (.fieldLink RX11 157 "ShipOfficeModel" "men" "I") iw_X11_count_2) (fun _ h9 => h9) rfl dX11_count_118 ?_
        refine lv_topi (fun x_101 ex_101 => ?_)
        have hx_101 : 0 ≤ x_101.toInt ∧ x_101.toInt ≤ 40 := iv_of ex_101 (gV 39)
        have gx_101 : x_101.toInt = (v 39).toInt := iv_to ex_101
        clear ex_101
        exact W.iret (v := x_101) hx hb hr (fun t ht hW => ⟨⟨x_101, (), rfl, (by unfold coA; (first | exact Or.inl ⟨by omega, by omega⟩ | exact Or.inr (Or.inl ⟨by omega, by omega⟩) | exact Or.inr (Or.inr (Or.inl ⟨by omega, by omega⟩)) | exact Or.inr (Or.inr (Or.inr (Or.inl ⟨by omega, by omega⟩))) | exact Or.inr (Or.inr (Or.inr (Or.inr (Or.inl ⟨by omega, by omega⟩)))) | exact Or.inr (Or.inr (Or.inr (Or.inr (Or.inr (Or.inl ⟨by omega, by omega⟩))))) | exact Or.inr (Or.inr (Or.inr (Or.inr (Or.inr (Or.inr (Or.inl ⟨by omega, by omega⟩)))))) | exact Or.inr (Or.inr (Or.inr (Or.inr (Or.inr (Or.inr (Or.inr (Or.inl ⟨by omega, by omega⟩))))))) | exact Or.inr (Or.inr (Or.inr (Or.inr (Or.inr (Or.inr (Or.inr (Or.inr (Or.inl ⟨by omega, by omega⟩)))))))) | exact Or.inr (Or.inr (Or.inr (Or.inr (Or.inr (Or.inr (Or.inr (Or.inr (Or.inr (Or.inl ⟨by omega, by omega⟩))))))))) | exact Or.inr (Or.inr (Or.inr (Or.inr (Or.inr (Or.inr (Or.inr (Or.inr (Or.inr (Or.inr (Or.inl ⟨by omega, by omega⟩)))))))))) | exact Or.inr (Or.inr (Or.inr (Or.inr (Or.inr (Or.inr (Or.inr (Or.inr (Or.inr (Or.inr (Or.inr (Or.inl ⟨by omega, by omega, by omega⟩))))))))))) | exact Or.inr (Or.inr (Or.inr (Or.inr (Or.inr (Or.inr (Or.inr (Or.inr (Or.inr (Or.inr (Or.inr (Or.inr (⟨by omega, by omega⟩)))))))))))))), trivial⟩, hS.F ht⟩) hS.2.2 dX11_count_121
      have n_102 := c_ne (a := x1.toInt) (b := 1) rfl (by decide) q_100
      by_cases q_103 : x1 = 2
      · have kq_103 : x1.toInt = 2 := by rw [q_103]; decide
        refine lv_topi (fun y ey => ?_)
        obtain rfl : y = 2 := ey.trans q_103
        refine lv_tableIn (x := 2) (off := 97) (tgt := 122) hx hb dX11_count_25 (by decide) (by decide) (by decide) (by decide) ?_
        refine lv_aload_n hx hb dX11_count_122 rfl (lv_at hl 1 rfl) ?_
        refine va_get (D := (dC, dI)) (ci := 11) (v := .int (v 40)) (C := RX11) (T := TX11) (N := 63) hx hb hts in_wsX11_count_X11 hown hK hP 0 rfl rfl 40 (by decide) (hts (.fieldLink RX11 165 "ShipOfficeModel" "voyages" "I") iw_X11_count_3) (fun _ h9 => h9) rfl dX11_count_123 ?_
        refine lv_topi (fun x_104 ex_104 => ?_)
        have hx_104 : 0 ≤ x_104.toInt ∧ x_104.toInt ≤ 20 := iv_of ex_104 (gV 40)
        have gx_104 : x_104.toInt = (v 40).toInt := iv_to ex_104
        clear ex_104
        exact W.iret (v := x_104) hx hb hr (fun t ht hW => ⟨⟨x_104, (), rfl, (by unfold coA; (first | exact Or.inl ⟨by omega, by omega⟩ | exact Or.inr (Or.inl ⟨by omega, by omega⟩) | exact Or.inr (Or.inr (Or.inl ⟨by omega, by omega⟩)) | exact Or.inr (Or.inr (Or.inr (Or.inl ⟨by omega, by omega⟩))) | exact Or.inr (Or.inr (Or.inr (Or.inr (Or.inl ⟨by omega, by omega⟩)))) | exact Or.inr (Or.inr (Or.inr (Or.inr (Or.inr (Or.inl ⟨by omega, by omega⟩))))) | exact Or.inr (Or.inr (Or.inr (Or.inr (Or.inr (Or.inr (Or.inl ⟨by omega, by omega⟩)))))) | exact Or.inr (Or.inr (Or.inr (Or.inr (Or.inr (Or.inr (Or.inr (Or.inl ⟨by omega, by omega⟩))))))) | exact Or.inr (Or.inr (Or.inr (Or.inr (Or.inr (Or.inr (Or.inr (Or.inr (Or.inl ⟨by omega, by omega⟩)))))))) | exact Or.inr (Or.inr (Or.inr (Or.inr (Or.inr (Or.inr (Or.inr (Or.inr (Or.inr (Or.inl ⟨by omega, by omega⟩))))))))) | exact Or.inr (Or.inr (Or.inr (Or.inr (Or.inr (Or.inr (Or.inr (Or.inr (Or.inr (Or.inr (Or.inl ⟨by omega, by omega⟩)))))))))) | exact Or.inr (Or.inr (Or.inr (Or.inr (Or.inr (Or.inr (Or.inr (Or.inr (Or.inr (Or.inr (Or.inr (Or.inl ⟨by omega, by omega, by omega⟩))))))))))) | exact Or.inr (Or.inr (Or.inr (Or.inr (Or.inr (Or.inr (Or.inr (Or.inr (Or.inr (Or.inr (Or.inr (Or.inr (⟨by omega, by omega⟩)))))))))))))), trivial⟩, hS.F ht⟩) hS.2.2 dX11_count_126
      have n_105 := c_ne (a := x1.toInt) (b := 2) rfl (by decide) q_103
      by_cases q_106 : x1 = 3
      · have kq_106 : x1.toInt = 3 := by rw [q_106]; decide
        refine lv_topi (fun y ey => ?_)
        obtain rfl : y = 3 := ey.trans q_106
        refine lv_tableIn (x := 3) (off := 102) (tgt := 127) hx hb dX11_count_25 (by decide) (by decide) (by decide) (by decide) ?_
        refine lv_iconst (v := 0) hx hb dX11_count_127 (by decide) ?_
        refine lv_istore_n (lv' := [(3, .int 0), (2, .int 0), (0, .ref g0), (1, .int x1)]) hx hb dX11_count_128 rfl hl (by decide) rfl (fun ls hl => ?_)
        have cut_107 : ∀ (n : Nat) (y_108 : Int32) (y_109 : Int32) (H : Heap) (locs : List Loc) (ls : Array Slot), 20 - y_109.toInt ≤ (n : Int) → (0 ≤ y_108.toInt ∧ y_108.toInt ≤ 20) → (0 ≤ y_109.toInt ∧ y_109.toInt ≤ 20) → y_108.toInt = cnN (enP9 fa) y_109.toNatClampNeg → y_108.toInt ≤ y_109.toInt → y_109.toInt ≤ (v 40).toInt → va_P (dC, dI) vwCl (mW g0 pq cp v fa) H → va_S A s.heap H locs → lv_has ls 4 [(2, .int y_108), (3, .int y_109), (0, .ref g0), (1, .int x1)] → W p l e (headSpec wsX11_count { frames := 2, cells := 0, slots := 0, locals := 44 }).room s m #[Value.ref g0, Value.int x1] below meth c H locs 0 0 (MQ below (va_Qi (fun (r : Int32) (u : Unit) => (coA v fa x1.toInt r.toInt)) (fun _ _ => True) A) #[Value.ref g0, Value.int x1] s 0 0 A) (F0 m 129 ls []) := by
          intro n
          induction n using Nat.strongRecOn with
          | ind n ih =>
            intro y_108 y_109 H locs ls hm hy_108 hy_109 hq0_cut_107 hq1_cut_107 hq2_cut_107 hP hS hl
            refine lv_iload_n hx hb dX11_count_129 rfl (lv_at hl 1 rfl) ?_
            refine lv_aload_n hx hb dX11_count_130 rfl (lv_at hl 2 rfl) ?_
            refine va_get (D := (dC, dI)) (ci := 11) (v := .int (v 40)) (C := RX11) (T := TX11) (N := 63) hx hb hts in_wsX11_count_X11 hown hK hP 0 rfl rfl 40 (by decide) (hts (.fieldLink RX11 165 "ShipOfficeModel" "voyages" "I") iw_X11_count_3) (fun _ h9 => h9) rfl dX11_count_131 ?_
            refine lv_topi (fun x_110 ex_110 => ?_)
            have hx_110 : 0 ≤ x_110.toInt ∧ x_110.toInt ≤ 20 := iv_of ex_110 (gV 40)
            have gx_110 : x_110.toInt = (v 40).toInt := iv_to ex_110
            clear ex_110
            refine lv_icmp_ge (tgt := 160) hx hb dX11_count_134 (by decide) (fun c_111 => ?_) (fun c_111 => ?_)
            · have dc_111 := c_le (a := x_110.toInt) (b := y_109.toInt) rfl rfl c_111
              refine lv_iload_n hx hb dX11_count_160 rfl (lv_at hl 0 rfl) ?_
              exact W.iret (v := y_108) hx hb hr (fun t ht hW => ⟨⟨y_108, (), rfl, (by have hc9 := hq0_cut_107; rw [show y_109.toNatClampNeg = (v 40).toNatClampNeg from (show y_109.toInt.toNat = (v 40).toInt.toNat by omega)] at hc9; unfold coA; (first | exact Or.inl ⟨by omega, by omega⟩ | exact Or.inr (Or.inl ⟨by omega, by omega⟩) | exact Or.inr (Or.inr (Or.inl ⟨by omega, by omega⟩)) | exact Or.inr (Or.inr (Or.inr (Or.inl ⟨by omega, by omega⟩))) | exact Or.inr (Or.inr (Or.inr (Or.inr (Or.inl ⟨by omega, by omega⟩)))) | exact Or.inr (Or.inr (Or.inr (Or.inr (Or.inr (Or.inl ⟨by omega, by omega⟩))))) | exact Or.inr (Or.inr (Or.inr (Or.inr (Or.inr (Or.inr (Or.inl ⟨by omega, by omega⟩)))))) | exact Or.inr (Or.inr (Or.inr (Or.inr (Or.inr (Or.inr (Or.inr (Or.inl ⟨by omega, by omega⟩))))))) | exact Or.inr (Or.inr (Or.inr (Or.inr (Or.inr (Or.inr (Or.inr (Or.inr (Or.inl ⟨by omega, by omega⟩)))))))) | exact Or.inr (Or.inr (Or.inr (Or.inr (Or.inr (Or.inr (Or.inr (Or.inr (Or.inr (Or.inl ⟨by omega, by omega⟩))))))))) | exact Or.inr (Or.inr (Or.inr (Or.inr (Or.inr (Or.inr (Or.inr (Or.inr (Or.inr (Or.inr (Or.inl ⟨by omega, by omega⟩)))))))))) | exact Or.inr (Or.inr (Or.inr (Or.inr (Or.inr (Or.inr (Or.inr (Or.inr (Or.inr (Or.inr (Or.inr (Or.inl ⟨by omega, by omega, by omega⟩))))))))))) | exact Or.inr (Or.inr (Or.inr (Or.inr (Or.inr (Or.inr (Or.inr (Or.inr (Or.inr (Or.inr (Or.inr (Or.inr (⟨by omega, by omega⟩)))))))))))))), trivial⟩, hS.F ht⟩) hS.2.2 dX11_count_161
            · have dc_111 := c_nle (a := x_110.toInt) (b := y_109.toInt) rfl rfl c_111
              refine lv_iload_n hx hb dX11_count_137 rfl (lv_at hl 0 rfl) ?_
              refine lv_aload_n hx hb dX11_count_138 rfl (lv_at hl 2 rfl) ?_
              refine va_get (D := (dC, dI)) (ci := 11) (v := .ref (pq 9)) (C := RX11) (T := TX11) (N := 63) hx hb hts in_wsX11_count_X11 hown hK hP 0 rfl rfl 9 (by decide) (hts (.fieldLink RX11 37 "ShipOfficeModel" "endedOn" "[I") iw_X11_count_4) (fun _ h9 => h9) rfl dX11_count_139 ?_
              refine lv_iload_n hx hb dX11_count_142 rfl (lv_at hl 1 rfl) ?_
              refine va_iald hx hb hK hP 10 9 rfl rfl (vp_in_iff.mpr (by omega)) dX11_count_143 ?_
              refine lv_topi (fun x_112 ex_112 => ?_)
              have gx_112 : x_112.toInt = (fa 9 (y_109 : Int32).toNatClampNeg).toInt := iv_to ex_112
              clear ex_112
              refine lv_if_ge (tgt := 151) hx hb dX11_count_144 (by decide) (fun c_113 => ?_) (fun c_113 => ?_)
              · have dc_113 := c_le (a := 0) (b := x_112.toInt) (by decide) rfl c_113
                refine lv_iconst (v := 0) hx hb dX11_count_151 (by decide) ?_
                refine lv_iadd hx hb dX11_count_152 ?_
                refine lv_topi (fun x_114 ex_114 => ?_)
                have hx_114 : x_114.toInt = y_108.toInt + 0 := (iv_to ex_114).trans (ad_i rfl (by decide) (by omega) (by omega))
                refine lv_istore_n (lv' := [(2, .int x_114), (3, .int y_109), (0, .ref g0), (1, .int x1)]) hx hb dX11_count_153 rfl hl (by decide) rfl (fun ls hl => ?_)
                obtain ⟨x_115, ex_115⟩ : ∃ zq : Int32, y_109 + 1 = zq := ⟨_, rfl⟩
                have hx_115 : x_115.toInt = y_109.toInt + 1 := (iv_to ex_115).symm.trans (ad_i rfl (by decide) (by omega) (by omega))
                refine lv_iinc (v := x_115) (lv' := [(3, .int x_115), (2, .int x_114), (0, .ref g0), (1, .int x1)]) hx hb dX11_count_154 hl (k := 1) rfl ex_115 (by decide) rfl (fun ls hl => ?_)
                clear ex_115
                refine lv_goto (tgt := 129) hx hb dX11_count_157 (by decide) ?_
                exact ih (n - 1) (by omega) x_114 x_115 _ _ ls (by omega) (by omega) (by omega) (cnN_s hq0_cut_107 (by omega) (by omega) (show x_114.toInt = y_108.toInt + b01 (enP9 fa y_109.toNatClampNeg) from by have bq := b01_i (enP9 fa y_109.toNatClampNeg); have q9 : (b01 (enP9 fa y_109.toNatClampNeg) = 1 ∧ (fa 9 y_109.toNatClampNeg).toInt < 0) ∨ (b01 (enP9 fa y_109.toNatClampNeg) = 0 ∧ 0 ≤ (fa 9 y_109.toNatClampNeg).toInt) := en_b fa _; omega)) (by omega) (by omega) hP hS (lv_sub hl [1, 0, 2, 3] rfl)
              · have dc_113 := c_nle (a := 0) (b := x_112.toInt) (by decide) rfl c_113
                refine lv_iconst (v := 1) hx hb dX11_count_147 (by decide) ?_
                refine lv_goto (tgt := 152) hx hb dX11_count_148 (by decide) ?_
                refine lv_iadd hx hb dX11_count_152 ?_
                refine lv_topi (fun x_116 ex_116 => ?_)
                have hx_116 : x_116.toInt = y_108.toInt + 1 := (iv_to ex_116).trans (ad_i rfl (by decide) (by omega) (by omega))
                refine lv_istore_n (lv' := [(2, .int x_116), (3, .int y_109), (0, .ref g0), (1, .int x1)]) hx hb dX11_count_153 rfl hl (by decide) rfl (fun ls hl => ?_)
                obtain ⟨x_117, ex_117⟩ : ∃ zq : Int32, y_109 + 1 = zq := ⟨_, rfl⟩
                have hx_117 : x_117.toInt = y_109.toInt + 1 := (iv_to ex_117).symm.trans (ad_i rfl (by decide) (by omega) (by omega))
                refine lv_iinc (v := x_117) (lv' := [(3, .int x_117), (2, .int x_116), (0, .ref g0), (1, .int x1)]) hx hb dX11_count_154 hl (k := 1) rfl ex_117 (by decide) rfl (fun ls hl => ?_)
                clear ex_117
                refine lv_goto (tgt := 129) hx hb dX11_count_157 (by decide) ?_
                exact ih (n - 1) (by omega) x_116 x_117 _ _ ls (by omega) (by omega) (by omega) (cnN_s hq0_cut_107 (by omega) (by omega) (show x_116.toInt = y_108.toInt + b01 (enP9 fa y_109.toNatClampNeg) from by have bq := b01_i (enP9 fa y_109.toNatClampNeg); have q9 : (b01 (enP9 fa y_109.toNatClampNeg) = 1 ∧ (fa 9 y_109.toNatClampNeg).toInt < 0) ∨ (b01 (enP9 fa y_109.toNatClampNeg) = 0 ∧ 0 ≤ (fa 9 y_109.toNatClampNeg).toInt) := en_b fa _; omega)) (by omega) (by omega) hP hS (lv_sub hl [1, 0, 2, 3] rfl)
        have kc_118 : (0 : Int32).toInt = 0 := by decide
        exact cut_107 21 0 0 _ _ ls (by omega) (by decide) (by decide) (cnN_0 (by decide) (by decide)) (by decide) (by have rc : (0 : Int32).toInt = 0 := (by decide); omega) hP hS (lv_sub hl [1, 0, 2, 3] rfl)
      have n_119 := c_ne (a := x1.toInt) (b := 3) rfl (by decide) q_106
      by_cases q_120 : x1 = 4
      · have kq_120 : x1.toInt = 4 := by rw [q_120]; decide
        refine lv_topi (fun y ey => ?_)
        obtain rfl : y = 4 := ey.trans q_120
        refine lv_tableIn (x := 4) (off := 137) (tgt := 162) hx hb dX11_count_25 (by decide) (by decide) (by decide) (by decide) ?_
        refine lv_aload_n hx hb dX11_count_162 rfl (lv_at hl 1 rfl) ?_
        refine va_get (D := (dC, dI)) (ci := 11) (v := .int (v 43)) (C := RX11) (T := TX11) (N := 63) hx hb hts in_wsX11_count_X11 hown hK hP 0 rfl rfl 43 (by decide) (hts (.fieldLink RX11 168 "ShipOfficeModel" "agreements" "I") iw_X11_count_5) (fun _ h9 => h9) rfl dX11_count_163 ?_
        refine lv_topi (fun x_121 ex_121 => ?_)
        have hx_121 : 0 ≤ x_121.toInt ∧ x_121.toInt ≤ 60 := iv_of ex_121 (gV 43)
        have gx_121 : x_121.toInt = (v 43).toInt := iv_to ex_121
        clear ex_121
        exact W.iret (v := x_121) hx hb hr (fun t ht hW => ⟨⟨x_121, (), rfl, (by unfold coA; (first | exact Or.inl ⟨by omega, by omega⟩ | exact Or.inr (Or.inl ⟨by omega, by omega⟩) | exact Or.inr (Or.inr (Or.inl ⟨by omega, by omega⟩)) | exact Or.inr (Or.inr (Or.inr (Or.inl ⟨by omega, by omega⟩))) | exact Or.inr (Or.inr (Or.inr (Or.inr (Or.inl ⟨by omega, by omega⟩)))) | exact Or.inr (Or.inr (Or.inr (Or.inr (Or.inr (Or.inl ⟨by omega, by omega⟩))))) | exact Or.inr (Or.inr (Or.inr (Or.inr (Or.inr (Or.inr (Or.inl ⟨by omega, by omega⟩)))))) | exact Or.inr (Or.inr (Or.inr (Or.inr (Or.inr (Or.inr (Or.inr (Or.inl ⟨by omega, by omega⟩))))))) | exact Or.inr (Or.inr (Or.inr (Or.inr (Or.inr (Or.inr (Or.inr (Or.inr (Or.inl ⟨by omega, by omega⟩)))))))) | exact Or.inr (Or.inr (Or.inr (Or.inr (Or.inr (Or.inr (Or.inr (Or.inr (Or.inr (Or.inl ⟨by omega, by omega⟩))))))))) | exact Or.inr (Or.inr (Or.inr (Or.inr (Or.inr (Or.inr (Or.inr (Or.inr (Or.inr (Or.inr (Or.inl ⟨by omega, by omega⟩)))))))))) | exact Or.inr (Or.inr (Or.inr (Or.inr (Or.inr (Or.inr (Or.inr (Or.inr (Or.inr (Or.inr (Or.inr (Or.inl ⟨by omega, by omega, by omega⟩))))))))))) | exact Or.inr (Or.inr (Or.inr (Or.inr (Or.inr (Or.inr (Or.inr (Or.inr (Or.inr (Or.inr (Or.inr (Or.inr (⟨by omega, by omega⟩)))))))))))))), trivial⟩, hS.F ht⟩) hS.2.2 dX11_count_166
      have n_122 := c_ne (a := x1.toInt) (b := 4) rfl (by decide) q_120
      by_cases q_123 : x1 = 5
      · have kq_123 : x1.toInt = 5 := by rw [q_123]; decide
        refine lv_topi (fun y ey => ?_)
        obtain rfl : y = 5 := ey.trans q_123
        refine lv_tableIn (x := 5) (off := 142) (tgt := 167) hx hb dX11_count_25 (by decide) (by decide) (by decide) (by decide) ?_
        refine lv_iconst (v := 0) hx hb dX11_count_167 (by decide) ?_
        refine lv_istore_n (lv' := [(3, .int 0), (2, .int 0), (0, .ref g0), (1, .int x1)]) hx hb dX11_count_168 rfl hl (by decide) rfl (fun ls hl => ?_)
        have cut_124 : ∀ (n : Nat) (y_125 : Int32) (y_126 : Int32) (H : Heap) (locs : List Loc) (ls : Array Slot), 60 - y_126.toInt ≤ (n : Int) → (0 ≤ y_125.toInt ∧ y_125.toInt ≤ 60) → (0 ≤ y_126.toInt ∧ y_126.toInt ≤ 60) → y_125.toInt = cnN (gnP9 v fa) y_126.toNatClampNeg → y_125.toInt ≤ y_126.toInt → y_126.toInt ≤ (v 43).toInt → va_P (dC, dI) vwCl (mW g0 pq cp v fa) H → va_S A s.heap H locs → lv_has ls 4 [(2, .int y_125), (3, .int y_126), (0, .ref g0), (1, .int x1)] → W p l e (headSpec wsX11_count { frames := 2, cells := 0, slots := 0, locals := 44 }).room s m #[Value.ref g0, Value.int x1] below meth c H locs 0 0 (MQ below (va_Qi (fun (r : Int32) (u : Unit) => (coA v fa x1.toInt r.toInt)) (fun _ _ => True) A) #[Value.ref g0, Value.int x1] s 0 0 A) (F0 m 169 ls []) := by
          intro n
          induction n using Nat.strongRecOn with
          | ind n ih =>
            intro y_125 y_126 H locs ls hm hy_125 hy_126 hq0_cut_124 hq1_cut_124 hq2_cut_124 hP hS hl
            refine lv_iload_n hx hb dX11_count_169 rfl (lv_at hl 1 rfl) ?_
            refine lv_aload_n hx hb dX11_count_170 rfl (lv_at hl 2 rfl) ?_
            refine va_get (D := (dC, dI)) (ci := 11) (v := .int (v 43)) (C := RX11) (T := TX11) (N := 63) hx hb hts in_wsX11_count_X11 hown hK hP 0 rfl rfl 43 (by decide) (hts (.fieldLink RX11 168 "ShipOfficeModel" "agreements" "I") iw_X11_count_5) (fun _ h9 => h9) rfl dX11_count_171 ?_
            refine lv_topi (fun x_127 ex_127 => ?_)
            have hx_127 : 0 ≤ x_127.toInt ∧ x_127.toInt ≤ 60 := iv_of ex_127 (gV 43)
            have gx_127 : x_127.toInt = (v 43).toInt := iv_to ex_127
            clear ex_127
            refine lv_icmp_ge (tgt := 199) hx hb dX11_count_174 (by decide) (fun c_128 => ?_) (fun c_128 => ?_)
            · have dc_128 := c_le (a := x_127.toInt) (b := y_126.toInt) rfl rfl c_128
              refine lv_iload_n hx hb dX11_count_199 rfl (lv_at hl 0 rfl) ?_
              exact W.iret (v := y_125) hx hb hr (fun t ht hW => ⟨⟨y_125, (), rfl, (by have hc9 := hq0_cut_124; rw [show y_126.toNatClampNeg = (v 43).toNatClampNeg from (show y_126.toInt.toNat = (v 43).toInt.toNat by omega)] at hc9; unfold coA; (first | exact Or.inl ⟨by omega, by omega⟩ | exact Or.inr (Or.inl ⟨by omega, by omega⟩) | exact Or.inr (Or.inr (Or.inl ⟨by omega, by omega⟩)) | exact Or.inr (Or.inr (Or.inr (Or.inl ⟨by omega, by omega⟩))) | exact Or.inr (Or.inr (Or.inr (Or.inr (Or.inl ⟨by omega, by omega⟩)))) | exact Or.inr (Or.inr (Or.inr (Or.inr (Or.inr (Or.inl ⟨by omega, by omega⟩))))) | exact Or.inr (Or.inr (Or.inr (Or.inr (Or.inr (Or.inr (Or.inl ⟨by omega, by omega⟩)))))) | exact Or.inr (Or.inr (Or.inr (Or.inr (Or.inr (Or.inr (Or.inr (Or.inl ⟨by omega, by omega⟩))))))) | exact Or.inr (Or.inr (Or.inr (Or.inr (Or.inr (Or.inr (Or.inr (Or.inr (Or.inl ⟨by omega, by omega⟩)))))))) | exact Or.inr (Or.inr (Or.inr (Or.inr (Or.inr (Or.inr (Or.inr (Or.inr (Or.inr (Or.inl ⟨by omega, by omega⟩))))))))) | exact Or.inr (Or.inr (Or.inr (Or.inr (Or.inr (Or.inr (Or.inr (Or.inr (Or.inr (Or.inr (Or.inl ⟨by omega, by omega⟩)))))))))) | exact Or.inr (Or.inr (Or.inr (Or.inr (Or.inr (Or.inr (Or.inr (Or.inr (Or.inr (Or.inr (Or.inr (Or.inl ⟨by omega, by omega, by omega⟩))))))))))) | exact Or.inr (Or.inr (Or.inr (Or.inr (Or.inr (Or.inr (Or.inr (Or.inr (Or.inr (Or.inr (Or.inr (Or.inr (⟨by omega, by omega⟩)))))))))))))), trivial⟩, hS.F ht⟩) hS.2.2 dX11_count_200
            · have dc_128 := c_nle (a := x_127.toInt) (b := y_126.toInt) rfl rfl c_128
              refine lv_iload_n hx hb dX11_count_177 rfl (lv_at hl 0 rfl) ?_
              refine lv_aload_n hx hb dX11_count_178 rfl (lv_at hl 2 rfl) ?_
              refine lv_iload_n hx hb dX11_count_179 rfl (lv_at hl 1 rfl) ?_
              have hFc : ∀ q, va_A [] H.size q → A q := pu_free hS hA
              refine va_calli (va_runV (As := [.int y_126]) (rest := [.int y_125]) ⟨hx, hb, hml, hown, hts⟩ (c_X11_goesOn_f l dC dI H.size g0 pq cp v fa gV gA y_126 (by omega)) (cwV 1 hts gX11_count_X11_goesOn rfl rfl rfl (by decide +kernel) ⟨(Nat.le_of_ble_eq_true rfl), (Nat.le_of_ble_eq_true rfl)⟩) (pr_V (r := (RX11, TX11, 63)) hP hK hD 0 11 rfl rfl) rfl rfl hl.1 rfl (lv_room (Nat.le_of_ble_eq_true rfl)) dX11_count_180 ⟨(Nat.le_of_ble_eq_true rfl), (Nat.le_of_ble_eq_true rfl)⟩) hS (fun q _ h => hFc q h) hFc (fun r_130 u t H locs ht hvm w_129 hB hz1 hk1 hS => ?_)
              have hP := pu_keep hP hk1
              clear hk1 hz1 hvm hB ht hFc
              obtain ⟨hb_131, hx_132⟩ := w_129
              refine lv_if_eq (tgt := 190) hx hb dX11_count_183 (by decide) (fun c_133 => ?_) (fun c_133 => ?_)
              · have dc_133 := c_eq (a := r_130.toInt) (b := 0) rfl (by decide) c_133
                refine lv_iconst (v := 0) hx hb dX11_count_190 (by decide) ?_
                refine lv_iadd hx hb dX11_count_191 ?_
                refine lv_topi (fun x_134 ex_134 => ?_)
                have hx_134 : x_134.toInt = y_125.toInt + 0 := (iv_to ex_134).trans (ad_i rfl (by decide) (by omega) (by omega))
                refine lv_istore_n (lv' := [(2, .int x_134), (3, .int y_126), (0, .ref g0), (1, .int x1)]) hx hb dX11_count_192 rfl hl (by decide) rfl (fun ls hl => ?_)
                obtain ⟨x_135, ex_135⟩ : ∃ zq : Int32, y_126 + 1 = zq := ⟨_, rfl⟩
                have hx_135 : x_135.toInt = y_126.toInt + 1 := (iv_to ex_135).symm.trans (ad_i rfl (by decide) (by omega) (by omega))
                refine lv_iinc (v := x_135) (lv' := [(3, .int x_135), (2, .int x_134), (0, .ref g0), (1, .int x1)]) hx hb dX11_count_193 hl (k := 1) rfl ex_135 (by decide) rfl (fun ls hl => ?_)
                clear ex_135
                refine lv_goto (tgt := 169) hx hb dX11_count_196 (by decide) ?_
                exact ih (n - 1) (by omega) x_134 x_135 _ _ ls (by omega) (by omega) (by omega) (cnN_s hq0_cut_124 (by omega) (by omega) (show x_134.toInt = y_125.toInt + b01 (gnP9 v fa y_126.toNatClampNeg) from by have bq := b01_i (gnP9 v fa y_126.toNatClampNeg); have q9 : gonI v fa y_126.toNatClampNeg = b01 (gnP9 v fa y_126.toNatClampNeg) := gn_b v fa _; omega)) (by omega) (by omega) hP hS (lv_sub hl [1, 0, 2, 3] rfl)
              · have dc_133 := c_ne (a := r_130.toInt) (b := 0) rfl (by decide) c_133
                refine lv_iconst (v := 1) hx hb dX11_count_186 (by decide) ?_
                refine lv_goto (tgt := 191) hx hb dX11_count_187 (by decide) ?_
                refine lv_iadd hx hb dX11_count_191 ?_
                refine lv_topi (fun x_136 ex_136 => ?_)
                have hx_136 : x_136.toInt = y_125.toInt + 1 := (iv_to ex_136).trans (ad_i rfl (by decide) (by omega) (by omega))
                refine lv_istore_n (lv' := [(2, .int x_136), (3, .int y_126), (0, .ref g0), (1, .int x1)]) hx hb dX11_count_192 rfl hl (by decide) rfl (fun ls hl => ?_)
                obtain ⟨x_137, ex_137⟩ : ∃ zq : Int32, y_126 + 1 = zq := ⟨_, rfl⟩
                have hx_137 : x_137.toInt = y_126.toInt + 1 := (iv_to ex_137).symm.trans (ad_i rfl (by decide) (by omega) (by omega))
                refine lv_iinc (v := x_137) (lv' := [(3, .int x_137), (2, .int x_136), (0, .ref g0), (1, .int x1)]) hx hb dX11_count_193 hl (k := 1) rfl ex_137 (by decide) rfl (fun ls hl => ?_)
                clear ex_137
                refine lv_goto (tgt := 169) hx hb dX11_count_196 (by decide) ?_
                exact ih (n - 1) (by omega) x_136 x_137 _ _ ls (by omega) (by omega) (by omega) (cnN_s hq0_cut_124 (by omega) (by omega) (show x_136.toInt = y_125.toInt + b01 (gnP9 v fa y_126.toNatClampNeg) from by have bq := b01_i (gnP9 v fa y_126.toNatClampNeg); have q9 : gonI v fa y_126.toNatClampNeg = b01 (gnP9 v fa y_126.toNatClampNeg) := gn_b v fa _; omega)) (by omega) (by omega) hP hS (lv_sub hl [1, 0, 2, 3] rfl)
        have kc_138 : (0 : Int32).toInt = 0 := by decide
        exact cut_124 61 0 0 _ _ ls (by omega) (by decide) (by decide) (cnN_0 (by decide) (by decide)) (by decide) (by have rc : (0 : Int32).toInt = 0 := (by decide); omega) hP hS (lv_sub hl [1, 0, 2, 3] rfl)
      have n_139 := c_ne (a := x1.toInt) (b := 5) rfl (by decide) q_123
      by_cases q_140 : x1 = 6
      · have kq_140 : x1.toInt = 6 := by rw [q_140]; decide
        refine lv_topi (fun y ey => ?_)
        obtain rfl : y = 6 := ey.trans q_140
        refine lv_tableIn (x := 6) (off := 176) (tgt := 201) hx hb dX11_count_25 (by decide) (by decide) (by decide) (by decide) ?_
        refine lv_aload_n hx hb dX11_count_201 rfl (lv_at hl 1 rfl) ?_
        refine va_get (D := (dC, dI)) (ci := 11) (v := .int (v 41)) (C := RX11) (T := TX11) (N := 63) hx hb hts in_wsX11_count_X11 hown hK hP 0 rfl rfl 41 (by decide) (hts (.fieldLink RX11 179 "ShipOfficeModel" "happened" "I") iw_X11_count_6) (fun _ h9 => h9) rfl dX11_count_202 ?_
        refine lv_topi (fun x_141 ex_141 => ?_)
        have hx_141 : 0 ≤ x_141.toInt ∧ x_141.toInt ≤ 200 := iv_of ex_141 (gV 41)
        have gx_141 : x_141.toInt = (v 41).toInt := iv_to ex_141
        clear ex_141
        exact W.iret (v := x_141) hx hb hr (fun t ht hW => ⟨⟨x_141, (), rfl, (by unfold coA; (first | exact Or.inl ⟨by omega, by omega⟩ | exact Or.inr (Or.inl ⟨by omega, by omega⟩) | exact Or.inr (Or.inr (Or.inl ⟨by omega, by omega⟩)) | exact Or.inr (Or.inr (Or.inr (Or.inl ⟨by omega, by omega⟩))) | exact Or.inr (Or.inr (Or.inr (Or.inr (Or.inl ⟨by omega, by omega⟩)))) | exact Or.inr (Or.inr (Or.inr (Or.inr (Or.inr (Or.inl ⟨by omega, by omega⟩))))) | exact Or.inr (Or.inr (Or.inr (Or.inr (Or.inr (Or.inr (Or.inl ⟨by omega, by omega⟩)))))) | exact Or.inr (Or.inr (Or.inr (Or.inr (Or.inr (Or.inr (Or.inr (Or.inl ⟨by omega, by omega⟩))))))) | exact Or.inr (Or.inr (Or.inr (Or.inr (Or.inr (Or.inr (Or.inr (Or.inr (Or.inl ⟨by omega, by omega⟩)))))))) | exact Or.inr (Or.inr (Or.inr (Or.inr (Or.inr (Or.inr (Or.inr (Or.inr (Or.inr (Or.inl ⟨by omega, by omega⟩))))))))) | exact Or.inr (Or.inr (Or.inr (Or.inr (Or.inr (Or.inr (Or.inr (Or.inr (Or.inr (Or.inr (Or.inl ⟨by omega, by omega⟩)))))))))) | exact Or.inr (Or.inr (Or.inr (Or.inr (Or.inr (Or.inr (Or.inr (Or.inr (Or.inr (Or.inr (Or.inr (Or.inl ⟨by omega, by omega, by omega⟩))))))))))) | exact Or.inr (Or.inr (Or.inr (Or.inr (Or.inr (Or.inr (Or.inr (Or.inr (Or.inr (Or.inr (Or.inr (Or.inr (⟨by omega, by omega⟩)))))))))))))), trivial⟩, hS.F ht⟩) hS.2.2 dX11_count_205
      have n_142 := c_ne (a := x1.toInt) (b := 6) rfl (by decide) q_140
      by_cases q_143 : x1 = 7
      · have kq_143 : x1.toInt = 7 := by rw [q_143]; decide
        refine lv_topi (fun y ey => ?_)
        obtain rfl : y = 7 := ey.trans q_143
        refine lv_tableIn (x := 7) (off := 181) (tgt := 206) hx hb dX11_count_25 (by decide) (by decide) (by decide) (by decide) ?_
        refine lv_aload_n hx hb dX11_count_206 rfl (lv_at hl 1 rfl) ?_
        refine va_get (D := (dC, dI)) (ci := 11) (v := .int (v 42)) (C := RX11) (T := TX11) (N := 63) hx hb hts in_wsX11_count_X11 hown hK hP 0 rfl rfl 42 (by decide) (hts (.fieldLink RX11 256 "ShipOfficeModel" "acts" "I") iw_X11_count_7) (fun _ h9 => h9) rfl dX11_count_207 ?_
        refine lv_topi (fun x_144 ex_144 => ?_)
        have hx_144 : 0 ≤ x_144.toInt ∧ x_144.toInt ≤ 30 := iv_of ex_144 (gV 42)
        have gx_144 : x_144.toInt = (v 42).toInt := iv_to ex_144
        clear ex_144
        exact W.iret (v := x_144) hx hb hr (fun t ht hW => ⟨⟨x_144, (), rfl, (by unfold coA; (first | exact Or.inl ⟨by omega, by omega⟩ | exact Or.inr (Or.inl ⟨by omega, by omega⟩) | exact Or.inr (Or.inr (Or.inl ⟨by omega, by omega⟩)) | exact Or.inr (Or.inr (Or.inr (Or.inl ⟨by omega, by omega⟩))) | exact Or.inr (Or.inr (Or.inr (Or.inr (Or.inl ⟨by omega, by omega⟩)))) | exact Or.inr (Or.inr (Or.inr (Or.inr (Or.inr (Or.inl ⟨by omega, by omega⟩))))) | exact Or.inr (Or.inr (Or.inr (Or.inr (Or.inr (Or.inr (Or.inl ⟨by omega, by omega⟩)))))) | exact Or.inr (Or.inr (Or.inr (Or.inr (Or.inr (Or.inr (Or.inr (Or.inl ⟨by omega, by omega⟩))))))) | exact Or.inr (Or.inr (Or.inr (Or.inr (Or.inr (Or.inr (Or.inr (Or.inr (Or.inl ⟨by omega, by omega⟩)))))))) | exact Or.inr (Or.inr (Or.inr (Or.inr (Or.inr (Or.inr (Or.inr (Or.inr (Or.inr (Or.inl ⟨by omega, by omega⟩))))))))) | exact Or.inr (Or.inr (Or.inr (Or.inr (Or.inr (Or.inr (Or.inr (Or.inr (Or.inr (Or.inr (Or.inl ⟨by omega, by omega⟩)))))))))) | exact Or.inr (Or.inr (Or.inr (Or.inr (Or.inr (Or.inr (Or.inr (Or.inr (Or.inr (Or.inr (Or.inr (Or.inl ⟨by omega, by omega, by omega⟩))))))))))) | exact Or.inr (Or.inr (Or.inr (Or.inr (Or.inr (Or.inr (Or.inr (Or.inr (Or.inr (Or.inr (Or.inr (Or.inr (⟨by omega, by omega⟩)))))))))))))), trivial⟩, hS.F ht⟩) hS.2.2 dX11_count_210
      have n_145 := c_ne (a := x1.toInt) (b := 7) rfl (by decide) q_143
      by_cases q_146 : x1 = 8
      · have kq_146 : x1.toInt = 8 := by rw [q_146]; decide
        refine lv_topi (fun y ey => ?_)
        obtain rfl : y = 8 := ey.trans q_146
        refine lv_tableIn (x := 8) (off := 186) (tgt := 211) hx hb dX11_count_25 (by decide) (by decide) (by decide) (by decide) ?_
        refine lv_aload_n hx hb dX11_count_211 rfl (lv_at hl 1 rfl) ?_
        refine va_get (D := (dC, dI)) (ci := 11) (v := .int (v 46)) (C := RX11) (T := TX11) (N := 63) hx hb hts in_wsX11_count_X11 hown hK hP 0 rfl rfl 46 (by decide) (hts (.fieldLink RX11 205 "ShipOfficeModel" "taped" "I") iw_X11_count_8) (fun _ h9 => h9) rfl dX11_count_212 ?_
        refine lv_topi (fun x_147 ex_147 => ?_)
        have hx_147 : 0 ≤ x_147.toInt ∧ x_147.toInt ≤ 60 := iv_of ex_147 (gV 46)
        have gx_147 : x_147.toInt = (v 46).toInt := iv_to ex_147
        clear ex_147
        exact W.iret (v := x_147) hx hb hr (fun t ht hW => ⟨⟨x_147, (), rfl, (by unfold coA; (first | exact Or.inl ⟨by omega, by omega⟩ | exact Or.inr (Or.inl ⟨by omega, by omega⟩) | exact Or.inr (Or.inr (Or.inl ⟨by omega, by omega⟩)) | exact Or.inr (Or.inr (Or.inr (Or.inl ⟨by omega, by omega⟩))) | exact Or.inr (Or.inr (Or.inr (Or.inr (Or.inl ⟨by omega, by omega⟩)))) | exact Or.inr (Or.inr (Or.inr (Or.inr (Or.inr (Or.inl ⟨by omega, by omega⟩))))) | exact Or.inr (Or.inr (Or.inr (Or.inr (Or.inr (Or.inr (Or.inl ⟨by omega, by omega⟩)))))) | exact Or.inr (Or.inr (Or.inr (Or.inr (Or.inr (Or.inr (Or.inr (Or.inl ⟨by omega, by omega⟩))))))) | exact Or.inr (Or.inr (Or.inr (Or.inr (Or.inr (Or.inr (Or.inr (Or.inr (Or.inl ⟨by omega, by omega⟩)))))))) | exact Or.inr (Or.inr (Or.inr (Or.inr (Or.inr (Or.inr (Or.inr (Or.inr (Or.inr (Or.inl ⟨by omega, by omega⟩))))))))) | exact Or.inr (Or.inr (Or.inr (Or.inr (Or.inr (Or.inr (Or.inr (Or.inr (Or.inr (Or.inr (Or.inl ⟨by omega, by omega⟩)))))))))) | exact Or.inr (Or.inr (Or.inr (Or.inr (Or.inr (Or.inr (Or.inr (Or.inr (Or.inr (Or.inr (Or.inr (Or.inl ⟨by omega, by omega, by omega⟩))))))))))) | exact Or.inr (Or.inr (Or.inr (Or.inr (Or.inr (Or.inr (Or.inr (Or.inr (Or.inr (Or.inr (Or.inr (Or.inr (⟨by omega, by omega⟩)))))))))))))), trivial⟩, hS.F ht⟩) hS.2.2 dX11_count_215
      have n_148 := c_ne (a := x1.toInt) (b := 8) rfl (by decide) q_146
      by_cases q_149 : x1 = 9
      · have kq_149 : x1.toInt = 9 := by rw [q_149]; decide
        refine lv_topi (fun y ey => ?_)
        obtain rfl : y = 9 := ey.trans q_149
        refine lv_tableIn (x := 9) (off := 191) (tgt := 216) hx hb dX11_count_25 (by decide) (by decide) (by decide) (by decide) ?_
        refine lv_aload_n hx hb dX11_count_216 rfl (lv_at hl 1 rfl) ?_
        refine va_get (D := (dC, dI)) (ci := 11) (v := .int (v 62)) (C := RX11) (T := TX11) (N := 63) hx hb hts in_wsX11_count_X11 hown hK hP 0 rfl rfl 62 (by decide) (hts (.fieldLink RX11 357 "ShipOfficeModel" "rowed" "I") iw_X11_count_9) (fun _ h9 => h9) rfl dX11_count_217 ?_
        refine lv_topi (fun x_150 ex_150 => ?_)
        have hx_150 : 0 ≤ x_150.toInt ∧ x_150.toInt ≤ 12 := iv_of ex_150 (gV 62)
        have gx_150 : x_150.toInt = (v 62).toInt := iv_to ex_150
        clear ex_150
        exact W.iret (v := x_150) hx hb hr (fun t ht hW => ⟨⟨x_150, (), rfl, (by unfold coA; (first | exact Or.inl ⟨by omega, by omega⟩ | exact Or.inr (Or.inl ⟨by omega, by omega⟩) | exact Or.inr (Or.inr (Or.inl ⟨by omega, by omega⟩)) | exact Or.inr (Or.inr (Or.inr (Or.inl ⟨by omega, by omega⟩))) | exact Or.inr (Or.inr (Or.inr (Or.inr (Or.inl ⟨by omega, by omega⟩)))) | exact Or.inr (Or.inr (Or.inr (Or.inr (Or.inr (Or.inl ⟨by omega, by omega⟩))))) | exact Or.inr (Or.inr (Or.inr (Or.inr (Or.inr (Or.inr (Or.inl ⟨by omega, by omega⟩)))))) | exact Or.inr (Or.inr (Or.inr (Or.inr (Or.inr (Or.inr (Or.inr (Or.inl ⟨by omega, by omega⟩))))))) | exact Or.inr (Or.inr (Or.inr (Or.inr (Or.inr (Or.inr (Or.inr (Or.inr (Or.inl ⟨by omega, by omega⟩)))))))) | exact Or.inr (Or.inr (Or.inr (Or.inr (Or.inr (Or.inr (Or.inr (Or.inr (Or.inr (Or.inl ⟨by omega, by omega⟩))))))))) | exact Or.inr (Or.inr (Or.inr (Or.inr (Or.inr (Or.inr (Or.inr (Or.inr (Or.inr (Or.inr (Or.inl ⟨by omega, by omega⟩)))))))))) | exact Or.inr (Or.inr (Or.inr (Or.inr (Or.inr (Or.inr (Or.inr (Or.inr (Or.inr (Or.inr (Or.inr (Or.inl ⟨by omega, by omega, by omega⟩))))))))))) | exact Or.inr (Or.inr (Or.inr (Or.inr (Or.inr (Or.inr (Or.inr (Or.inr (Or.inr (Or.inr (Or.inr (Or.inr (⟨by omega, by omega⟩)))))))))))))), trivial⟩, hS.F ht⟩) hS.2.2 dX11_count_220
      have n_151 := c_ne (a := x1.toInt) (b := 9) rfl (by decide) q_149
      by_cases q_152 : x1 = 10
      · have kq_152 : x1.toInt = 10 := by rw [q_152]; decide
        refine lv_topi (fun y ey => ?_)
        obtain rfl : y = 10 := ey.trans q_152
        refine lv_tableIn (x := 10) (off := 230) (tgt := 255) hx hb dX11_count_25 (by decide) (by decide) (by decide) (by decide) ?_
        refine lv_bipush (v := (-9)) hx hb dX11_count_255 (by decide) ?_
        exact W.iret (v := (-9)) hx hb hr (fun t ht hW => ⟨⟨(-9), (), rfl, (by have rc : ((-9) : Int32).toInt = -9 := (by decide); unfold coA; (first | exact Or.inl ⟨by omega, by omega⟩ | exact Or.inr (Or.inl ⟨by omega, by omega⟩) | exact Or.inr (Or.inr (Or.inl ⟨by omega, by omega⟩)) | exact Or.inr (Or.inr (Or.inr (Or.inl ⟨by omega, by omega⟩))) | exact Or.inr (Or.inr (Or.inr (Or.inr (Or.inl ⟨by omega, by omega⟩)))) | exact Or.inr (Or.inr (Or.inr (Or.inr (Or.inr (Or.inl ⟨by omega, by omega⟩))))) | exact Or.inr (Or.inr (Or.inr (Or.inr (Or.inr (Or.inr (Or.inl ⟨by omega, by omega⟩)))))) | exact Or.inr (Or.inr (Or.inr (Or.inr (Or.inr (Or.inr (Or.inr (Or.inl ⟨by omega, by omega⟩))))))) | exact Or.inr (Or.inr (Or.inr (Or.inr (Or.inr (Or.inr (Or.inr (Or.inr (Or.inl ⟨by omega, by omega⟩)))))))) | exact Or.inr (Or.inr (Or.inr (Or.inr (Or.inr (Or.inr (Or.inr (Or.inr (Or.inr (Or.inl ⟨by omega, by omega⟩))))))))) | exact Or.inr (Or.inr (Or.inr (Or.inr (Or.inr (Or.inr (Or.inr (Or.inr (Or.inr (Or.inr (Or.inl ⟨by omega, by omega⟩)))))))))) | exact Or.inr (Or.inr (Or.inr (Or.inr (Or.inr (Or.inr (Or.inr (Or.inr (Or.inr (Or.inr (Or.inr (Or.inl ⟨by omega, by omega, by omega⟩))))))))))) | exact Or.inr (Or.inr (Or.inr (Or.inr (Or.inr (Or.inr (Or.inr (Or.inr (Or.inr (Or.inr (Or.inr (Or.inr (⟨by omega, by omega⟩)))))))))))))), trivial⟩, hS.F ht⟩) hS.2.2 dX11_count_257
      have n_153 := c_ne (a := x1.toInt) (b := 10) rfl (by decide) q_152
      by_cases q_154 : x1 = 11
      · have kq_154 : x1.toInt = 11 := by rw [q_154]; decide
        refine lv_topi (fun y ey => ?_)
        obtain rfl : y = 11 := ey.trans q_154
        refine lv_tableIn (x := 11) (off := 230) (tgt := 255) hx hb dX11_count_25 (by decide) (by decide) (by decide) (by decide) ?_
        refine lv_bipush (v := (-9)) hx hb dX11_count_255 (by decide) ?_
        exact W.iret (v := (-9)) hx hb hr (fun t ht hW => ⟨⟨(-9), (), rfl, (by have rc : ((-9) : Int32).toInt = -9 := (by decide); unfold coA; (first | exact Or.inl ⟨by omega, by omega⟩ | exact Or.inr (Or.inl ⟨by omega, by omega⟩) | exact Or.inr (Or.inr (Or.inl ⟨by omega, by omega⟩)) | exact Or.inr (Or.inr (Or.inr (Or.inl ⟨by omega, by omega⟩))) | exact Or.inr (Or.inr (Or.inr (Or.inr (Or.inl ⟨by omega, by omega⟩)))) | exact Or.inr (Or.inr (Or.inr (Or.inr (Or.inr (Or.inl ⟨by omega, by omega⟩))))) | exact Or.inr (Or.inr (Or.inr (Or.inr (Or.inr (Or.inr (Or.inl ⟨by omega, by omega⟩)))))) | exact Or.inr (Or.inr (Or.inr (Or.inr (Or.inr (Or.inr (Or.inr (Or.inl ⟨by omega, by omega⟩))))))) | exact Or.inr (Or.inr (Or.inr (Or.inr (Or.inr (Or.inr (Or.inr (Or.inr (Or.inl ⟨by omega, by omega⟩)))))))) | exact Or.inr (Or.inr (Or.inr (Or.inr (Or.inr (Or.inr (Or.inr (Or.inr (Or.inr (Or.inl ⟨by omega, by omega⟩))))))))) | exact Or.inr (Or.inr (Or.inr (Or.inr (Or.inr (Or.inr (Or.inr (Or.inr (Or.inr (Or.inr (Or.inl ⟨by omega, by omega⟩)))))))))) | exact Or.inr (Or.inr (Or.inr (Or.inr (Or.inr (Or.inr (Or.inr (Or.inr (Or.inr (Or.inr (Or.inr (Or.inl ⟨by omega, by omega, by omega⟩))))))))))) | exact Or.inr (Or.inr (Or.inr (Or.inr (Or.inr (Or.inr (Or.inr (Or.inr (Or.inr (Or.inr (Or.inr (Or.inr (⟨by omega, by omega⟩)))))))))))))), trivial⟩, hS.F ht⟩) hS.2.2 dX11_count_257
      have n_155 := c_ne (a := x1.toInt) (b := 11) rfl (by decide) q_154
      by_cases q_156 : x1 = 12
      · have kq_156 : x1.toInt = 12 := by rw [q_156]; decide
        refine lv_topi (fun y ey => ?_)
        obtain rfl : y = 12 := ey.trans q_156
        refine lv_tableIn (x := 12) (off := 230) (tgt := 255) hx hb dX11_count_25 (by decide) (by decide) (by decide) (by decide) ?_
        refine lv_bipush (v := (-9)) hx hb dX11_count_255 (by decide) ?_
        exact W.iret (v := (-9)) hx hb hr (fun t ht hW => ⟨⟨(-9), (), rfl, (by have rc : ((-9) : Int32).toInt = -9 := (by decide); unfold coA; (first | exact Or.inl ⟨by omega, by omega⟩ | exact Or.inr (Or.inl ⟨by omega, by omega⟩) | exact Or.inr (Or.inr (Or.inl ⟨by omega, by omega⟩)) | exact Or.inr (Or.inr (Or.inr (Or.inl ⟨by omega, by omega⟩))) | exact Or.inr (Or.inr (Or.inr (Or.inr (Or.inl ⟨by omega, by omega⟩)))) | exact Or.inr (Or.inr (Or.inr (Or.inr (Or.inr (Or.inl ⟨by omega, by omega⟩))))) | exact Or.inr (Or.inr (Or.inr (Or.inr (Or.inr (Or.inr (Or.inl ⟨by omega, by omega⟩)))))) | exact Or.inr (Or.inr (Or.inr (Or.inr (Or.inr (Or.inr (Or.inr (Or.inl ⟨by omega, by omega⟩))))))) | exact Or.inr (Or.inr (Or.inr (Or.inr (Or.inr (Or.inr (Or.inr (Or.inr (Or.inl ⟨by omega, by omega⟩)))))))) | exact Or.inr (Or.inr (Or.inr (Or.inr (Or.inr (Or.inr (Or.inr (Or.inr (Or.inr (Or.inl ⟨by omega, by omega⟩))))))))) | exact Or.inr (Or.inr (Or.inr (Or.inr (Or.inr (Or.inr (Or.inr (Or.inr (Or.inr (Or.inr (Or.inl ⟨by omega, by omega⟩)))))))))) | exact Or.inr (Or.inr (Or.inr (Or.inr (Or.inr (Or.inr (Or.inr (Or.inr (Or.inr (Or.inr (Or.inr (Or.inl ⟨by omega, by omega, by omega⟩))))))))))) | exact Or.inr (Or.inr (Or.inr (Or.inr (Or.inr (Or.inr (Or.inr (Or.inr (Or.inr (Or.inr (Or.inr (Or.inr (⟨by omega, by omega⟩)))))))))))))), trivial⟩, hS.F ht⟩) hS.2.2 dX11_count_257
      have n_157 := c_ne (a := x1.toInt) (b := 12) rfl (by decide) q_156
      by_cases q_158 : x1 = 13
      · have kq_158 : x1.toInt = 13 := by rw [q_158]; decide
        refine lv_topi (fun y ey => ?_)
        obtain rfl : y = 13 := ey.trans q_158
        refine lv_tableIn (x := 13) (off := 230) (tgt := 255) hx hb dX11_count_25 (by decide) (by decide) (by decide) (by decide) ?_
        refine lv_bipush (v := (-9)) hx hb dX11_count_255 (by decide) ?_
        exact W.iret (v := (-9)) hx hb hr (fun t ht hW => ⟨⟨(-9), (), rfl, (by have rc : ((-9) : Int32).toInt = -9 := (by decide); unfold coA; (first | exact Or.inl ⟨by omega, by omega⟩ | exact Or.inr (Or.inl ⟨by omega, by omega⟩) | exact Or.inr (Or.inr (Or.inl ⟨by omega, by omega⟩)) | exact Or.inr (Or.inr (Or.inr (Or.inl ⟨by omega, by omega⟩))) | exact Or.inr (Or.inr (Or.inr (Or.inr (Or.inl ⟨by omega, by omega⟩)))) | exact Or.inr (Or.inr (Or.inr (Or.inr (Or.inr (Or.inl ⟨by omega, by omega⟩))))) | exact Or.inr (Or.inr (Or.inr (Or.inr (Or.inr (Or.inr (Or.inl ⟨by omega, by omega⟩)))))) | exact Or.inr (Or.inr (Or.inr (Or.inr (Or.inr (Or.inr (Or.inr (Or.inl ⟨by omega, by omega⟩))))))) | exact Or.inr (Or.inr (Or.inr (Or.inr (Or.inr (Or.inr (Or.inr (Or.inr (Or.inl ⟨by omega, by omega⟩)))))))) | exact Or.inr (Or.inr (Or.inr (Or.inr (Or.inr (Or.inr (Or.inr (Or.inr (Or.inr (Or.inl ⟨by omega, by omega⟩))))))))) | exact Or.inr (Or.inr (Or.inr (Or.inr (Or.inr (Or.inr (Or.inr (Or.inr (Or.inr (Or.inr (Or.inl ⟨by omega, by omega⟩)))))))))) | exact Or.inr (Or.inr (Or.inr (Or.inr (Or.inr (Or.inr (Or.inr (Or.inr (Or.inr (Or.inr (Or.inr (Or.inl ⟨by omega, by omega, by omega⟩))))))))))) | exact Or.inr (Or.inr (Or.inr (Or.inr (Or.inr (Or.inr (Or.inr (Or.inr (Or.inr (Or.inr (Or.inr (Or.inr (⟨by omega, by omega⟩)))))))))))))), trivial⟩, hS.F ht⟩) hS.2.2 dX11_count_257
      have n_159 := c_ne (a := x1.toInt) (b := 13) rfl (by decide) q_158
      by_cases q_160 : x1 = 14
      · have kq_160 : x1.toInt = 14 := by rw [q_160]; decide
        refine lv_topi (fun y ey => ?_)
        obtain rfl : y = 14 := ey.trans q_160
        refine lv_tableIn (x := 14) (off := 230) (tgt := 255) hx hb dX11_count_25 (by decide) (by decide) (by decide) (by decide) ?_
        refine lv_bipush (v := (-9)) hx hb dX11_count_255 (by decide) ?_
        exact W.iret (v := (-9)) hx hb hr (fun t ht hW => ⟨⟨(-9), (), rfl, (by have rc : ((-9) : Int32).toInt = -9 := (by decide); unfold coA; (first | exact Or.inl ⟨by omega, by omega⟩ | exact Or.inr (Or.inl ⟨by omega, by omega⟩) | exact Or.inr (Or.inr (Or.inl ⟨by omega, by omega⟩)) | exact Or.inr (Or.inr (Or.inr (Or.inl ⟨by omega, by omega⟩))) | exact Or.inr (Or.inr (Or.inr (Or.inr (Or.inl ⟨by omega, by omega⟩)))) | exact Or.inr (Or.inr (Or.inr (Or.inr (Or.inr (Or.inl ⟨by omega, by omega⟩))))) | exact Or.inr (Or.inr (Or.inr (Or.inr (Or.inr (Or.inr (Or.inl ⟨by omega, by omega⟩)))))) | exact Or.inr (Or.inr (Or.inr (Or.inr (Or.inr (Or.inr (Or.inr (Or.inl ⟨by omega, by omega⟩))))))) | exact Or.inr (Or.inr (Or.inr (Or.inr (Or.inr (Or.inr (Or.inr (Or.inr (Or.inl ⟨by omega, by omega⟩)))))))) | exact Or.inr (Or.inr (Or.inr (Or.inr (Or.inr (Or.inr (Or.inr (Or.inr (Or.inr (Or.inl ⟨by omega, by omega⟩))))))))) | exact Or.inr (Or.inr (Or.inr (Or.inr (Or.inr (Or.inr (Or.inr (Or.inr (Or.inr (Or.inr (Or.inl ⟨by omega, by omega⟩)))))))))) | exact Or.inr (Or.inr (Or.inr (Or.inr (Or.inr (Or.inr (Or.inr (Or.inr (Or.inr (Or.inr (Or.inr (Or.inl ⟨by omega, by omega, by omega⟩))))))))))) | exact Or.inr (Or.inr (Or.inr (Or.inr (Or.inr (Or.inr (Or.inr (Or.inr (Or.inr (Or.inr (Or.inr (Or.inr (⟨by omega, by omega⟩)))))))))))))), trivial⟩, hS.F ht⟩) hS.2.2 dX11_count_257
      have n_161 := c_ne (a := x1.toInt) (b := 14) rfl (by decide) q_160
      by_cases q_162 : x1 = 15
      · have kq_162 : x1.toInt = 15 := by rw [q_162]; decide
        refine lv_topi (fun y ey => ?_)
        obtain rfl : y = 15 := ey.trans q_162
        refine lv_tableIn (x := 15) (off := 230) (tgt := 255) hx hb dX11_count_25 (by decide) (by decide) (by decide) (by decide) ?_
        refine lv_bipush (v := (-9)) hx hb dX11_count_255 (by decide) ?_
        exact W.iret (v := (-9)) hx hb hr (fun t ht hW => ⟨⟨(-9), (), rfl, (by have rc : ((-9) : Int32).toInt = -9 := (by decide); unfold coA; (first | exact Or.inl ⟨by omega, by omega⟩ | exact Or.inr (Or.inl ⟨by omega, by omega⟩) | exact Or.inr (Or.inr (Or.inl ⟨by omega, by omega⟩)) | exact Or.inr (Or.inr (Or.inr (Or.inl ⟨by omega, by omega⟩))) | exact Or.inr (Or.inr (Or.inr (Or.inr (Or.inl ⟨by omega, by omega⟩)))) | exact Or.inr (Or.inr (Or.inr (Or.inr (Or.inr (Or.inl ⟨by omega, by omega⟩))))) | exact Or.inr (Or.inr (Or.inr (Or.inr (Or.inr (Or.inr (Or.inl ⟨by omega, by omega⟩)))))) | exact Or.inr (Or.inr (Or.inr (Or.inr (Or.inr (Or.inr (Or.inr (Or.inl ⟨by omega, by omega⟩))))))) | exact Or.inr (Or.inr (Or.inr (Or.inr (Or.inr (Or.inr (Or.inr (Or.inr (Or.inl ⟨by omega, by omega⟩)))))))) | exact Or.inr (Or.inr (Or.inr (Or.inr (Or.inr (Or.inr (Or.inr (Or.inr (Or.inr (Or.inl ⟨by omega, by omega⟩))))))))) | exact Or.inr (Or.inr (Or.inr (Or.inr (Or.inr (Or.inr (Or.inr (Or.inr (Or.inr (Or.inr (Or.inl ⟨by omega, by omega⟩)))))))))) | exact Or.inr (Or.inr (Or.inr (Or.inr (Or.inr (Or.inr (Or.inr (Or.inr (Or.inr (Or.inr (Or.inr (Or.inl ⟨by omega, by omega, by omega⟩))))))))))) | exact Or.inr (Or.inr (Or.inr (Or.inr (Or.inr (Or.inr (Or.inr (Or.inr (Or.inr (Or.inr (Or.inr (Or.inr (⟨by omega, by omega⟩)))))))))))))), trivial⟩, hS.F ht⟩) hS.2.2 dX11_count_257
      have n_163 := c_ne (a := x1.toInt) (b := 15) rfl (by decide) q_162
      by_cases q_164 : x1 = 16
      · have kq_164 : x1.toInt = 16 := by rw [q_164]; decide
        refine lv_topi (fun y ey => ?_)
        obtain rfl : y = 16 := ey.trans q_164
        refine lv_tableIn (x := 16) (off := 230) (tgt := 255) hx hb dX11_count_25 (by decide) (by decide) (by decide) (by decide) ?_
        refine lv_bipush (v := (-9)) hx hb dX11_count_255 (by decide) ?_
        exact W.iret (v := (-9)) hx hb hr (fun t ht hW => ⟨⟨(-9), (), rfl, (by have rc : ((-9) : Int32).toInt = -9 := (by decide); unfold coA; (first | exact Or.inl ⟨by omega, by omega⟩ | exact Or.inr (Or.inl ⟨by omega, by omega⟩) | exact Or.inr (Or.inr (Or.inl ⟨by omega, by omega⟩)) | exact Or.inr (Or.inr (Or.inr (Or.inl ⟨by omega, by omega⟩))) | exact Or.inr (Or.inr (Or.inr (Or.inr (Or.inl ⟨by omega, by omega⟩)))) | exact Or.inr (Or.inr (Or.inr (Or.inr (Or.inr (Or.inl ⟨by omega, by omega⟩))))) | exact Or.inr (Or.inr (Or.inr (Or.inr (Or.inr (Or.inr (Or.inl ⟨by omega, by omega⟩)))))) | exact Or.inr (Or.inr (Or.inr (Or.inr (Or.inr (Or.inr (Or.inr (Or.inl ⟨by omega, by omega⟩))))))) | exact Or.inr (Or.inr (Or.inr (Or.inr (Or.inr (Or.inr (Or.inr (Or.inr (Or.inl ⟨by omega, by omega⟩)))))))) | exact Or.inr (Or.inr (Or.inr (Or.inr (Or.inr (Or.inr (Or.inr (Or.inr (Or.inr (Or.inl ⟨by omega, by omega⟩))))))))) | exact Or.inr (Or.inr (Or.inr (Or.inr (Or.inr (Or.inr (Or.inr (Or.inr (Or.inr (Or.inr (Or.inl ⟨by omega, by omega⟩)))))))))) | exact Or.inr (Or.inr (Or.inr (Or.inr (Or.inr (Or.inr (Or.inr (Or.inr (Or.inr (Or.inr (Or.inr (Or.inl ⟨by omega, by omega, by omega⟩))))))))))) | exact Or.inr (Or.inr (Or.inr (Or.inr (Or.inr (Or.inr (Or.inr (Or.inr (Or.inr (Or.inr (Or.inr (Or.inr (⟨by omega, by omega⟩)))))))))))))), trivial⟩, hS.F ht⟩) hS.2.2 dX11_count_257
      have n_165 := c_ne (a := x1.toInt) (b := 16) rfl (by decide) q_164
      by_cases q_166 : x1 = 17
      · have kq_166 : x1.toInt = 17 := by rw [q_166]; decide
        refine lv_topi (fun y ey => ?_)
        obtain rfl : y = 17 := ey.trans q_166
        refine lv_tableIn (x := 17) (off := 196) (tgt := 221) hx hb dX11_count_25 (by decide) (by decide) (by decide) (by decide) ?_
        refine lv_iconst (v := 0) hx hb dX11_count_221 (by decide) ?_
        refine lv_istore_n (lv' := [(3, .int 0), (2, .int 0), (0, .ref g0), (1, .int x1)]) hx hb dX11_count_222 rfl hl (by decide) rfl (fun ls hl => ?_)
        have cut_167 : ∀ (n : Nat) (y_168 : Int32) (y_169 : Int32) (H : Heap) (locs : List Loc) (ls : Array Slot), 40 - y_169.toInt ≤ (n : Int) → (0 ≤ y_168.toInt ∧ y_168.toInt ≤ 40) → (0 ≤ y_169.toInt ∧ y_169.toInt ≤ 40) → y_168.toInt = cnN (akP fa) y_169.toNatClampNeg → y_168.toInt ≤ y_169.toInt → y_169.toInt ≤ (v 39).toInt → va_P (dC, dI) vwCl (mW g0 pq cp v fa) H → va_S A s.heap H locs → lv_has ls 4 [(2, .int y_168), (3, .int y_169), (0, .ref g0), (1, .int x1)] → W p l e (headSpec wsX11_count { frames := 2, cells := 0, slots := 0, locals := 44 }).room s m #[Value.ref g0, Value.int x1] below meth c H locs 0 0 (MQ below (va_Qi (fun (r : Int32) (u : Unit) => (coA v fa x1.toInt r.toInt)) (fun _ _ => True) A) #[Value.ref g0, Value.int x1] s 0 0 A) (F0 m 223 ls []) := by
          intro n
          induction n using Nat.strongRecOn with
          | ind n ih =>
            intro y_168 y_169 H locs ls hm hy_168 hy_169 hq0_cut_167 hq1_cut_167 hq2_cut_167 hP hS hl
            refine lv_iload_n hx hb dX11_count_223 rfl (lv_at hl 1 rfl) ?_
            refine lv_aload_n hx hb dX11_count_224 rfl (lv_at hl 2 rfl) ?_
            refine va_get (D := (dC, dI)) (ci := 11) (v := .int (v 39)) (C := RX11) (T := TX11) (N := 63) hx hb hts in_wsX11_count_X11 hown hK hP 0 rfl rfl 39 (by decide) (hts (.fieldLink RX11 157 "ShipOfficeModel" "men" "I") iw_X11_count_2) (fun _ h9 => h9) rfl dX11_count_225 ?_
            refine lv_topi (fun x_170 ex_170 => ?_)
            have hx_170 : 0 ≤ x_170.toInt ∧ x_170.toInt ≤ 40 := iv_of ex_170 (gV 39)
            have gx_170 : x_170.toInt = (v 39).toInt := iv_to ex_170
            clear ex_170
            refine lv_icmp_ge (tgt := 253) hx hb dX11_count_228 (by decide) (fun c_171 => ?_) (fun c_171 => ?_)
            · have dc_171 := c_le (a := x_170.toInt) (b := y_169.toInt) rfl rfl c_171
              refine lv_iload_n hx hb dX11_count_253 rfl (lv_at hl 0 rfl) ?_
              exact W.iret (v := y_168) hx hb hr (fun t ht hW => ⟨⟨y_168, (), rfl, (by have hc9 := hq0_cut_167; rw [show y_169.toNatClampNeg = (v 39).toNatClampNeg from (show y_169.toInt.toNat = (v 39).toInt.toNat by omega)] at hc9; unfold coA; (first | exact Or.inl ⟨by omega, by omega⟩ | exact Or.inr (Or.inl ⟨by omega, by omega⟩) | exact Or.inr (Or.inr (Or.inl ⟨by omega, by omega⟩)) | exact Or.inr (Or.inr (Or.inr (Or.inl ⟨by omega, by omega⟩))) | exact Or.inr (Or.inr (Or.inr (Or.inr (Or.inl ⟨by omega, by omega⟩)))) | exact Or.inr (Or.inr (Or.inr (Or.inr (Or.inr (Or.inl ⟨by omega, by omega⟩))))) | exact Or.inr (Or.inr (Or.inr (Or.inr (Or.inr (Or.inr (Or.inl ⟨by omega, by omega⟩)))))) | exact Or.inr (Or.inr (Or.inr (Or.inr (Or.inr (Or.inr (Or.inr (Or.inl ⟨by omega, by omega⟩))))))) | exact Or.inr (Or.inr (Or.inr (Or.inr (Or.inr (Or.inr (Or.inr (Or.inr (Or.inl ⟨by omega, by omega⟩)))))))) | exact Or.inr (Or.inr (Or.inr (Or.inr (Or.inr (Or.inr (Or.inr (Or.inr (Or.inr (Or.inl ⟨by omega, by omega⟩))))))))) | exact Or.inr (Or.inr (Or.inr (Or.inr (Or.inr (Or.inr (Or.inr (Or.inr (Or.inr (Or.inr (Or.inl ⟨by omega, by omega⟩)))))))))) | exact Or.inr (Or.inr (Or.inr (Or.inr (Or.inr (Or.inr (Or.inr (Or.inr (Or.inr (Or.inr (Or.inr (Or.inl ⟨by omega, by omega, by omega⟩))))))))))) | exact Or.inr (Or.inr (Or.inr (Or.inr (Or.inr (Or.inr (Or.inr (Or.inr (Or.inr (Or.inr (Or.inr (Or.inr (⟨by omega, by omega⟩)))))))))))))), trivial⟩, hS.F ht⟩) hS.2.2 dX11_count_254
            · have dc_171 := c_nle (a := x_170.toInt) (b := y_169.toInt) rfl rfl c_171
              refine lv_iload_n hx hb dX11_count_231 rfl (lv_at hl 0 rfl) ?_
              refine lv_aload_n hx hb dX11_count_232 rfl (lv_at hl 2 rfl) ?_
              refine lv_iload_n hx hb dX11_count_233 rfl (lv_at hl 1 rfl) ?_
              have hFc : ∀ q, va_A [] H.size q → A q := pu_free hS hA
              refine va_calli (va_runV (As := [.int y_169]) (rest := [.int y_168]) ⟨hx, hb, hml, hown, hts⟩ (c_X11_asksAny_f l dC dI H.size g0 pq cp v fa gV gA y_169 (by omega) hAk) (cwV 1 hts gX11_count_X11_asksAny rfl rfl rfl (by decide +kernel) ⟨(Nat.le_of_ble_eq_true rfl), (Nat.le_of_ble_eq_true rfl)⟩) (pr_V (r := (RX11, TX11, 63)) hP hK hD 0 11 rfl rfl) rfl rfl hl.1 rfl (lv_room (Nat.le_of_ble_eq_true rfl)) dX11_count_234 ⟨(Nat.le_of_ble_eq_true rfl), (Nat.le_of_ble_eq_true rfl)⟩) hS (fun q _ h => hFc q h) hFc (fun r_173 u t H locs ht hvm w_172 hB hz1 hk1 hS => ?_)
              have hP := pu_keep hP hk1
              clear hk1 hz1 hvm hB ht hFc
              obtain ⟨hb_174, hx_175⟩ := w_172
              refine lv_if_eq (tgt := 244) hx hb dX11_count_237 (by decide) (fun c_176 => ?_) (fun c_176 => ?_)
              · have dc_176 := c_eq (a := r_173.toInt) (b := 0) rfl (by decide) c_176
                refine lv_iconst (v := 0) hx hb dX11_count_244 (by decide) ?_
                refine lv_iadd hx hb dX11_count_245 ?_
                refine lv_topi (fun x_177 ex_177 => ?_)
                have hx_177 : x_177.toInt = y_168.toInt + 0 := (iv_to ex_177).trans (ad_i rfl (by decide) (by omega) (by omega))
                refine lv_istore_n (lv' := [(2, .int x_177), (3, .int y_169), (0, .ref g0), (1, .int x1)]) hx hb dX11_count_246 rfl hl (by decide) rfl (fun ls hl => ?_)
                obtain ⟨x_178, ex_178⟩ : ∃ zq : Int32, y_169 + 1 = zq := ⟨_, rfl⟩
                have hx_178 : x_178.toInt = y_169.toInt + 1 := (iv_to ex_178).symm.trans (ad_i rfl (by decide) (by omega) (by omega))
                refine lv_iinc (v := x_178) (lv' := [(3, .int x_178), (2, .int x_177), (0, .ref g0), (1, .int x1)]) hx hb dX11_count_247 hl (k := 1) rfl ex_178 (by decide) rfl (fun ls hl => ?_)
                clear ex_178
                refine lv_goto (tgt := 223) hx hb dX11_count_250 (by decide) ?_
                exact ih (n - 1) (by omega) x_177 x_178 _ _ ls (by omega) (by omega) (by omega) (cnN_s hq0_cut_167 (by omega) (by omega) (show x_177.toInt = y_168.toInt + b01 (akP fa y_169.toNatClampNeg) from by have bq := b01_i (akP fa y_169.toNatClampNeg); omega)) (by omega) (by omega) hP hS (lv_sub hl [1, 0, 2, 3] rfl)
              · have dc_176 := c_ne (a := r_173.toInt) (b := 0) rfl (by decide) c_176
                refine lv_iconst (v := 1) hx hb dX11_count_240 (by decide) ?_
                refine lv_goto (tgt := 245) hx hb dX11_count_241 (by decide) ?_
                refine lv_iadd hx hb dX11_count_245 ?_
                refine lv_topi (fun x_179 ex_179 => ?_)
                have hx_179 : x_179.toInt = y_168.toInt + 1 := (iv_to ex_179).trans (ad_i rfl (by decide) (by omega) (by omega))
                refine lv_istore_n (lv' := [(2, .int x_179), (3, .int y_169), (0, .ref g0), (1, .int x1)]) hx hb dX11_count_246 rfl hl (by decide) rfl (fun ls hl => ?_)
                obtain ⟨x_180, ex_180⟩ : ∃ zq : Int32, y_169 + 1 = zq := ⟨_, rfl⟩
                have hx_180 : x_180.toInt = y_169.toInt + 1 := (iv_to ex_180).symm.trans (ad_i rfl (by decide) (by omega) (by omega))
                refine lv_iinc (v := x_180) (lv' := [(3, .int x_180), (2, .int x_179), (0, .ref g0), (1, .int x1)]) hx hb dX11_count_247 hl (k := 1) rfl ex_180 (by decide) rfl (fun ls hl => ?_)
                clear ex_180
                refine lv_goto (tgt := 223) hx hb dX11_count_250 (by decide) ?_
                exact ih (n - 1) (by omega) x_179 x_180 _ _ ls (by omega) (by omega) (by omega) (cnN_s hq0_cut_167 (by omega) (by omega) (show x_179.toInt = y_168.toInt + b01 (akP fa y_169.toNatClampNeg) from by have bq := b01_i (akP fa y_169.toNatClampNeg); omega)) (by omega) (by omega) hP hS (lv_sub hl [1, 0, 2, 3] rfl)
        have kc_181 : (0 : Int32).toInt = 0 := by decide
        exact cut_167 41 0 0 _ _ ls (by omega) (by decide) (by decide) (cnN_0 (by decide) (by decide)) (by decide) (by have rc : (0 : Int32).toInt = 0 := (by decide); omega) hP hS (lv_sub hl [1, 0, 2, 3] rfl)
      have n_182 := c_ne (a := x1.toInt) (b := 17) rfl (by decide) q_166
      refine lv_tableOut (tgt := 255) hx hb dX11_count_25 (by omega) (by decide) ?_
      refine lv_bipush (v := (-9)) hx hb dX11_count_255 (by decide) ?_
      exact W.iret (v := (-9)) hx hb hr (fun t ht hW => ⟨⟨(-9), (), rfl, (by have rc : ((-9) : Int32).toInt = -9 := (by decide); unfold coA; (first | exact Or.inl ⟨by omega, by omega⟩ | exact Or.inr (Or.inl ⟨by omega, by omega⟩) | exact Or.inr (Or.inr (Or.inl ⟨by omega, by omega⟩)) | exact Or.inr (Or.inr (Or.inr (Or.inl ⟨by omega, by omega⟩))) | exact Or.inr (Or.inr (Or.inr (Or.inr (Or.inl ⟨by omega, by omega⟩)))) | exact Or.inr (Or.inr (Or.inr (Or.inr (Or.inr (Or.inl ⟨by omega, by omega⟩))))) | exact Or.inr (Or.inr (Or.inr (Or.inr (Or.inr (Or.inr (Or.inl ⟨by omega, by omega⟩)))))) | exact Or.inr (Or.inr (Or.inr (Or.inr (Or.inr (Or.inr (Or.inr (Or.inl ⟨by omega, by omega⟩))))))) | exact Or.inr (Or.inr (Or.inr (Or.inr (Or.inr (Or.inr (Or.inr (Or.inr (Or.inl ⟨by omega, by omega⟩)))))))) | exact Or.inr (Or.inr (Or.inr (Or.inr (Or.inr (Or.inr (Or.inr (Or.inr (Or.inr (Or.inl ⟨by omega, by omega⟩))))))))) | exact Or.inr (Or.inr (Or.inr (Or.inr (Or.inr (Or.inr (Or.inr (Or.inr (Or.inr (Or.inr (Or.inl ⟨by omega, by omega⟩)))))))))) | exact Or.inr (Or.inr (Or.inr (Or.inr (Or.inr (Or.inr (Or.inr (Or.inr (Or.inr (Or.inr (Or.inr (Or.inl ⟨by omega, by omega, by omega⟩))))))))))) | exact Or.inr (Or.inr (Or.inr (Or.inr (Or.inr (Or.inr (Or.inr (Or.inr (Or.inr (Or.inr (Or.inr (Or.inr (⟨by omega, by omega⟩)))))))))))))), trivial⟩, hS.F ht⟩) hS.2.2 dX11_count_257
    · have dc_96 := c_nle (a := 17) (b := x1.toInt) (by decide) rfl c_96
      refine lv_aload_n hx hb dX11_count_12 rfl (lv_at hl 0 rfl) ?_
      refine va_get (D := (dC, dI)) (ci := 11) (v := .ref (pq 0)) (C := RX11) (T := TX11) (N := 63) hx hb hts in_wsX11_count_X11 hown hK hP 0 rfl rfl 0 (by decide) (hts (.fieldLink RX11 7 "ShipOfficeModel" "refusals" "[I") iw_X11_count_10) (fun _ h9 => h9) rfl dX11_count_13 ?_
      refine lv_iload_n hx hb dX11_count_16 rfl (lv_at hl 1 rfl) ?_
      refine lv_bipush (v := 10) hx hb dX11_count_17 (by decide) ?_
      refine lv_isub hx hb dX11_count_19 ?_
      refine lv_topi (fun x_183 ex_183 => ?_)
      have hx_183 : x_183.toInt = x1.toInt - 10 := (iv_to ex_183).trans (sb_i rfl (by decide) (by omega) (by omega))
      refine va_iald hx hb hK hP 1 0 rfl rfl (vp_in_iff.mpr (by omega)) dX11_count_20 ?_
      refine lv_topi (fun x_184 ex_184 => ?_)
      have gx_184 : x_184.toInt = (fa 0 (x_183 : Int32).toNatClampNeg).toInt := iv_to ex_184
      clear ex_184
      rw [show (x_183 : Int32).toNatClampNeg = (x1.toInt - 10).toNat from (show x_183.toInt.toNat = (x1.toInt - 10).toNat by omega)] at gx_184
      exact W.iret (v := x_184) hx hb hr (fun t ht hW => ⟨⟨x_184, (), rfl, (by unfold coA; (first | exact Or.inl ⟨by omega, by omega⟩ | exact Or.inr (Or.inl ⟨by omega, by omega⟩) | exact Or.inr (Or.inr (Or.inl ⟨by omega, by omega⟩)) | exact Or.inr (Or.inr (Or.inr (Or.inl ⟨by omega, by omega⟩))) | exact Or.inr (Or.inr (Or.inr (Or.inr (Or.inl ⟨by omega, by omega⟩)))) | exact Or.inr (Or.inr (Or.inr (Or.inr (Or.inr (Or.inl ⟨by omega, by omega⟩))))) | exact Or.inr (Or.inr (Or.inr (Or.inr (Or.inr (Or.inr (Or.inl ⟨by omega, by omega⟩)))))) | exact Or.inr (Or.inr (Or.inr (Or.inr (Or.inr (Or.inr (Or.inr (Or.inl ⟨by omega, by omega⟩))))))) | exact Or.inr (Or.inr (Or.inr (Or.inr (Or.inr (Or.inr (Or.inr (Or.inr (Or.inl ⟨by omega, by omega⟩)))))))) | exact Or.inr (Or.inr (Or.inr (Or.inr (Or.inr (Or.inr (Or.inr (Or.inr (Or.inr (Or.inl ⟨by omega, by omega⟩))))))))) | exact Or.inr (Or.inr (Or.inr (Or.inr (Or.inr (Or.inr (Or.inr (Or.inr (Or.inr (Or.inr (Or.inl ⟨by omega, by omega⟩)))))))))) | exact Or.inr (Or.inr (Or.inr (Or.inr (Or.inr (Or.inr (Or.inr (Or.inr (Or.inr (Or.inr (Or.inr (Or.inl ⟨by omega, by omega, by omega⟩))))))))))) | exact Or.inr (Or.inr (Or.inr (Or.inr (Or.inr (Or.inr (Or.inr (Or.inr (Or.inr (Or.inr (Or.inr (Or.inr (⟨by omega, by omega⟩)))))))))))))), trivial⟩, hS.F ht⟩) hS.2.2 dX11_count_21
