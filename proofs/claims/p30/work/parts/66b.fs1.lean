


theorem RCd {x : Int32} (h : aLo 12 ≤ x.toInt ∧ x.toInt ≤ aHi 12) : 0 ≤ x.toInt := h.1
set_option maxHeartbeats 4000000 in
set_option maxRecDepth 100000 in
theorem c_X11_sailedOn_f (l : Launch) (dC : Nat → ClassId) (dI : Nat → Nat → Nat) (sz : Nat) (g0 : Nat) (pq : Nat → Nat) (cp : Nat → ClassId) (v : Nat → Int32) (fa : Nat → Nat → Int32) (gV : mV v) (gA : mA fa) (x1 : Int32) (x2 : Int32) : Met l yX11_sailedOn wsX11_sailedOn ({ frames := 0, cells := 0, slots := 0, locals := 0 }) (va_Pc [.ref g0, .int x1, .int x2] (pcW (dC, dI) (mT cp) (mW g0 pq cp v fa) sz)) (va_Qi (fun (r : Int32) (u : Unit) => (-1 ≤ r.toInt ∧ r.toInt ≤ 3000) ∧ (r.toInt = slO v fa x1.toInt x2.toInt)) (fun _ _ => True) (va_A [] sz)) 0 0 (va_A [] sz) := by
  refine Met.ofW (cc := cX11_sailedOn) (maxL := 4) (ret := (some .int)) (by decide) rfl ?_
  intro p e s m args below meth c s₁ B hml hv
  obtain ⟨rfl, hsz, hP, hK, hD0⟩ := hv
  have hx := B.exec
  have hb := B.bytes
  have hr := B.returns
  have hts := atoms_spec (ws := wsX11_sailedOn) B.pre
  have hown : s.vm.findClass RX11 = some m.cls := findClass_of_methodNamed B.named
  have hlocks := B.notSynchronized
  subst hsz
  have hD := hD0
  generalize hAe : va_A [] s.heap.size = A at ⊢
  have hA : ∀ q : Nat, s.heap.size ≤ q → A q := fun q h => by rw [← hAe]; exact Or.inr h
  have hS : va_S A s.heap s.heap [] := va_S.rf
  have hP : va_P (dC, dI) vwCl (mW g0 pq cp v fa) s.heap := hP
  have hl := lv_entry ([.ref g0, .int x1, .int x2]) (n := 4) (Nat.le_of_ble_eq_true rfl)
  rw [lg_entry_eq]
  generalize (lg_sl ([.ref g0, .int x1, .int x2]) ++ List.replicate (4 - (lg_sl ([.ref g0, .int x1, .int x2])).length) Slot.unset).toArray = ls at hl ⊢
  have hl : lv_has ls 4 [(0, .ref g0), (1, .int x1), (2, .int x2)] := hl
  have iv_1 : 0 ≤ (v 41).toInt ∧ (v 41).toInt ≤ 200 := gV 41
  refine lv_iconst (v := 0) hx hb dX11_sailedOn_0 (by decide) ?_
  refine lv_istore_n (lv' := [(3, .int 0), (0, .ref g0), (1, .int x1), (2, .int x2)]) hx hb dX11_sailedOn_1 rfl hl (by decide) rfl (fun ls hl => ?_)
  have cut_2 : ∀ (n : Nat) (y_3 : Int32) (H : Heap) (locs : List Loc) (ls : Array Slot), 200 - y_3.toInt ≤ (n : Int) → (0 ≤ y_3.toInt ∧ y_3.toInt ≤ 200) → (∀ j, j < y_3.toNatClampNeg → ¬ ((fa 10 j).toInt = 0 ∧ (fa 11 j).toInt = x1.toInt ∧ (fa 13 j).toInt ≤ x2.toInt)) → va_P (dC, dI) vwCl (mW g0 pq cp v fa) H → va_S A s.heap H locs → lv_has ls 4 [(3, .int y_3), (0, .ref g0), (1, .int x1), (2, .int x2)] → W p l e (headSpec wsX11_sailedOn { frames := 0, cells := 0, slots := 0, locals := 0 }).room s m #[Value.ref g0, Value.int x1, Value.int x2] below meth c H locs 0 0 (MQ below (va_Qi (fun (r : Int32) (u : Unit) => (-1 ≤ r.toInt ∧ r.toInt ≤ 3000) ∧ (r.toInt = slO v fa x1.toInt x2.toInt)) (fun _ _ => True) A) #[Value.ref g0, Value.int x1, Value.int x2] s 0 0 A) (F0 m 2 ls []) := by
    intro n
    induction n using Nat.strongRecOn with
    | ind n ih =>
      intro y_3 H locs ls hm hy_3 hq0_cut_2 hP hS hl
      refine lv_iload_n hx hb dX11_sailedOn_2 rfl (lv_at hl 0 rfl) ?_
      refine lv_aload_n hx hb dX11_sailedOn_3 rfl (lv_at hl 1 rfl) ?_
      refine va_get (D := (dC, dI)) (ci := 11) (v := .int (v 41)) (C := RX11) (T := TX11) (N := 63) hx hb hts in_wsX11_sailedOn_X11 hown hK hP 0 rfl rfl 41 (by decide) (hts (.fieldLink RX11 179 "ShipOfficeModel" "happened" "I") iw_X11_sailedOn_1) (fun _ h9 => h9) rfl dX11_sailedOn_4 ?_
      refine lv_topi (fun x_4 ex_4 => ?_)
      have hx_4 : 0 ≤ x_4.toInt ∧ x_4.toInt ≤ 200 := iv_of ex_4 (gV 41)
      have gx_4 : x_4.toInt = (v 41).toInt := iv_to ex_4
      clear ex_4
      refine lv_icmp_ge (tgt := 52) hx hb dX11_sailedOn_7 (by decide) (fun c_5 => ?_) (fun c_5 => ?_)
      · have dc_5 := c_le (a := x_4.toInt) (b := y_3.toInt) rfl rfl c_5
        refine lv_iconst (v := (-1)) hx hb dX11_sailedOn_52 (by decide) ?_
        exact W.iret (v := (-1)) hx hb hr (fun t ht hW => ⟨⟨(-1), (), rfl, ⟨(by decide), (by unfold slO; rw [slB_no (al_e hq0_cut_2 (by omega))]; decide)⟩, trivial⟩, hS.F ht⟩) hS.2.2 dX11_sailedOn_53
      · have dc_5 := c_nle (a := x_4.toInt) (b := y_3.toInt) rfl rfl c_5
        refine lv_aload_n hx hb dX11_sailedOn_10 rfl (lv_at hl 1 rfl) ?_
        refine va_get (D := (dC, dI)) (ci := 11) (v := .ref (pq 10)) (C := RX11) (T := TX11) (N := 63) hx hb hts in_wsX11_sailedOn_X11 hown hK hP 0 rfl rfl 10 (by decide) (hts (.fieldLink RX11 40 "ShipOfficeModel" "what" "[I") iw_X11_sailedOn_2) (fun _ h9 => h9) rfl dX11_sailedOn_11 ?_
        refine lv_iload_n hx hb dX11_sailedOn_14 rfl (lv_at hl 0 rfl) ?_
        refine va_iald hx hb hK hP 11 10 rfl rfl (vp_in_iff.mpr (by omega)) dX11_sailedOn_15 ?_
        refine lv_topi (fun x_6 ex_6 => ?_)
        have gx_6 : x_6.toInt = (fa 10 (y_3 : Int32).toNatClampNeg).toInt := iv_to ex_6
        clear ex_6
        refine lv_if_ne (tgt := 46) hx hb dX11_sailedOn_16 (by decide) (fun c_7 => ?_) (fun c_7 => ?_)
        · have dc_7 := c_ne (a := x_6.toInt) (b := 0) rfl (by decide) c_7
          obtain ⟨x_8, ex_8⟩ : ∃ zq : Int32, y_3 + 1 = zq := ⟨_, rfl⟩
          have hx_8 : x_8.toInt = y_3.toInt + 1 := (iv_to ex_8).symm.trans (ad_i rfl (by decide) (by omega) (by omega))
          refine lv_iinc (v := x_8) (lv' := [(3, .int x_8), (0, .ref g0), (1, .int x1), (2, .int x2)]) hx hb dX11_sailedOn_46 hl (k := 0) rfl ex_8 (by decide) rfl (fun ls hl => ?_)
          clear ex_8
          refine lv_goto (tgt := 2) hx hb dX11_sailedOn_49 (by decide) ?_
          exact ih (n - 1) (by omega) x_8 _ _ ls (by omega) (by omega) (al_s hq0_cut_2 (fun q => by omega) (by omega) (by omega)) hP hS (lv_sub hl [0, 1, 2, 3] rfl)
        · have dc_7 := c_eq (a := x_6.toInt) (b := 0) rfl (by decide) c_7
          refine lv_aload_n hx hb dX11_sailedOn_19 rfl (lv_at hl 1 rfl) ?_
          refine va_get (D := (dC, dI)) (ci := 11) (v := .ref (pq 11)) (C := RX11) (T := TX11) (N := 63) hx hb hts in_wsX11_sailedOn_X11 hown hK hP 0 rfl rfl 11 (by decide) (hts (.fieldLink RX11 43 "ShipOfficeModel" "whose" "[I") iw_X11_sailedOn_3) (fun _ h9 => h9) rfl dX11_sailedOn_20 ?_
          refine lv_iload_n hx hb dX11_sailedOn_23 rfl (lv_at hl 0 rfl) ?_
          refine va_iald hx hb hK hP 12 11 rfl rfl (vp_in_iff.mpr (by omega)) dX11_sailedOn_24 ?_
          refine lv_topi (fun x_9 ex_9 => ?_)
          have gx_9 : x_9.toInt = (fa 11 (y_3 : Int32).toNatClampNeg).toInt := iv_to ex_9
          clear ex_9
          refine lv_iload_n hx hb dX11_sailedOn_25 rfl (lv_at hl 2 rfl) ?_
          refine lv_icmp_ne (tgt := 46) hx hb dX11_sailedOn_26 (by decide) (fun c_10 => ?_) (fun c_10 => ?_)
          · have dc_10 := c_ne (a := x_9.toInt) (b := x1.toInt) rfl rfl c_10
            obtain ⟨x_11, ex_11⟩ : ∃ zq : Int32, y_3 + 1 = zq := ⟨_, rfl⟩
            have hx_11 : x_11.toInt = y_3.toInt + 1 := (iv_to ex_11).symm.trans (ad_i rfl (by decide) (by omega) (by omega))
            refine lv_iinc (v := x_11) (lv' := [(3, .int x_11), (0, .ref g0), (1, .int x1), (2, .int x2)]) hx hb dX11_sailedOn_46 hl (k := 0) rfl ex_11 (by decide) rfl (fun ls hl => ?_)
            clear ex_11
            refine lv_goto (tgt := 2) hx hb dX11_sailedOn_49 (by decide) ?_
            exact ih (n - 1) (by omega) x_11 _ _ ls (by omega) (by omega) (al_s hq0_cut_2 (fun q => by omega) (by omega) (by omega)) hP hS (lv_sub hl [0, 1, 2, 3] rfl)
          · have dc_10 := c_eq (a := x_9.toInt) (b := x1.toInt) rfl rfl c_10
            refine lv_aload_n hx hb dX11_sailedOn_29 rfl (lv_at hl 1 rfl) ?_
            refine va_get (D := (dC, dI)) (ci := 11) (v := .ref (pq 13)) (C := RX11) (T := TX11) (N := 63) hx hb hts in_wsX11_sailedOn_X11 hown hK hP 0 rfl rfl 13 (by decide) (hts (.fieldLink RX11 49 "ShipOfficeModel" "known" "[I") iw_X11_sailedOn_4) (fun _ h9 => h9) rfl dX11_sailedOn_30 ?_
            refine lv_iload_n hx hb dX11_sailedOn_33 rfl (lv_at hl 0 rfl) ?_
            refine va_iald hx hb hK hP 14 13 rfl rfl (vp_in_iff.mpr (by omega)) dX11_sailedOn_34 ?_
            refine lv_topi (fun x_12 ex_12 => ?_)
            have gx_12 : x_12.toInt = (fa 13 (y_3 : Int32).toNatClampNeg).toInt := iv_to ex_12
            clear ex_12
            refine lv_iload_n hx hb dX11_sailedOn_35 rfl (lv_at hl 3 rfl) ?_
            refine lv_icmp_gt (tgt := 46) hx hb dX11_sailedOn_36 (by decide) (fun c_13 => ?_) (fun c_13 => ?_)
            · have dc_13 := c_lt (a := x2.toInt) (b := x_12.toInt) rfl rfl c_13
              obtain ⟨x_14, ex_14⟩ : ∃ zq : Int32, y_3 + 1 = zq := ⟨_, rfl⟩
              have hx_14 : x_14.toInt = y_3.toInt + 1 := (iv_to ex_14).symm.trans (ad_i rfl (by decide) (by omega) (by omega))
              refine lv_iinc (v := x_14) (lv' := [(3, .int x_14), (0, .ref g0), (1, .int x1), (2, .int x2)]) hx hb dX11_sailedOn_46 hl (k := 0) rfl ex_14 (by decide) rfl (fun ls hl => ?_)
              clear ex_14
              refine lv_goto (tgt := 2) hx hb dX11_sailedOn_49 (by decide) ?_
              exact ih (n - 1) (by omega) x_14 _ _ ls (by omega) (by omega) (al_s hq0_cut_2 (fun q => by omega) (by omega) (by omega)) hP hS (lv_sub hl [0, 1, 2, 3] rfl)
            · have dc_13 := c_nlt (a := x2.toInt) (b := x_12.toInt) rfl rfl c_13
              refine lv_aload_n hx hb dX11_sailedOn_39 rfl (lv_at hl 1 rfl) ?_
              refine va_get (D := (dC, dI)) (ci := 11) (v := .ref (pq 12)) (C := RX11) (T := TX11) (N := 63) hx hb hts in_wsX11_sailedOn_X11 hown hK hP 0 rfl rfl 12 (by decide) (hts (.fieldLink RX11 46 "ShipOfficeModel" "day" "[I") iw_X11_sailedOn_5) (fun _ h9 => h9) rfl dX11_sailedOn_40 ?_
              refine lv_iload_n hx hb dX11_sailedOn_43 rfl (lv_at hl 0 rfl) ?_
              refine va_iald hx hb hK hP 13 12 rfl rfl (vp_in_iff.mpr (by omega)) dX11_sailedOn_44 ?_
              refine lv_topi (fun x_15 ex_15 => ?_)
              have hx_15 : 0 ≤ x_15.toInt ∧ x_15.toInt ≤ 3000 := iv_of ex_15 (gA 12 _)
              have gx_15 : x_15.toInt = (fa 12 (y_3 : Int32).toNatClampNeg).toInt := iv_to ex_15
              clear ex_15
              exact W.iret (v := x_15) hx hb hr (fun t ht hW => ⟨⟨x_15, (), rfl, ⟨(by omega), (by unfold slO; rw [slB_at hq0_cut_2 ⟨by omega, by omega, by omega⟩ (RCd (gA 12 _)) (ni_lt (by omega) (by omega))]; omega)⟩, trivial⟩, hS.F ht⟩) hS.2.2 dX11_sailedOn_45
  have kc_16 : (0 : Int32).toInt = 0 := by decide
  exact cut_2 201 0 _ _ ls (by omega) (by decide) (al_0 (by decide)) hP hS (lv_sub hl [0, 1, 2, 3] rfl)
set_option maxHeartbeats 4000000 in
set_option maxRecDepth 100000 in
theorem c_X11_lastHeard_f (l : Launch) (dC : Nat → ClassId) (dI : Nat → Nat → Nat) (sz : Nat) (g0 : Nat) (pq : Nat → Nat) (cp : Nat → ClassId) (v : Nat → Int32) (fa : Nat → Nat → Int32) (gV : mV v) (gA : mA fa) (x1 : Int32) (x2 : Int32) (x3 : Int32) : Met l yX11_lastHeard wsX11_lastHeard ({ frames := 0, cells := 0, slots := 0, locals := 0 }) (va_Pc [.ref g0, .int x1, .int x2, .int x3] (pcW (dC, dI) (mT cp) (mW g0 pq cp v fa) sz)) (va_Qi (fun (r : Int32) (u : Unit) => (-1 ≤ r.toInt ∧ r.toInt ≤ 3000) ∧ (r.toInt = lhO v fa x1.toInt x2.toInt x3.toInt)) (fun _ _ => True) (va_A [] sz)) 0 0 (va_A [] sz) := by
  refine Met.ofW (cc := cX11_lastHeard) (maxL := 6) (ret := (some .int)) (by decide) rfl ?_
  intro p e s m args below meth c s₁ B hml hv
  obtain ⟨rfl, hsz, hP, hK, hD0⟩ := hv
  have hx := B.exec
  have hb := B.bytes
  have hr := B.returns
  have hts := atoms_spec (ws := wsX11_lastHeard) B.pre
  have hown : s.vm.findClass RX11 = some m.cls := findClass_of_methodNamed B.named
  have hlocks := B.notSynchronized
  subst hsz
  have hD := hD0
  generalize hAe : va_A [] s.heap.size = A at ⊢
  have hA : ∀ q : Nat, s.heap.size ≤ q → A q := fun q h => by rw [← hAe]; exact Or.inr h
  have hS : va_S A s.heap s.heap [] := va_S.rf
  have hP : va_P (dC, dI) vwCl (mW g0 pq cp v fa) s.heap := hP
  have hl := lv_entry ([.ref g0, .int x1, .int x2, .int x3]) (n := 6) (Nat.le_of_ble_eq_true rfl)
  rw [lg_entry_eq]
  generalize (lg_sl ([.ref g0, .int x1, .int x2, .int x3]) ++ List.replicate (6 - (lg_sl ([.ref g0, .int x1, .int x2, .int x3])).length) Slot.unset).toArray = ls at hl ⊢
  have hl : lv_has ls 6 [(0, .ref g0), (1, .int x1), (2, .int x2), (3, .int x3)] := hl
  have iv_1 : 0 ≤ (v 41).toInt ∧ (v 41).toInt ≤ 200 := gV 41
  refine lv_iconst (v := (-1)) hx hb dX11_lastHeard_0 (by decide) ?_
  refine lv_istore (lv' := [(4, .int (-1)), (0, .ref g0), (1, .int x1), (2, .int x2), (3, .int x3)]) hx hb dX11_lastHeard_1 hl (by decide) rfl (fun ls hl => ?_)
  refine lv_iconst (v := 0) hx hb dX11_lastHeard_3 (by decide) ?_
  refine lv_istore (lv' := [(5, .int 0), (4, .int (-1)), (0, .ref g0), (1, .int x1), (2, .int x2), (3, .int x3)]) hx hb dX11_lastHeard_4 hl (by decide) rfl (fun ls hl => ?_)
  have cut_2 : ∀ (n : Nat) (y_3 : Int32) (y_4 : Int32) (H : Heap) (locs : List Loc) (ls : Array Slot), 200 - y_3.toInt ≤ (n : Int) → (0 ≤ y_3.toInt ∧ y_3.toInt ≤ 200) → (-1 ≤ y_4.toInt ∧ y_4.toInt ≤ 3000) → y_4.toInt = lhB fa x1.toInt x2.toInt x3.toInt y_3.toNatClampNeg → y_3.toInt ≤ (v 41).toInt → va_P (dC, dI) vwCl (mW g0 pq cp v fa) H → va_S A s.heap H locs → lv_has ls 6 [(5, .int y_3), (4, .int y_4), (0, .ref g0), (1, .int x1), (2, .int x2), (3, .int x3)] → W p l e (headSpec wsX11_lastHeard { frames := 0, cells := 0, slots := 0, locals := 0 }).room s m #[Value.ref g0, Value.int x1, Value.int x2, Value.int x3] below meth c H locs 0 0 (MQ below (va_Qi (fun (r : Int32) (u : Unit) => (-1 ≤ r.toInt ∧ r.toInt ≤ 3000) ∧ (r.toInt = lhO v fa x1.toInt x2.toInt x3.toInt)) (fun _ _ => True) A) #[Value.ref g0, Value.int x1, Value.int x2, Value.int x3] s 0 0 A) (F0 m 6 ls []) := by
    intro n
    induction n using Nat.strongRecOn with
    | ind n ih =>
      intro y_3 y_4 H locs ls hm hy_3 hy_4 hq0_cut_2 hq1_cut_2 hP hS hl
      refine lv_iload hx hb dX11_lastHeard_6 (lv_at hl 0 rfl) ?_
      refine lv_aload_n hx hb dX11_lastHeard_8 rfl (lv_at hl 2 rfl) ?_
      refine va_get (D := (dC, dI)) (ci := 11) (v := .int (v 41)) (C := RX11) (T := TX11) (N := 63) hx hb hts in_wsX11_lastHeard_X11 hown hK hP 0 rfl rfl 41 (by decide) (hts (.fieldLink RX11 179 "ShipOfficeModel" "happened" "I") iw_X11_lastHeard_1) (fun _ h9 => h9) rfl dX11_lastHeard_9 ?_
      refine lv_topi (fun x_5 ex_5 => ?_)
      have hx_5 : 0 ≤ x_5.toInt ∧ x_5.toInt ≤ 200 := iv_of ex_5 (gV 41)
      have gx_5 : x_5.toInt = (v 41).toInt := iv_to ex_5
      clear ex_5
      refine lv_icmp_ge (tgt := 96) hx hb dX11_lastHeard_12 (by decide) (fun c_6 => ?_) (fun c_6 => ?_)
      · have dc_6 := c_le (a := x_5.toInt) (b := y_3.toInt) rfl rfl c_6
        refine lv_iload hx hb dX11_lastHeard_96 (lv_at hl 1 rfl) ?_
        exact W.iret (v := y_4) hx hb hr (fun t ht hW => ⟨⟨y_4, (), rfl, ⟨(by omega), (by unfold lhO; rw [hq0_cut_2, show y_3.toNatClampNeg = (v 41).toNatClampNeg from (show y_3.toInt.toNat = (v 41).toInt.toNat by omega)])⟩, trivial⟩, hS.F ht⟩) hS.2.2 dX11_lastHeard_98
      · have dc_6 := c_nle (a := x_5.toInt) (b := y_3.toInt) rfl rfl c_6
        refine lv_aload_n hx hb dX11_lastHeard_15 rfl (lv_at hl 2 rfl) ?_
        refine va_get (D := (dC, dI)) (ci := 11) (v := .ref (pq 10)) (C := RX11) (T := TX11) (N := 63) hx hb hts in_wsX11_lastHeard_X11 hown hK hP 0 rfl rfl 10 (by decide) (hts (.fieldLink RX11 40 "ShipOfficeModel" "what" "[I") iw_X11_lastHeard_2) (fun _ h9 => h9) rfl dX11_lastHeard_16 ?_
        refine lv_iload hx hb dX11_lastHeard_19 (lv_at hl 0 rfl) ?_
        refine va_iald hx hb hK hP 11 10 rfl rfl (vp_in_iff.mpr (by omega)) dX11_lastHeard_21 ?_
        refine lv_topi (fun x_7 ex_7 => ?_)
        have gx_7 : x_7.toInt = (fa 10 (y_3 : Int32).toNatClampNeg).toInt := iv_to ex_7
        clear ex_7
        refine lv_iconst (v := 1) hx hb dX11_lastHeard_22 (by decide) ?_
        refine lv_icmp_eq (tgt := 36) hx hb dX11_lastHeard_23 (by decide) (fun c_8 => ?_) (fun c_8 => ?_)
        · have dc_8 := c_eq (a := x_7.toInt) (b := 1) rfl (by decide) c_8
          refine lv_aload_n hx hb dX11_lastHeard_36 rfl (lv_at hl 2 rfl) ?_
          refine va_get (D := (dC, dI)) (ci := 11) (v := .ref (pq 11)) (C := RX11) (T := TX11) (N := 63) hx hb hts in_wsX11_lastHeard_X11 hown hK hP 0 rfl rfl 11 (by decide) (hts (.fieldLink RX11 43 "ShipOfficeModel" "whose" "[I") iw_X11_lastHeard_3) (fun _ h9 => h9) rfl dX11_lastHeard_37 ?_
          refine lv_iload hx hb dX11_lastHeard_40 (lv_at hl 0 rfl) ?_
          refine va_iald hx hb hK hP 12 11 rfl rfl (vp_in_iff.mpr (by omega)) dX11_lastHeard_42 ?_
          refine lv_topi (fun x_9 ex_9 => ?_)
          have gx_9 : x_9.toInt = (fa 11 (y_3 : Int32).toNatClampNeg).toInt := iv_to ex_9
          clear ex_9
          refine lv_iload_n hx hb dX11_lastHeard_43 rfl (lv_at hl 3 rfl) ?_
          refine lv_icmp_ne (tgt := 90) hx hb dX11_lastHeard_44 (by decide) (fun c_10 => ?_) (fun c_10 => ?_)
          · have dc_10 := c_ne (a := x_9.toInt) (b := x1.toInt) rfl rfl c_10
            obtain ⟨x_11, ex_11⟩ : ∃ zq : Int32, y_3 + 1 = zq := ⟨_, rfl⟩
            have hx_11 : x_11.toInt = y_3.toInt + 1 := (iv_to ex_11).symm.trans (ad_i rfl (by decide) (by omega) (by omega))
            refine lv_iinc (v := x_11) (lv' := [(5, .int x_11), (4, .int y_4), (0, .ref g0), (1, .int x1), (2, .int x2), (3, .int x3)]) hx hb dX11_lastHeard_90 hl (k := 0) rfl ex_11 (by decide) rfl (fun ls hl => ?_)
            clear ex_11
            refine lv_goto (tgt := 6) hx hb dX11_lastHeard_93 (by decide) ?_
            exact ih (n - 1) (by omega) x_11 y_4 _ _ ls (by omega) (by omega) (by omega) (lhB_f hq0_cut_2 (by omega) (by omega) (by omega)) (by omega) hP hS (lv_sub hl [0, 1, 2, 3, 4, 5] rfl)
          · have dc_10 := c_eq (a := x_9.toInt) (b := x1.toInt) rfl rfl c_10
            refine lv_aload_n hx hb dX11_lastHeard_47 rfl (lv_at hl 2 rfl) ?_
            refine va_get (D := (dC, dI)) (ci := 11) (v := .ref (pq 13)) (C := RX11) (T := TX11) (N := 63) hx hb hts in_wsX11_lastHeard_X11 hown hK hP 0 rfl rfl 13 (by decide) (hts (.fieldLink RX11 49 "ShipOfficeModel" "known" "[I") iw_X11_lastHeard_4) (fun _ h9 => h9) rfl dX11_lastHeard_48 ?_
            refine lv_iload hx hb dX11_lastHeard_51 (lv_at hl 0 rfl) ?_
            refine va_iald hx hb hK hP 14 13 rfl rfl (vp_in_iff.mpr (by omega)) dX11_lastHeard_53 ?_
            refine lv_topi (fun x_12 ex_12 => ?_)
            have gx_12 : x_12.toInt = (fa 13 (y_3 : Int32).toNatClampNeg).toInt := iv_to ex_12
            clear ex_12
            refine lv_iload_n hx hb dX11_lastHeard_54 rfl (lv_at hl 5 rfl) ?_
            refine lv_icmp_gt (tgt := 90) hx hb dX11_lastHeard_55 (by decide) (fun c_13 => ?_) (fun c_13 => ?_)
            · have dc_13 := c_lt (a := x3.toInt) (b := x_12.toInt) rfl rfl c_13
              obtain ⟨x_14, ex_14⟩ : ∃ zq : Int32, y_3 + 1 = zq := ⟨_, rfl⟩
              have hx_14 : x_14.toInt = y_3.toInt + 1 := (iv_to ex_14).symm.trans (ad_i rfl (by decide) (by omega) (by omega))
              refine lv_iinc (v := x_14) (lv' := [(5, .int x_14), (4, .int y_4), (0, .ref g0), (1, .int x1), (2, .int x2), (3, .int x3)]) hx hb dX11_lastHeard_90 hl (k := 0) rfl ex_14 (by decide) rfl (fun ls hl => ?_)
              clear ex_14
              refine lv_goto (tgt := 6) hx hb dX11_lastHeard_93 (by decide) ?_
              exact ih (n - 1) (by omega) x_14 y_4 _ _ ls (by omega) (by omega) (by omega) (lhB_f hq0_cut_2 (by omega) (by omega) (by omega)) (by omega) hP hS (lv_sub hl [0, 1, 2, 3, 4, 5] rfl)
            · have dc_13 := c_nlt (a := x3.toInt) (b := x_12.toInt) rfl rfl c_13
              refine lv_aload_n hx hb dX11_lastHeard_58 rfl (lv_at hl 2 rfl) ?_
              refine va_get (D := (dC, dI)) (ci := 11) (v := .ref (pq 12)) (C := RX11) (T := TX11) (N := 63) hx hb hts in_wsX11_lastHeard_X11 hown hK hP 0 rfl rfl 12 (by decide) (hts (.fieldLink RX11 46 "ShipOfficeModel" "day" "[I") iw_X11_lastHeard_5) (fun _ h9 => h9) rfl dX11_lastHeard_59 ?_
              refine lv_iload hx hb dX11_lastHeard_62 (lv_at hl 0 rfl) ?_
              refine va_iald hx hb hK hP 13 12 rfl rfl (vp_in_iff.mpr (by omega)) dX11_lastHeard_64 ?_
              refine lv_topi (fun x_15 ex_15 => ?_)
              have hx_15 : 0 ≤ x_15.toInt ∧ x_15.toInt ≤ 3000 := iv_of ex_15 (gA 12 _)
              have gx_15 : x_15.toInt = (fa 12 (y_3 : Int32).toNatClampNeg).toInt := iv_to ex_15
              clear ex_15
              refine lv_iload_n hx hb dX11_lastHeard_65 rfl (lv_at hl 4 rfl) ?_
              refine lv_icmp_gt (tgt := 90) hx hb dX11_lastHeard_66 (by decide) (fun c_16 => ?_) (fun c_16 => ?_)
              · have dc_16 := c_lt (a := x2.toInt) (b := x_15.toInt) rfl rfl c_16
                obtain ⟨x_17, ex_17⟩ : ∃ zq : Int32, y_3 + 1 = zq := ⟨_, rfl⟩
                have hx_17 : x_17.toInt = y_3.toInt + 1 := (iv_to ex_17).symm.trans (ad_i rfl (by decide) (by omega) (by omega))
                refine lv_iinc (v := x_17) (lv' := [(5, .int x_17), (4, .int y_4), (0, .ref g0), (1, .int x1), (2, .int x2), (3, .int x3)]) hx hb dX11_lastHeard_90 hl (k := 0) rfl ex_17 (by decide) rfl (fun ls hl => ?_)
                clear ex_17
                refine lv_goto (tgt := 6) hx hb dX11_lastHeard_93 (by decide) ?_
                exact ih (n - 1) (by omega) x_17 y_4 _ _ ls (by omega) (by omega) (by omega) (lhB_f hq0_cut_2 (by omega) (by omega) (by omega)) (by omega) hP hS (lv_sub hl [0, 1, 2, 3, 4, 5] rfl)
              · have dc_16 := c_nlt (a := x2.toInt) (b := x_15.toInt) rfl rfl c_16
                refine lv_aload_n hx hb dX11_lastHeard_69 rfl (lv_at hl 2 rfl) ?_
                refine va_get (D := (dC, dI)) (ci := 11) (v := .ref (pq 12)) (C := RX11) (T := TX11) (N := 63) hx hb hts in_wsX11_lastHeard_X11 hown hK hP 0 rfl rfl 12 (by decide) (hts (.fieldLink RX11 46 "ShipOfficeModel" "day" "[I") iw_X11_lastHeard_5) (fun _ h9 => h9) rfl dX11_lastHeard_70 ?_
                refine lv_iload hx hb dX11_lastHeard_73 (lv_at hl 0 rfl) ?_
                refine va_iald hx hb hK hP 13 12 rfl rfl (vp_in_iff.mpr (by omega)) dX11_lastHeard_75 ?_
                refine lv_topi (fun x_18 ex_18 => ?_)
                have hx_18 : 0 ≤ x_18.toInt ∧ x_18.toInt ≤ 3000 := iv_of ex_18 (gA 12 _)
                have gx_18 : x_18.toInt = (fa 12 (y_3 : Int32).toNatClampNeg).toInt := iv_to ex_18
                clear ex_18
                refine lv_iload hx hb dX11_lastHeard_76 (lv_at hl 1 rfl) ?_
                refine lv_icmp_le (tgt := 90) hx hb dX11_lastHeard_78 (by decide) (fun c_19 => ?_) (fun c_19 => ?_)
                · have dc_19 := c_le (a := x_18.toInt) (b := y_4.toInt) rfl rfl c_19
                  obtain ⟨x_20, ex_20⟩ : ∃ zq : Int32, y_3 + 1 = zq := ⟨_, rfl⟩
                  have hx_20 : x_20.toInt = y_3.toInt + 1 := (iv_to ex_20).symm.trans (ad_i rfl (by decide) (by omega) (by omega))
                  refine lv_iinc (v := x_20) (lv' := [(5, .int x_20), (4, .int y_4), (0, .ref g0), (1, .int x1), (2, .int x2), (3, .int x3)]) hx hb dX11_lastHeard_90 hl (k := 0) rfl ex_20 (by decide) rfl (fun ls hl => ?_)
                  clear ex_20
                  refine lv_goto (tgt := 6) hx hb dX11_lastHeard_93 (by decide) ?_
                  exact ih (n - 1) (by omega) x_20 y_4 _ _ ls (by omega) (by omega) (by omega) (lhB_f hq0_cut_2 (by omega) (by omega) (by omega)) (by omega) hP hS (lv_sub hl [0, 1, 2, 3, 4, 5] rfl)
                · have dc_19 := c_nle (a := x_18.toInt) (b := y_4.toInt) rfl rfl c_19
                  refine lv_aload_n hx hb dX11_lastHeard_81 rfl (lv_at hl 2 rfl) ?_
                  refine va_get (D := (dC, dI)) (ci := 11) (v := .ref (pq 12)) (C := RX11) (T := TX11) (N := 63) hx hb hts in_wsX11_lastHeard_X11 hown hK hP 0 rfl rfl 12 (by decide) (hts (.fieldLink RX11 46 "ShipOfficeModel" "day" "[I") iw_X11_lastHeard_5) (fun _ h9 => h9) rfl dX11_lastHeard_82 ?_
                  refine lv_iload hx hb dX11_lastHeard_85 (lv_at hl 0 rfl) ?_
                  refine va_iald hx hb hK hP 13 12 rfl rfl (vp_in_iff.mpr (by omega)) dX11_lastHeard_87 ?_
                  refine lv_topi (fun x_21 ex_21 => ?_)
                  have hx_21 : 0 ≤ x_21.toInt ∧ x_21.toInt ≤ 3000 := iv_of ex_21 (gA 12 _)
                  have gx_21 : x_21.toInt = (fa 12 (y_3 : Int32).toNatClampNeg).toInt := iv_to ex_21
                  clear ex_21
                  refine lv_istore (lv' := [(4, .int x_21), (5, .int y_3), (0, .ref g0), (1, .int x1), (2, .int x2), (3, .int x3)]) hx hb dX11_lastHeard_88 hl (by decide) rfl (fun ls hl => ?_)
                  obtain ⟨x_22, ex_22⟩ : ∃ zq : Int32, y_3 + 1 = zq := ⟨_, rfl⟩
                  have hx_22 : x_22.toInt = y_3.toInt + 1 := (iv_to ex_22).symm.trans (ad_i rfl (by decide) (by omega) (by omega))
                  refine lv_iinc (v := x_22) (lv' := [(5, .int x_22), (4, .int x_21), (0, .ref g0), (1, .int x1), (2, .int x2), (3, .int x3)]) hx hb dX11_lastHeard_90 hl (k := 1) rfl ex_22 (by decide) rfl (fun ls hl => ?_)
                  clear ex_22
                  refine lv_goto (tgt := 6) hx hb dX11_lastHeard_93 (by decide) ?_
                  exact ih (n - 1) (by omega) x_22 x_21 _ _ ls (by omega) (by omega) (by omega) (lhB_t hq0_cut_2 (by omega) (by omega) ⟨by omega, by omega, by omega, by omega, by omega⟩ (by omega)) (by omega) hP hS (lv_sub hl [0, 1, 2, 3, 4, 5] rfl)
        · have dc_8 := c_ne (a := x_7.toInt) (b := 1) rfl (by decide) c_8
          refine lv_aload_n hx hb dX11_lastHeard_26 rfl (lv_at hl 2 rfl) ?_
          refine va_get (D := (dC, dI)) (ci := 11) (v := .ref (pq 10)) (C := RX11) (T := TX11) (N := 63) hx hb hts in_wsX11_lastHeard_X11 hown hK hP 0 rfl rfl 10 (by decide) (hts (.fieldLink RX11 40 "ShipOfficeModel" "what" "[I") iw_X11_lastHeard_2) (fun _ h9 => h9) rfl dX11_lastHeard_27 ?_
          refine lv_iload hx hb dX11_lastHeard_30 (lv_at hl 0 rfl) ?_
          refine va_iald hx hb hK hP 11 10 rfl rfl (vp_in_iff.mpr (by omega)) dX11_lastHeard_32 ?_
          refine lv_topi (fun x_23 ex_23 => ?_)
          have gx_23 : x_23.toInt = (fa 10 (y_3 : Int32).toNatClampNeg).toInt := iv_to ex_23
          clear ex_23
          refine lv_if_ne (tgt := 90) hx hb dX11_lastHeard_33 (by decide) (fun c_24 => ?_) (fun c_24 => ?_)
          · have dc_24 := c_ne (a := x_23.toInt) (b := 0) rfl (by decide) c_24
            obtain ⟨x_25, ex_25⟩ : ∃ zq : Int32, y_3 + 1 = zq := ⟨_, rfl⟩
            have hx_25 : x_25.toInt = y_3.toInt + 1 := (iv_to ex_25).symm.trans (ad_i rfl (by decide) (by omega) (by omega))
            refine lv_iinc (v := x_25) (lv' := [(5, .int x_25), (4, .int y_4), (0, .ref g0), (1, .int x1), (2, .int x2), (3, .int x3)]) hx hb dX11_lastHeard_90 hl (k := 0) rfl ex_25 (by decide) rfl (fun ls hl => ?_)
            clear ex_25
            refine lv_goto (tgt := 6) hx hb dX11_lastHeard_93 (by decide) ?_
            exact ih (n - 1) (by omega) x_25 y_4 _ _ ls (by omega) (by omega) (by omega) (lhB_f hq0_cut_2 (by omega) (by omega) (by omega)) (by omega) hP hS (lv_sub hl [0, 1, 2, 3, 4, 5] rfl)
          · have dc_24 := c_eq (a := x_23.toInt) (b := 0) rfl (by decide) c_24
            refine lv_aload_n hx hb dX11_lastHeard_36 rfl (lv_at hl 2 rfl) ?_
            refine va_get (D := (dC, dI)) (ci := 11) (v := .ref (pq 11)) (C := RX11) (T := TX11) (N := 63) hx hb hts in_wsX11_lastHeard_X11 hown hK hP 0 rfl rfl 11 (by decide) (hts (.fieldLink RX11 43 "ShipOfficeModel" "whose" "[I") iw_X11_lastHeard_3) (fun _ h9 => h9) rfl dX11_lastHeard_37 ?_
            refine lv_iload hx hb dX11_lastHeard_40 (lv_at hl 0 rfl) ?_
            refine va_iald hx hb hK hP 12 11 rfl rfl (vp_in_iff.mpr (by omega)) dX11_lastHeard_42 ?_
            refine lv_topi (fun x_26 ex_26 => ?_)
            have gx_26 : x_26.toInt = (fa 11 (y_3 : Int32).toNatClampNeg).toInt := iv_to ex_26
            clear ex_26
            refine lv_iload_n hx hb dX11_lastHeard_43 rfl (lv_at hl 3 rfl) ?_
            refine lv_icmp_ne (tgt := 90) hx hb dX11_lastHeard_44 (by decide) (fun c_27 => ?_) (fun c_27 => ?_)
            · have dc_27 := c_ne (a := x_26.toInt) (b := x1.toInt) rfl rfl c_27
              obtain ⟨x_28, ex_28⟩ : ∃ zq : Int32, y_3 + 1 = zq := ⟨_, rfl⟩
              have hx_28 : x_28.toInt = y_3.toInt + 1 := (iv_to ex_28).symm.trans (ad_i rfl (by decide) (by omega) (by omega))
              refine lv_iinc (v := x_28) (lv' := [(5, .int x_28), (4, .int y_4), (0, .ref g0), (1, .int x1), (2, .int x2), (3, .int x3)]) hx hb dX11_lastHeard_90 hl (k := 0) rfl ex_28 (by decide) rfl (fun ls hl => ?_)
              clear ex_28
              refine lv_goto (tgt := 6) hx hb dX11_lastHeard_93 (by decide) ?_
              exact ih (n - 1) (by omega) x_28 y_4 _ _ ls (by omega) (by omega) (by omega) (lhB_f hq0_cut_2 (by omega) (by omega) (by omega)) (by omega) hP hS (lv_sub hl [0, 1, 2, 3, 4, 5] rfl)
            · have dc_27 := c_eq (a := x_26.toInt) (b := x1.toInt) rfl rfl c_27
              refine lv_aload_n hx hb dX11_lastHeard_47 rfl (lv_at hl 2 rfl) ?_
              refine va_get (D := (dC, dI)) (ci := 11) (v := .ref (pq 13)) (C := RX11) (T := TX11) (N := 63) hx hb hts in_wsX11_lastHeard_X11 hown hK hP 0 rfl rfl 13 (by decide) (hts (.fieldLink RX11 49 "ShipOfficeModel" "known" "[I") iw_X11_lastHeard_4) (fun _ h9 => h9) rfl dX11_lastHeard_48 ?_
              refine lv_iload hx hb dX11_lastHeard_51 (lv_at hl 0 rfl) ?_
              refine va_iald hx hb hK hP 14 13 rfl rfl (vp_in_iff.mpr (by omega)) dX11_lastHeard_53 ?_
              refine lv_topi (fun x_29 ex_29 => ?_)
              have gx_29 : x_29.toInt = (fa 13 (y_3 : Int32).toNatClampNeg).toInt := iv_to ex_29
              clear ex_29
              refine lv_iload_n hx hb dX11_lastHeard_54 rfl (lv_at hl 5 rfl) ?_
              refine lv_icmp_gt (tgt := 90) hx hb dX11_lastHeard_55 (by decide) (fun c_30 => ?_) (fun c_30 => ?_)
              · have dc_30 := c_lt (a := x3.toInt) (b := x_29.toInt) rfl rfl c_30
                obtain ⟨x_31, ex_31⟩ : ∃ zq : Int32, y_3 + 1 = zq := ⟨_, rfl⟩
                have hx_31 : x_31.toInt = y_3.toInt + 1 := (iv_to ex_31).symm.trans (ad_i rfl (by decide) (by omega) (by omega))
                refine lv_iinc (v := x_31) (lv' := [(5, .int x_31), (4, .int y_4), (0, .ref g0), (1, .int x1), (2, .int x2), (3, .int x3)]) hx hb dX11_lastHeard_90 hl (k := 0) rfl ex_31 (by decide) rfl (fun ls hl => ?_)
                clear ex_31
                refine lv_goto (tgt := 6) hx hb dX11_lastHeard_93 (by decide) ?_
                exact ih (n - 1) (by omega) x_31 y_4 _ _ ls (by omega) (by omega) (by omega) (lhB_f hq0_cut_2 (by omega) (by omega) (by omega)) (by omega) hP hS (lv_sub hl [0, 1, 2, 3, 4, 5] rfl)
              · have dc_30 := c_nlt (a := x3.toInt) (b := x_29.toInt) rfl rfl c_30
                refine lv_aload_n hx hb dX11_lastHeard_58 rfl (lv_at hl 2 rfl) ?_
                refine va_get (D := (dC, dI)) (ci := 11) (v := .ref (pq 12)) (C := RX11) (T := TX11) (N := 63) hx hb hts in_wsX11_lastHeard_X11 hown hK hP 0 rfl rfl 12 (by decide) (hts (.fieldLink RX11 46 "ShipOfficeModel" "day" "[I") iw_X11_lastHeard_5) (fun _ h9 => h9) rfl dX11_lastHeard_59 ?_
                refine lv_iload hx hb dX11_lastHeard_62 (lv_at hl 0 rfl) ?_
                refine va_iald hx hb hK hP 13 12 rfl rfl (vp_in_iff.mpr (by omega)) dX11_lastHeard_64 ?_
                refine lv_topi (fun x_32 ex_32 => ?_)
                have hx_32 : 0 ≤ x_32.toInt ∧ x_32.toInt ≤ 3000 := iv_of ex_32 (gA 12 _)
                have gx_32 : x_32.toInt = (fa 12 (y_3 : Int32).toNatClampNeg).toInt := iv_to ex_32
                clear ex_32
                refine lv_iload_n hx hb dX11_lastHeard_65 rfl (lv_at hl 4 rfl) ?_
                refine lv_icmp_gt (tgt := 90) hx hb dX11_lastHeard_66 (by decide) (fun c_33 => ?_) (fun c_33 => ?_)
                · have dc_33 := c_lt (a := x2.toInt) (b := x_32.toInt) rfl rfl c_33
                  obtain ⟨x_34, ex_34⟩ : ∃ zq : Int32, y_3 + 1 = zq := ⟨_, rfl⟩
                  have hx_34 : x_34.toInt = y_3.toInt + 1 := (iv_to ex_34).symm.trans (ad_i rfl (by decide) (by omega) (by omega))
                  refine lv_iinc (v := x_34) (lv' := [(5, .int x_34), (4, .int y_4), (0, .ref g0), (1, .int x1), (2, .int x2), (3, .int x3)]) hx hb dX11_lastHeard_90 hl (k := 0) rfl ex_34 (by decide) rfl (fun ls hl => ?_)
                  clear ex_34
                  refine lv_goto (tgt := 6) hx hb dX11_lastHeard_93 (by decide) ?_
                  exact ih (n - 1) (by omega) x_34 y_4 _ _ ls (by omega) (by omega) (by omega) (lhB_f hq0_cut_2 (by omega) (by omega) (by omega)) (by omega) hP hS (lv_sub hl [0, 1, 2, 3, 4, 5] rfl)
                · have dc_33 := c_nlt (a := x2.toInt) (b := x_32.toInt) rfl rfl c_33
                  refine lv_aload_n hx hb dX11_lastHeard_69 rfl (lv_at hl 2 rfl) ?_
                  refine va_get (D := (dC, dI)) (ci := 11) (v := .ref (pq 12)) (C := RX11) (T := TX11) (N := 63) hx hb hts in_wsX11_lastHeard_X11 hown hK hP 0 rfl rfl 12 (by decide) (hts (.fieldLink RX11 46 "ShipOfficeModel" "day" "[I") iw_X11_lastHeard_5) (fun _ h9 => h9) rfl dX11_lastHeard_70 ?_
                  refine lv_iload hx hb dX11_lastHeard_73 (lv_at hl 0 rfl) ?_
                  refine va_iald hx hb hK hP 13 12 rfl rfl (vp_in_iff.mpr (by omega)) dX11_lastHeard_75 ?_
                  refine lv_topi (fun x_35 ex_35 => ?_)
                  have hx_35 : 0 ≤ x_35.toInt ∧ x_35.toInt ≤ 3000 := iv_of ex_35 (gA 12 _)
                  have gx_35 : x_35.toInt = (fa 12 (y_3 : Int32).toNatClampNeg).toInt := iv_to ex_35
                  clear ex_35
                  refine lv_iload hx hb dX11_lastHeard_76 (lv_at hl 1 rfl) ?_
                  refine lv_icmp_le (tgt := 90) hx hb dX11_lastHeard_78 (by decide) (fun c_36 => ?_) (fun c_36 => ?_)
                  · have dc_36 := c_le (a := x_35.toInt) (b := y_4.toInt) rfl rfl c_36
                    obtain ⟨x_37, ex_37⟩ : ∃ zq : Int32, y_3 + 1 = zq := ⟨_, rfl⟩
                    have hx_37 : x_37.toInt = y_3.toInt + 1 := (iv_to ex_37).symm.trans (ad_i rfl (by decide) (by omega) (by omega))
                    refine lv_iinc (v := x_37) (lv' := [(5, .int x_37), (4, .int y_4), (0, .ref g0), (1, .int x1), (2, .int x2), (3, .int x3)]) hx hb dX11_lastHeard_90 hl (k := 0) rfl ex_37 (by decide) rfl (fun ls hl => ?_)
                    clear ex_37
                    refine lv_goto (tgt := 6) hx hb dX11_lastHeard_93 (by decide) ?_
                    exact ih (n - 1) (by omega) x_37 y_4 _ _ ls (by omega) (by omega) (by omega) (lhB_f hq0_cut_2 (by omega) (by omega) (by omega)) (by omega) hP hS (lv_sub hl [0, 1, 2, 3, 4, 5] rfl)
                  · have dc_36 := c_nle (a := x_35.toInt) (b := y_4.toInt) rfl rfl c_36
                    refine lv_aload_n hx hb dX11_lastHeard_81 rfl (lv_at hl 2 rfl) ?_
                    refine va_get (D := (dC, dI)) (ci := 11) (v := .ref (pq 12)) (C := RX11) (T := TX11) (N := 63) hx hb hts in_wsX11_lastHeard_X11 hown hK hP 0 rfl rfl 12 (by decide) (hts (.fieldLink RX11 46 "ShipOfficeModel" "day" "[I") iw_X11_lastHeard_5) (fun _ h9 => h9) rfl dX11_lastHeard_82 ?_
                    refine lv_iload hx hb dX11_lastHeard_85 (lv_at hl 0 rfl) ?_
                    refine va_iald hx hb hK hP 13 12 rfl rfl (vp_in_iff.mpr (by omega)) dX11_lastHeard_87 ?_
                    refine lv_topi (fun x_38 ex_38 => ?_)
                    have hx_38 : 0 ≤ x_38.toInt ∧ x_38.toInt ≤ 3000 := iv_of ex_38 (gA 12 _)
                    have gx_38 : x_38.toInt = (fa 12 (y_3 : Int32).toNatClampNeg).toInt := iv_to ex_38
                    clear ex_38
                    refine lv_istore (lv' := [(4, .int x_38), (5, .int y_3), (0, .ref g0), (1, .int x1), (2, .int x2), (3, .int x3)]) hx hb dX11_lastHeard_88 hl (by decide) rfl (fun ls hl => ?_)
                    obtain ⟨x_39, ex_39⟩ : ∃ zq : Int32, y_3 + 1 = zq := ⟨_, rfl⟩
                    have hx_39 : x_39.toInt = y_3.toInt + 1 := (iv_to ex_39).symm.trans (ad_i rfl (by decide) (by omega) (by omega))
                    refine lv_iinc (v := x_39) (lv' := [(5, .int x_39), (4, .int x_38), (0, .ref g0), (1, .int x1), (2, .int x2), (3, .int x3)]) hx hb dX11_lastHeard_90 hl (k := 1) rfl ex_39 (by decide) rfl (fun ls hl => ?_)
                    clear ex_39
                    refine lv_goto (tgt := 6) hx hb dX11_lastHeard_93 (by decide) ?_
                    exact ih (n - 1) (by omega) x_39 x_38 _ _ ls (by omega) (by omega) (by omega) (lhB_t hq0_cut_2 (by omega) (by omega) ⟨by omega, by omega, by omega, by omega, by omega⟩ (by omega)) (by omega) hP hS (lv_sub hl [0, 1, 2, 3, 4, 5] rfl)
  have kc_40 : ((-1) : Int32).toInt = -1 := by decide
  have kc_41 : (0 : Int32).toInt = 0 := by decide
  exact cut_2 201 0 (-1) _ _ ls (by omega) (by decide) (by decide) (B_0 (by decide) rfl) (by have rc : (0 : Int32).toInt = 0 := (by decide); omega) hP hS (lv_sub hl [0, 1, 2, 3, 4, 5] rfl)
set_option maxHeartbeats 4000000 in
set_option maxRecDepth 100000 in
theorem c_X11_whereOf_f (l : Launch) (dC : Nat → ClassId) (dI : Nat → Nat → Nat) (sz : Nat) (g0 : Nat) (pq : Nat → Nat) (cp : Nat → ClassId) (v : Nat → Int32) (fa : Nat → Nat → Int32) (gV : mV v) (gA : mA fa) (x1 : Int32) (x2 : Int32) (x3 : Int32) : Met l yX11_whereOf wsX11_whereOf ({ frames := 0, cells := 0, slots := 0, locals := 0 }) (va_Pc [.ref g0, .int x1, .int x2, .int x3] (pcW (dC, dI) (mT cp) (mW g0 pq cp v fa) sz)) (va_Qi (fun (r : Int32) (u : Unit) => (-1 ≤ r.toInt ∧ r.toInt ≤ 199) ∧ (r.toInt = whO v fa x1.toInt x2.toInt x3.toInt)) (fun _ _ => True) (va_A [] sz)) 0 0 (va_A [] sz) := by
  refine Met.ofW (cc := cX11_whereOf) (maxL := 6) (ret := (some .int)) (by decide) rfl ?_
  intro p e s m args below meth c s₁ B hml hv
  obtain ⟨rfl, hsz, hP, hK, hD0⟩ := hv
  have hx := B.exec
  have hb := B.bytes
  have hr := B.returns
  have hts := atoms_spec (ws := wsX11_whereOf) B.pre
  have hown : s.vm.findClass RX11 = some m.cls := findClass_of_methodNamed B.named
  have hlocks := B.notSynchronized
  subst hsz
  have hD := hD0
  generalize hAe : va_A [] s.heap.size = A at ⊢
  have hA : ∀ q : Nat, s.heap.size ≤ q → A q := fun q h => by rw [← hAe]; exact Or.inr h
  have hS : va_S A s.heap s.heap [] := va_S.rf
  have hP : va_P (dC, dI) vwCl (mW g0 pq cp v fa) s.heap := hP
  have hl := lv_entry ([.ref g0, .int x1, .int x2, .int x3]) (n := 6) (Nat.le_of_ble_eq_true rfl)
  rw [lg_entry_eq]
  generalize (lg_sl ([.ref g0, .int x1, .int x2, .int x3]) ++ List.replicate (6 - (lg_sl ([.ref g0, .int x1, .int x2, .int x3])).length) Slot.unset).toArray = ls at hl ⊢
  have hl : lv_has ls 6 [(0, .ref g0), (1, .int x1), (2, .int x2), (3, .int x3)] := hl
  have iv_1 : 0 ≤ (v 41).toInt ∧ (v 41).toInt ≤ 200 := gV 41
  refine lv_iconst (v := (-1)) hx hb dX11_whereOf_0 (by decide) ?_
  refine lv_istore (lv' := [(4, .int (-1)), (0, .ref g0), (1, .int x1), (2, .int x2), (3, .int x3)]) hx hb dX11_whereOf_1 hl (by decide) rfl (fun ls hl => ?_)
  refine lv_iconst (v := 0) hx hb dX11_whereOf_3 (by decide) ?_
  refine lv_istore (lv' := [(5, .int 0), (4, .int (-1)), (0, .ref g0), (1, .int x1), (2, .int x2), (3, .int x3)]) hx hb dX11_whereOf_4 hl (by decide) rfl (fun ls hl => ?_)
  have cut_2 : ∀ (n : Nat) (y_3 : Int32) (y_4 : Int32) (H : Heap) (locs : List Loc) (ls : Array Slot), 200 - y_3.toInt ≤ (n : Int) → (0 ≤ y_3.toInt ∧ y_3.toInt ≤ 200) → (-1 ≤ y_4.toInt ∧ y_4.toInt ≤ 199) → y_4.toInt = whB fa x1.toInt x2.toInt x3.toInt y_3.toNatClampNeg → y_3.toInt ≤ (v 41).toInt → va_P (dC, dI) vwCl (mW g0 pq cp v fa) H → va_S A s.heap H locs → lv_has ls 6 [(5, .int y_3), (4, .int y_4), (0, .ref g0), (1, .int x1), (2, .int x2), (3, .int x3)] → W p l e (headSpec wsX11_whereOf { frames := 0, cells := 0, slots := 0, locals := 0 }).room s m #[Value.ref g0, Value.int x1, Value.int x2, Value.int x3] below meth c H locs 0 0 (MQ below (va_Qi (fun (r : Int32) (u : Unit) => (-1 ≤ r.toInt ∧ r.toInt ≤ 199) ∧ (r.toInt = whO v fa x1.toInt x2.toInt x3.toInt)) (fun _ _ => True) A) #[Value.ref g0, Value.int x1, Value.int x2, Value.int x3] s 0 0 A) (F0 m 6 ls []) := by
    intro n
    induction n using Nat.strongRecOn with
    | ind n ih =>
      intro y_3 y_4 H locs ls hm hy_3 hy_4 hq0_cut_2 hq1_cut_2 hP hS hl
      refine lv_iload hx hb dX11_whereOf_6 (lv_at hl 0 rfl) ?_
      refine lv_aload_n hx hb dX11_whereOf_8 rfl (lv_at hl 2 rfl) ?_
      refine va_get (D := (dC, dI)) (ci := 11) (v := .int (v 41)) (C := RX11) (T := TX11) (N := 63) hx hb hts in_wsX11_whereOf_X11 hown hK hP 0 rfl rfl 41 (by decide) (hts (.fieldLink RX11 179 "ShipOfficeModel" "happened" "I") iw_X11_whereOf_1) (fun _ h9 => h9) rfl dX11_whereOf_9 ?_
      refine lv_topi (fun x_5 ex_5 => ?_)
      have hx_5 : 0 ≤ x_5.toInt ∧ x_5.toInt ≤ 200 := iv_of ex_5 (gV 41)
      have gx_5 : x_5.toInt = (v 41).toInt := iv_to ex_5
      clear ex_5
      refine lv_icmp_ge (tgt := 105) hx hb dX11_whereOf_12 (by decide) (fun c_6 => ?_) (fun c_6 => ?_)
      · have dc_6 := c_le (a := x_5.toInt) (b := y_3.toInt) rfl rfl c_6
        refine lv_iload hx hb dX11_whereOf_105 (lv_at hl 1 rfl) ?_
        exact W.iret (v := y_4) hx hb hr (fun t ht hW => ⟨⟨y_4, (), rfl, ⟨(by omega), (by unfold whO; rw [hq0_cut_2, show y_3.toNatClampNeg = (v 41).toNatClampNeg from (show y_3.toInt.toNat = (v 41).toInt.toNat by omega)])⟩, trivial⟩, hS.F ht⟩) hS.2.2 dX11_whereOf_107
      · have dc_6 := c_nle (a := x_5.toInt) (b := y_3.toInt) rfl rfl c_6
        refine lv_aload_n hx hb dX11_whereOf_15 rfl (lv_at hl 2 rfl) ?_
        refine va_get (D := (dC, dI)) (ci := 11) (v := .ref (pq 10)) (C := RX11) (T := TX11) (N := 63) hx hb hts in_wsX11_whereOf_X11 hown hK hP 0 rfl rfl 10 (by decide) (hts (.fieldLink RX11 40 "ShipOfficeModel" "what" "[I") iw_X11_whereOf_2) (fun _ h9 => h9) rfl dX11_whereOf_16 ?_
        refine lv_iload hx hb dX11_whereOf_19 (lv_at hl 0 rfl) ?_
        refine va_iald hx hb hK hP 11 10 rfl rfl (vp_in_iff.mpr (by omega)) dX11_whereOf_21 ?_
        refine lv_topi (fun x_7 ex_7 => ?_)
        have gx_7 : x_7.toInt = (fa 10 (y_3 : Int32).toNatClampNeg).toInt := iv_to ex_7
        clear ex_7
        refine lv_iconst (v := 3) hx hb dX11_whereOf_22 (by decide) ?_
        refine lv_icmp_eq (tgt := 37) hx hb dX11_whereOf_23 (by decide) (fun c_8 => ?_) (fun c_8 => ?_)
        · have dc_8 := c_eq (a := x_7.toInt) (b := 3) rfl (by decide) c_8
          refine lv_aload_n hx hb dX11_whereOf_37 rfl (lv_at hl 2 rfl) ?_
          refine va_get (D := (dC, dI)) (ci := 11) (v := .ref (pq 11)) (C := RX11) (T := TX11) (N := 63) hx hb hts in_wsX11_whereOf_X11 hown hK hP 0 rfl rfl 11 (by decide) (hts (.fieldLink RX11 43 "ShipOfficeModel" "whose" "[I") iw_X11_whereOf_3) (fun _ h9 => h9) rfl dX11_whereOf_38 ?_
          refine lv_iload hx hb dX11_whereOf_41 (lv_at hl 0 rfl) ?_
          refine va_iald hx hb hK hP 12 11 rfl rfl (vp_in_iff.mpr (by omega)) dX11_whereOf_43 ?_
          refine lv_topi (fun x_9 ex_9 => ?_)
          have gx_9 : x_9.toInt = (fa 11 (y_3 : Int32).toNatClampNeg).toInt := iv_to ex_9
          clear ex_9
          refine lv_iload_n hx hb dX11_whereOf_44 rfl (lv_at hl 3 rfl) ?_
          refine lv_icmp_ne (tgt := 99) hx hb dX11_whereOf_45 (by decide) (fun c_10 => ?_) (fun c_10 => ?_)
          · have dc_10 := c_ne (a := x_9.toInt) (b := x1.toInt) rfl rfl c_10
            obtain ⟨x_11, ex_11⟩ : ∃ zq : Int32, y_3 + 1 = zq := ⟨_, rfl⟩
            have hx_11 : x_11.toInt = y_3.toInt + 1 := (iv_to ex_11).symm.trans (ad_i rfl (by decide) (by omega) (by omega))
            refine lv_iinc (v := x_11) (lv' := [(5, .int x_11), (4, .int y_4), (0, .ref g0), (1, .int x1), (2, .int x2), (3, .int x3)]) hx hb dX11_whereOf_99 hl (k := 0) rfl ex_11 (by decide) rfl (fun ls hl => ?_)
            clear ex_11
            refine lv_goto (tgt := 6) hx hb dX11_whereOf_102 (by decide) ?_
            exact ih (n - 1) (by omega) x_11 y_4 _ _ ls (by omega) (by omega) (by omega) (whB_f hq0_cut_2 (by omega) (by omega) (by omega)) (by omega) hP hS (lv_sub hl [0, 1, 2, 3, 4, 5] rfl)
          · have dc_10 := c_eq (a := x_9.toInt) (b := x1.toInt) rfl rfl c_10
            refine lv_aload_n hx hb dX11_whereOf_48 rfl (lv_at hl 2 rfl) ?_
            refine va_get (D := (dC, dI)) (ci := 11) (v := .ref (pq 13)) (C := RX11) (T := TX11) (N := 63) hx hb hts in_wsX11_whereOf_X11 hown hK hP 0 rfl rfl 13 (by decide) (hts (.fieldLink RX11 49 "ShipOfficeModel" "known" "[I") iw_X11_whereOf_4) (fun _ h9 => h9) rfl dX11_whereOf_49 ?_
            refine lv_iload hx hb dX11_whereOf_52 (lv_at hl 0 rfl) ?_
            refine va_iald hx hb hK hP 14 13 rfl rfl (vp_in_iff.mpr (by omega)) dX11_whereOf_54 ?_
            refine lv_topi (fun x_12 ex_12 => ?_)
            have gx_12 : x_12.toInt = (fa 13 (y_3 : Int32).toNatClampNeg).toInt := iv_to ex_12
            clear ex_12
            refine lv_iload_n hx hb dX11_whereOf_55 rfl (lv_at hl 5 rfl) ?_
            refine lv_icmp_gt (tgt := 99) hx hb dX11_whereOf_56 (by decide) (fun c_13 => ?_) (fun c_13 => ?_)
            · have dc_13 := c_lt (a := x3.toInt) (b := x_12.toInt) rfl rfl c_13
              obtain ⟨x_14, ex_14⟩ : ∃ zq : Int32, y_3 + 1 = zq := ⟨_, rfl⟩
              have hx_14 : x_14.toInt = y_3.toInt + 1 := (iv_to ex_14).symm.trans (ad_i rfl (by decide) (by omega) (by omega))
              refine lv_iinc (v := x_14) (lv' := [(5, .int x_14), (4, .int y_4), (0, .ref g0), (1, .int x1), (2, .int x2), (3, .int x3)]) hx hb dX11_whereOf_99 hl (k := 0) rfl ex_14 (by decide) rfl (fun ls hl => ?_)
              clear ex_14
              refine lv_goto (tgt := 6) hx hb dX11_whereOf_102 (by decide) ?_
              exact ih (n - 1) (by omega) x_14 y_4 _ _ ls (by omega) (by omega) (by omega) (whB_f hq0_cut_2 (by omega) (by omega) (by omega)) (by omega) hP hS (lv_sub hl [0, 1, 2, 3, 4, 5] rfl)
            · have dc_13 := c_nlt (a := x3.toInt) (b := x_12.toInt) rfl rfl c_13
              refine lv_aload_n hx hb dX11_whereOf_59 rfl (lv_at hl 2 rfl) ?_
              refine va_get (D := (dC, dI)) (ci := 11) (v := .ref (pq 12)) (C := RX11) (T := TX11) (N := 63) hx hb hts in_wsX11_whereOf_X11 hown hK hP 0 rfl rfl 12 (by decide) (hts (.fieldLink RX11 46 "ShipOfficeModel" "day" "[I") iw_X11_whereOf_5) (fun _ h9 => h9) rfl dX11_whereOf_60 ?_
              refine lv_iload hx hb dX11_whereOf_63 (lv_at hl 0 rfl) ?_
              refine va_iald hx hb hK hP 13 12 rfl rfl (vp_in_iff.mpr (by omega)) dX11_whereOf_65 ?_
              refine lv_topi (fun x_15 ex_15 => ?_)
              have hx_15 : 0 ≤ x_15.toInt ∧ x_15.toInt ≤ 3000 := iv_of ex_15 (gA 12 _)
              have gx_15 : x_15.toInt = (fa 12 (y_3 : Int32).toNatClampNeg).toInt := iv_to ex_15
              clear ex_15
              refine lv_iload_n hx hb dX11_whereOf_66 rfl (lv_at hl 4 rfl) ?_
              refine lv_icmp_le (tgt := 73) hx hb dX11_whereOf_67 (by decide) (fun c_16 => ?_) (fun c_16 => ?_)
              · have dc_16 := c_le (a := x_15.toInt) (b := x2.toInt) rfl rfl c_16
                refine lv_iload hx hb dX11_whereOf_73 (lv_at hl 1 rfl) ?_
                refine lv_if_lt (tgt := 95) hx hb dX11_whereOf_75 (by decide) (fun c_17 => ?_) (fun c_17 => ?_)
                · have dc_17 := c_lt (a := y_4.toInt) (b := 0) rfl (by decide) c_17
                  refine lv_iload hx hb dX11_whereOf_95 (lv_at hl 0 rfl) ?_
                  refine lv_istore (lv' := [(4, .int y_3), (5, .int y_3), (0, .ref g0), (1, .int x1), (2, .int x2), (3, .int x3)]) hx hb dX11_whereOf_97 hl (by decide) rfl (fun ls hl => ?_)
                  obtain ⟨x_18, ex_18⟩ : ∃ zq : Int32, y_3 + 1 = zq := ⟨_, rfl⟩
                  have hx_18 : x_18.toInt = y_3.toInt + 1 := (iv_to ex_18).symm.trans (ad_i rfl (by decide) (by omega) (by omega))
                  refine lv_iinc (v := x_18) (lv' := [(5, .int x_18), (4, .int y_3), (0, .ref g0), (1, .int x1), (2, .int x2), (3, .int x3)]) hx hb dX11_whereOf_99 hl (k := 1) rfl ex_18 (by decide) rfl (fun ls hl => ?_)
                  clear ex_18
                  refine lv_goto (tgt := 6) hx hb dX11_whereOf_102 (by decide) ?_
                  exact ih (n - 1) (by omega) x_18 y_3 _ _ ls (by omega) (by omega) (by omega) (whB_t hq0_cut_2 (by omega) (by omega) ⟨by omega, by omega, by omega, by omega, by omega⟩) (by omega) hP hS (lv_sub hl [0, 1, 2, 3, 4, 5] rfl)
                · have dc_17 := c_nlt (a := y_4.toInt) (b := 0) rfl (by decide) c_17
                  refine lv_aload_n hx hb dX11_whereOf_78 rfl (lv_at hl 2 rfl) ?_
                  refine va_get (D := (dC, dI)) (ci := 11) (v := .ref (pq 12)) (C := RX11) (T := TX11) (N := 63) hx hb hts in_wsX11_whereOf_X11 hown hK hP 0 rfl rfl 12 (by decide) (hts (.fieldLink RX11 46 "ShipOfficeModel" "day" "[I") iw_X11_whereOf_5) (fun _ h9 => h9) rfl dX11_whereOf_79 ?_
                  refine lv_iload hx hb dX11_whereOf_82 (lv_at hl 0 rfl) ?_
                  refine va_iald hx hb hK hP 13 12 rfl rfl (vp_in_iff.mpr (by omega)) dX11_whereOf_84 ?_
                  refine lv_topi (fun x_19 ex_19 => ?_)
                  have hx_19 : 0 ≤ x_19.toInt ∧ x_19.toInt ≤ 3000 := iv_of ex_19 (gA 12 _)
                  have gx_19 : x_19.toInt = (fa 12 (y_3 : Int32).toNatClampNeg).toInt := iv_to ex_19
                  clear ex_19
                  refine lv_aload_n hx hb dX11_whereOf_85 rfl (lv_at hl 2 rfl) ?_
                  refine va_get (D := (dC, dI)) (ci := 11) (v := .ref (pq 12)) (C := RX11) (T := TX11) (N := 63) hx hb hts in_wsX11_whereOf_X11 hown hK hP 0 rfl rfl 12 (by decide) (hts (.fieldLink RX11 46 "ShipOfficeModel" "day" "[I") iw_X11_whereOf_5) (fun _ h9 => h9) rfl dX11_whereOf_86 ?_
                  refine lv_iload hx hb dX11_whereOf_89 (lv_at hl 1 rfl) ?_
                  refine va_iald hx hb hK hP 13 12 rfl rfl (vp_in_iff.mpr (by omega)) dX11_whereOf_91 ?_
                  refine lv_topi (fun x_20 ex_20 => ?_)
                  have hx_20 : 0 ≤ x_20.toInt ∧ x_20.toInt ≤ 3000 := iv_of ex_20 (gA 12 _)
                  have gx_20 : x_20.toInt = (fa 12 (y_4 : Int32).toNatClampNeg).toInt := iv_to ex_20
                  clear ex_20
                  refine lv_icmp_lt (tgt := 99) hx hb dX11_whereOf_92 (by decide) (fun c_21 => ?_) (fun c_21 => ?_)
                  · have dc_21 := c_lt (a := x_19.toInt) (b := x_20.toInt) rfl rfl c_21
                    obtain ⟨x_22, ex_22⟩ : ∃ zq : Int32, y_3 + 1 = zq := ⟨_, rfl⟩
                    have hx_22 : x_22.toInt = y_3.toInt + 1 := (iv_to ex_22).symm.trans (ad_i rfl (by decide) (by omega) (by omega))
                    refine lv_iinc (v := x_22) (lv' := [(5, .int x_22), (4, .int y_4), (0, .ref g0), (1, .int x1), (2, .int x2), (3, .int x3)]) hx hb dX11_whereOf_99 hl (k := 0) rfl ex_22 (by decide) rfl (fun ls hl => ?_)
                    clear ex_22
                    refine lv_goto (tgt := 6) hx hb dX11_whereOf_102 (by decide) ?_
                    exact ih (n - 1) (by omega) x_22 y_4 _ _ ls (by omega) (by omega) (by omega) (whB_f hq0_cut_2 (by omega) (by omega) (by omega)) (by omega) hP hS (lv_sub hl [0, 1, 2, 3, 4, 5] rfl)
                  · have dc_21 := c_nlt (a := x_19.toInt) (b := x_20.toInt) rfl rfl c_21
                    refine lv_iload hx hb dX11_whereOf_95 (lv_at hl 0 rfl) ?_
                    refine lv_istore (lv' := [(4, .int y_3), (5, .int y_3), (0, .ref g0), (1, .int x1), (2, .int x2), (3, .int x3)]) hx hb dX11_whereOf_97 hl (by decide) rfl (fun ls hl => ?_)
                    obtain ⟨x_23, ex_23⟩ : ∃ zq : Int32, y_3 + 1 = zq := ⟨_, rfl⟩
                    have hx_23 : x_23.toInt = y_3.toInt + 1 := (iv_to ex_23).symm.trans (ad_i rfl (by decide) (by omega) (by omega))
                    refine lv_iinc (v := x_23) (lv' := [(5, .int x_23), (4, .int y_3), (0, .ref g0), (1, .int x1), (2, .int x2), (3, .int x3)]) hx hb dX11_whereOf_99 hl (k := 1) rfl ex_23 (by decide) rfl (fun ls hl => ?_)
                    clear ex_23
                    refine lv_goto (tgt := 6) hx hb dX11_whereOf_102 (by decide) ?_
                    exact ih (n - 1) (by omega) x_23 y_3 _ _ ls (by omega) (by omega) (by omega) (whB_t hq0_cut_2 (by omega) (by omega) ⟨by omega, by omega, by omega, by omega, by omega⟩) (by omega) hP hS (lv_sub hl [0, 1, 2, 3, 4, 5] rfl)
              · have dc_16 := c_nle (a := x_15.toInt) (b := x2.toInt) rfl rfl c_16
                refine lv_goto (tgt := 99) hx hb dX11_whereOf_70 (by decide) ?_
                obtain ⟨x_24, ex_24⟩ : ∃ zq : Int32, y_3 + 1 = zq := ⟨_, rfl⟩
                have hx_24 : x_24.toInt = y_3.toInt + 1 := (iv_to ex_24).symm.trans (ad_i rfl (by decide) (by omega) (by omega))
                refine lv_iinc (v := x_24) (lv' := [(5, .int x_24), (4, .int y_4), (0, .ref g0), (1, .int x1), (2, .int x2), (3, .int x3)]) hx hb dX11_whereOf_99 hl (k := 0) rfl ex_24 (by decide) rfl (fun ls hl => ?_)
                clear ex_24
                refine lv_goto (tgt := 6) hx hb dX11_whereOf_102 (by decide) ?_
                exact ih (n - 1) (by omega) x_24 y_4 _ _ ls (by omega) (by omega) (by omega) (whB_f hq0_cut_2 (by omega) (by omega) (by omega)) (by omega) hP hS (lv_sub hl [0, 1, 2, 3, 4, 5] rfl)
        · have dc_8 := c_ne (a := x_7.toInt) (b := 3) rfl (by decide) c_8
          refine lv_aload_n hx hb dX11_whereOf_26 rfl (lv_at hl 2 rfl) ?_
          refine va_get (D := (dC, dI)) (ci := 11) (v := .ref (pq 10)) (C := RX11) (T := TX11) (N := 63) hx hb hts in_wsX11_whereOf_X11 hown hK hP 0 rfl rfl 10 (by decide) (hts (.fieldLink RX11 40 "ShipOfficeModel" "what" "[I") iw_X11_whereOf_2) (fun _ h9 => h9) rfl dX11_whereOf_27 ?_
          refine lv_iload hx hb dX11_whereOf_30 (lv_at hl 0 rfl) ?_
          refine va_iald hx hb hK hP 11 10 rfl rfl (vp_in_iff.mpr (by omega)) dX11_whereOf_32 ?_
          refine lv_topi (fun x_25 ex_25 => ?_)
          have gx_25 : x_25.toInt = (fa 10 (y_3 : Int32).toNatClampNeg).toInt := iv_to ex_25
          clear ex_25
          refine lv_iconst (v := 5) hx hb dX11_whereOf_33 (by decide) ?_
          refine lv_icmp_ne (tgt := 99) hx hb dX11_whereOf_34 (by decide) (fun c_26 => ?_) (fun c_26 => ?_)
          · have dc_26 := c_ne (a := x_25.toInt) (b := 5) rfl (by decide) c_26
            obtain ⟨x_27, ex_27⟩ : ∃ zq : Int32, y_3 + 1 = zq := ⟨_, rfl⟩
            have hx_27 : x_27.toInt = y_3.toInt + 1 := (iv_to ex_27).symm.trans (ad_i rfl (by decide) (by omega) (by omega))
            refine lv_iinc (v := x_27) (lv' := [(5, .int x_27), (4, .int y_4), (0, .ref g0), (1, .int x1), (2, .int x2), (3, .int x3)]) hx hb dX11_whereOf_99 hl (k := 0) rfl ex_27 (by decide) rfl (fun ls hl => ?_)
            clear ex_27
            refine lv_goto (tgt := 6) hx hb dX11_whereOf_102 (by decide) ?_
            exact ih (n - 1) (by omega) x_27 y_4 _ _ ls (by omega) (by omega) (by omega) (whB_f hq0_cut_2 (by omega) (by omega) (by omega)) (by omega) hP hS (lv_sub hl [0, 1, 2, 3, 4, 5] rfl)
          · have dc_26 := c_eq (a := x_25.toInt) (b := 5) rfl (by decide) c_26
            refine lv_aload_n hx hb dX11_whereOf_37 rfl (lv_at hl 2 rfl) ?_
            refine va_get (D := (dC, dI)) (ci := 11) (v := .ref (pq 11)) (C := RX11) (T := TX11) (N := 63) hx hb hts in_wsX11_whereOf_X11 hown hK hP 0 rfl rfl 11 (by decide) (hts (.fieldLink RX11 43 "ShipOfficeModel" "whose" "[I") iw_X11_whereOf_3) (fun _ h9 => h9) rfl dX11_whereOf_38 ?_
            refine lv_iload hx hb dX11_whereOf_41 (lv_at hl 0 rfl) ?_
            refine va_iald hx hb hK hP 12 11 rfl rfl (vp_in_iff.mpr (by omega)) dX11_whereOf_43 ?_
            refine lv_topi (fun x_28 ex_28 => ?_)
            have gx_28 : x_28.toInt = (fa 11 (y_3 : Int32).toNatClampNeg).toInt := iv_to ex_28
            clear ex_28
            refine lv_iload_n hx hb dX11_whereOf_44 rfl (lv_at hl 3 rfl) ?_
            refine lv_icmp_ne (tgt := 99) hx hb dX11_whereOf_45 (by decide) (fun c_29 => ?_) (fun c_29 => ?_)
            · have dc_29 := c_ne (a := x_28.toInt) (b := x1.toInt) rfl rfl c_29
              obtain ⟨x_30, ex_30⟩ : ∃ zq : Int32, y_3 + 1 = zq := ⟨_, rfl⟩
              have hx_30 : x_30.toInt = y_3.toInt + 1 := (iv_to ex_30).symm.trans (ad_i rfl (by decide) (by omega) (by omega))
              refine lv_iinc (v := x_30) (lv' := [(5, .int x_30), (4, .int y_4), (0, .ref g0), (1, .int x1), (2, .int x2), (3, .int x3)]) hx hb dX11_whereOf_99 hl (k := 0) rfl ex_30 (by decide) rfl (fun ls hl => ?_)
              clear ex_30
              refine lv_goto (tgt := 6) hx hb dX11_whereOf_102 (by decide) ?_
              exact ih (n - 1) (by omega) x_30 y_4 _ _ ls (by omega) (by omega) (by omega) (whB_f hq0_cut_2 (by omega) (by omega) (by omega)) (by omega) hP hS (lv_sub hl [0, 1, 2, 3, 4, 5] rfl)
            · have dc_29 := c_eq (a := x_28.toInt) (b := x1.toInt) rfl rfl c_29
              refine lv_aload_n hx hb dX11_whereOf_48 rfl (lv_at hl 2 rfl) ?_
              refine va_get (D := (dC, dI)) (ci := 11) (v := .ref (pq 13)) (C := RX11) (T := TX11) (N := 63) hx hb hts in_wsX11_whereOf_X11 hown hK hP 0 rfl rfl 13 (by decide) (hts (.fieldLink RX11 49 "ShipOfficeModel" "known" "[I") iw_X11_whereOf_4) (fun _ h9 => h9) rfl dX11_whereOf_49 ?_
              refine lv_iload hx hb dX11_whereOf_52 (lv_at hl 0 rfl) ?_
              refine va_iald hx hb hK hP 14 13 rfl rfl (vp_in_iff.mpr (by omega)) dX11_whereOf_54 ?_
              refine lv_topi (fun x_31 ex_31 => ?_)
              have gx_31 : x_31.toInt = (fa 13 (y_3 : Int32).toNatClampNeg).toInt := iv_to ex_31
              clear ex_31
              refine lv_iload_n hx hb dX11_whereOf_55 rfl (lv_at hl 5 rfl) ?_
              refine lv_icmp_gt (tgt := 99) hx hb dX11_whereOf_56 (by decide) (fun c_32 => ?_) (fun c_32 => ?_)
              · have dc_32 := c_lt (a := x3.toInt) (b := x_31.toInt) rfl rfl c_32
                obtain ⟨x_33, ex_33⟩ : ∃ zq : Int32, y_3 + 1 = zq := ⟨_, rfl⟩
                have hx_33 : x_33.toInt = y_3.toInt + 1 := (iv_to ex_33).symm.trans (ad_i rfl (by decide) (by omega) (by omega))
                refine lv_iinc (v := x_33) (lv' := [(5, .int x_33), (4, .int y_4), (0, .ref g0), (1, .int x1), (2, .int x2), (3, .int x3)]) hx hb dX11_whereOf_99 hl (k := 0) rfl ex_33 (by decide) rfl (fun ls hl => ?_)
                clear ex_33
                refine lv_goto (tgt := 6) hx hb dX11_whereOf_102 (by decide) ?_
                exact ih (n - 1) (by omega) x_33 y_4 _ _ ls (by omega) (by omega) (by omega) (whB_f hq0_cut_2 (by omega) (by omega) (by omega)) (by omega) hP hS (lv_sub hl [0, 1, 2, 3, 4, 5] rfl)
              · have dc_32 := c_nlt (a := x3.toInt) (b := x_31.toInt) rfl rfl c_32
                refine lv_aload_n hx hb dX11_whereOf_59 rfl (lv_at hl 2 rfl) ?_
                refine va_get (D := (dC, dI)) (ci := 11) (v := .ref (pq 12)) (C := RX11) (T := TX11) (N := 63) hx hb hts in_wsX11_whereOf_X11 hown hK hP 0 rfl rfl 12 (by decide) (hts (.fieldLink RX11 46 "ShipOfficeModel" "day" "[I") iw_X11_whereOf_5) (fun _ h9 => h9) rfl dX11_whereOf_60 ?_
                refine lv_iload hx hb dX11_whereOf_63 (lv_at hl 0 rfl) ?_
                refine va_iald hx hb hK hP 13 12 rfl rfl (vp_in_iff.mpr (by omega)) dX11_whereOf_65 ?_
                refine lv_topi (fun x_34 ex_34 => ?_)
                have hx_34 : 0 ≤ x_34.toInt ∧ x_34.toInt ≤ 3000 := iv_of ex_34 (gA 12 _)
                have gx_34 : x_34.toInt = (fa 12 (y_3 : Int32).toNatClampNeg).toInt := iv_to ex_34
                clear ex_34
                refine lv_iload_n hx hb dX11_whereOf_66 rfl (lv_at hl 4 rfl) ?_
                refine lv_icmp_le (tgt := 73) hx hb dX11_whereOf_67 (by decide) (fun c_35 => ?_) (fun c_35 => ?_)
                · have dc_35 := c_le (a := x_34.toInt) (b := x2.toInt) rfl rfl c_35
                  refine lv_iload hx hb dX11_whereOf_73 (lv_at hl 1 rfl) ?_
                  refine lv_if_lt (tgt := 95) hx hb dX11_whereOf_75 (by decide) (fun c_36 => ?_) (fun c_36 => ?_)
                  · have dc_36 := c_lt (a := y_4.toInt) (b := 0) rfl (by decide) c_36
                    refine lv_iload hx hb dX11_whereOf_95 (lv_at hl 0 rfl) ?_
                    refine lv_istore (lv' := [(4, .int y_3), (5, .int y_3), (0, .ref g0), (1, .int x1), (2, .int x2), (3, .int x3)]) hx hb dX11_whereOf_97 hl (by decide) rfl (fun ls hl => ?_)
                    obtain ⟨x_37, ex_37⟩ : ∃ zq : Int32, y_3 + 1 = zq := ⟨_, rfl⟩
                    have hx_37 : x_37.toInt = y_3.toInt + 1 := (iv_to ex_37).symm.trans (ad_i rfl (by decide) (by omega) (by omega))
                    refine lv_iinc (v := x_37) (lv' := [(5, .int x_37), (4, .int y_3), (0, .ref g0), (1, .int x1), (2, .int x2), (3, .int x3)]) hx hb dX11_whereOf_99 hl (k := 1) rfl ex_37 (by decide) rfl (fun ls hl => ?_)
                    clear ex_37
                    refine lv_goto (tgt := 6) hx hb dX11_whereOf_102 (by decide) ?_
                    exact ih (n - 1) (by omega) x_37 y_3 _ _ ls (by omega) (by omega) (by omega) (whB_t hq0_cut_2 (by omega) (by omega) ⟨by omega, by omega, by omega, by omega, by omega⟩) (by omega) hP hS (lv_sub hl [0, 1, 2, 3, 4, 5] rfl)
                  · have dc_36 := c_nlt (a := y_4.toInt) (b := 0) rfl (by decide) c_36
                    refine lv_aload_n hx hb dX11_whereOf_78 rfl (lv_at hl 2 rfl) ?_
                    refine va_get (D := (dC, dI)) (ci := 11) (v := .ref (pq 12)) (C := RX11) (T := TX11) (N := 63) hx hb hts in_wsX11_whereOf_X11 hown hK hP 0 rfl rfl 12 (by decide) (hts (.fieldLink RX11 46 "ShipOfficeModel" "day" "[I") iw_X11_whereOf_5) (fun _ h9 => h9) rfl dX11_whereOf_79 ?_
                    refine lv_iload hx hb dX11_whereOf_82 (lv_at hl 0 rfl) ?_
                    refine va_iald hx hb hK hP 13 12 rfl rfl (vp_in_iff.mpr (by omega)) dX11_whereOf_84 ?_
                    refine lv_topi (fun x_38 ex_38 => ?_)
                    have hx_38 : 0 ≤ x_38.toInt ∧ x_38.toInt ≤ 3000 := iv_of ex_38 (gA 12 _)
                    have gx_38 : x_38.toInt = (fa 12 (y_3 : Int32).toNatClampNeg).toInt := iv_to ex_38
                    clear ex_38
                    refine lv_aload_n hx hb dX11_whereOf_85 rfl (lv_at hl 2 rfl) ?_
                    refine va_get (D := (dC, dI)) (ci := 11) (v := .ref (pq 12)) (C := RX11) (T := TX11) (N := 63) hx hb hts in_wsX11_whereOf_X11 hown hK hP 0 rfl rfl 12 (by decide) (hts (.fieldLink RX11 46 "ShipOfficeModel" "day" "[I") iw_X11_whereOf_5) (fun _ h9 => h9) rfl dX11_whereOf_86 ?_
                    refine lv_iload hx hb dX11_whereOf_89 (lv_at hl 1 rfl) ?_
                    refine va_iald hx hb hK hP 13 12 rfl rfl (vp_in_iff.mpr (by omega)) dX11_whereOf_91 ?_
                    refine lv_topi (fun x_39 ex_39 => ?_)
                    have hx_39 : 0 ≤ x_39.toInt ∧ x_39.toInt ≤ 3000 := iv_of ex_39 (gA 12 _)
                    have gx_39 : x_39.toInt = (fa 12 (y_4 : Int32).toNatClampNeg).toInt := iv_to ex_39
                    clear ex_39
                    refine lv_icmp_lt (tgt := 99) hx hb dX11_whereOf_92 (by decide) (fun c_40 => ?_) (fun c_40 => ?_)
                    · have dc_40 := c_lt (a := x_38.toInt) (b := x_39.toInt) rfl rfl c_40
                      obtain ⟨x_41, ex_41⟩ : ∃ zq : Int32, y_3 + 1 = zq := ⟨_, rfl⟩
                      have hx_41 : x_41.toInt = y_3.toInt + 1 := (iv_to ex_41).symm.trans (ad_i rfl (by decide) (by omega) (by omega))
                      refine lv_iinc (v := x_41) (lv' := [(5, .int x_41), (4, .int y_4), (0, .ref g0), (1, .int x1), (2, .int x2), (3, .int x3)]) hx hb dX11_whereOf_99 hl (k := 0) rfl ex_41 (by decide) rfl (fun ls hl => ?_)
                      clear ex_41
                      refine lv_goto (tgt := 6) hx hb dX11_whereOf_102 (by decide) ?_
                      exact ih (n - 1) (by omega) x_41 y_4 _ _ ls (by omega) (by omega) (by omega) (whB_f hq0_cut_2 (by omega) (by omega) (by omega)) (by omega) hP hS (lv_sub hl [0, 1, 2, 3, 4, 5] rfl)
                    · have dc_40 := c_nlt (a := x_38.toInt) (b := x_39.toInt) rfl rfl c_40
                      refine lv_iload hx hb dX11_whereOf_95 (lv_at hl 0 rfl) ?_
                      refine lv_istore (lv' := [(4, .int y_3), (5, .int y_3), (0, .ref g0), (1, .int x1), (2, .int x2), (3, .int x3)]) hx hb dX11_whereOf_97 hl (by decide) rfl (fun ls hl => ?_)
                      obtain ⟨x_42, ex_42⟩ : ∃ zq : Int32, y_3 + 1 = zq := ⟨_, rfl⟩
                      have hx_42 : x_42.toInt = y_3.toInt + 1 := (iv_to ex_42).symm.trans (ad_i rfl (by decide) (by omega) (by omega))
                      refine lv_iinc (v := x_42) (lv' := [(5, .int x_42), (4, .int y_3), (0, .ref g0), (1, .int x1), (2, .int x2), (3, .int x3)]) hx hb dX11_whereOf_99 hl (k := 1) rfl ex_42 (by decide) rfl (fun ls hl => ?_)
                      clear ex_42
                      refine lv_goto (tgt := 6) hx hb dX11_whereOf_102 (by decide) ?_
                      exact ih (n - 1) (by omega) x_42 y_3 _ _ ls (by omega) (by omega) (by omega) (whB_t hq0_cut_2 (by omega) (by omega) ⟨by omega, by omega, by omega, by omega, by omega⟩) (by omega) hP hS (lv_sub hl [0, 1, 2, 3, 4, 5] rfl)
                · have dc_35 := c_nle (a := x_34.toInt) (b := x2.toInt) rfl rfl c_35
                  refine lv_goto (tgt := 99) hx hb dX11_whereOf_70 (by decide) ?_
                  obtain ⟨x_43, ex_43⟩ : ∃ zq : Int32, y_3 + 1 = zq := ⟨_, rfl⟩
                  have hx_43 : x_43.toInt = y_3.toInt + 1 := (iv_to ex_43).symm.trans (ad_i rfl (by decide) (by omega) (by omega))
                  refine lv_iinc (v := x_43) (lv' := [(5, .int x_43), (4, .int y_4), (0, .ref g0), (1, .int x1), (2, .int x2), (3, .int x3)]) hx hb dX11_whereOf_99 hl (k := 0) rfl ex_43 (by decide) rfl (fun ls hl => ?_)
                  clear ex_43
                  refine lv_goto (tgt := 6) hx hb dX11_whereOf_102 (by decide) ?_
                  exact ih (n - 1) (by omega) x_43 y_4 _ _ ls (by omega) (by omega) (by omega) (whB_f hq0_cut_2 (by omega) (by omega) (by omega)) (by omega) hP hS (lv_sub hl [0, 1, 2, 3, 4, 5] rfl)
  have kc_44 : ((-1) : Int32).toInt = -1 := by decide
  have kc_45 : (0 : Int32).toInt = 0 := by decide
  exact cut_2 201 0 (-1) _ _ ls (by omega) (by decide) (by decide) (B_0 (by decide) rfl) (by have rc : (0 : Int32).toInt = 0 := (by decide); omega) hP hS (lv_sub hl [0, 1, 2, 3, 4, 5] rfl)
set_option maxHeartbeats 4000000 in
set_option maxRecDepth 100000 in
theorem c_X11_isDead_f (l : Launch) (dC : Nat → ClassId) (dI : Nat → Nat → Nat) (sz : Nat) (g0 : Nat) (pq : Nat → Nat) (cp : Nat → ClassId) (v : Nat → Int32) (fa : Nat → Nat → Int32) (gV : mV v) (gA : mA fa) (x1 : Int32) (hx1 : 0 ≤ x1.toInt ∧ x1.toInt ≤ 59) (x2 : Int32) (x3 : Int32) : Met l yX11_isDead wsX11_isDead ({ frames := 0, cells := 0, slots := 0, locals := 0 }) (va_Pc [.ref g0, .int x1, .int x2, .int x3] (pcW (dC, dI) (mT cp) (mW g0 pq cp v fa) sz)) (va_Qi (fun (r : Int32) (u : Unit) => (0 ≤ r.toInt ∧ r.toInt ≤ 1) ∧ (r.toInt = ddI v fa x1.toInt (fa 21 x1.toNatClampNeg).toInt x2.toInt x3.toInt)) (fun _ _ => True) (va_A [] sz)) 0 0 (va_A [] sz) := by
  refine Met.ofW (cc := cX11_isDead) (maxL := 5) (ret := (some .boolean)) (by decide) rfl ?_
  intro p e s m args below meth c s₁ B hml hv
  obtain ⟨rfl, hsz, hP, hK, hD0⟩ := hv
  have hx := B.exec
  have hb := B.bytes
  have hr := B.returns
  have hts := atoms_spec (ws := wsX11_isDead) B.pre
  have hown : s.vm.findClass RX11 = some m.cls := findClass_of_methodNamed B.named
  have hlocks := B.notSynchronized
  subst hsz
  have hD := hD0
  generalize hAe : va_A [] s.heap.size = A at ⊢
  have hA : ∀ q : Nat, s.heap.size ≤ q → A q := fun q h => by rw [← hAe]; exact Or.inr h
  have hS : va_S A s.heap s.heap [] := va_S.rf
  have hP : va_P (dC, dI) vwCl (mW g0 pq cp v fa) s.heap := hP
  have hl := lv_entry ([.ref g0, .int x1, .int x2, .int x3]) (n := 5) (Nat.le_of_ble_eq_true rfl)
  rw [lg_entry_eq]
  generalize (lg_sl ([.ref g0, .int x1, .int x2, .int x3]) ++ List.replicate (5 - (lg_sl ([.ref g0, .int x1, .int x2, .int x3])).length) Slot.unset).toArray = ls at hl ⊢
  have hl : lv_has ls 5 [(0, .ref g0), (1, .int x1), (2, .int x2), (3, .int x3)] := hl
  have iv_1 : 0 ≤ (v 41).toInt ∧ (v 41).toInt ≤ 200 := gV 41
  refine lv_iconst (v := 0) hx hb dX11_isDead_0 (by decide) ?_
  refine lv_istore (lv' := [(4, .int 0), (0, .ref g0), (1, .int x1), (2, .int x2), (3, .int x3)]) hx hb dX11_isDead_1 hl (by decide) rfl (fun ls hl => ?_)
  have cut_2 : ∀ (n : Nat) (y_3 : Int32) (H : Heap) (locs : List Loc) (ls : Array Slot), 200 - y_3.toInt ≤ (n : Int) → (0 ≤ y_3.toInt ∧ y_3.toInt ≤ 200) → (∀ j, j < y_3.toNatClampNeg → ¬ ddP fa x1.toInt (fa 21 x1.toNatClampNeg).toInt x2.toInt x3.toInt j) → va_P (dC, dI) vwCl (mW g0 pq cp v fa) H → va_S A s.heap H locs → lv_has ls 5 [(4, .int y_3), (0, .ref g0), (1, .int x1), (2, .int x2), (3, .int x3)] → W p l e (headSpec wsX11_isDead { frames := 0, cells := 0, slots := 0, locals := 0 }).room s m #[Value.ref g0, Value.int x1, Value.int x2, Value.int x3] below meth c H locs 0 0 (MQ below (va_Qi (fun (r : Int32) (u : Unit) => (0 ≤ r.toInt ∧ r.toInt ≤ 1) ∧ (r.toInt = ddI v fa x1.toInt (fa 21 x1.toNatClampNeg).toInt x2.toInt x3.toInt)) (fun _ _ => True) A) #[Value.ref g0, Value.int x1, Value.int x2, Value.int x3] s 0 0 A) (F0 m 3 ls []) := by
    intro n
    induction n using Nat.strongRecOn with
    | ind n ih =>
      intro y_3 H locs ls hm hy_3 hq0_cut_2 hP hS hl
      refine lv_iload hx hb dX11_isDead_3 (lv_at hl 0 rfl) ?_
      refine lv_aload_n hx hb dX11_isDead_5 rfl (lv_at hl 1 rfl) ?_
      refine va_get (D := (dC, dI)) (ci := 11) (v := .int (v 41)) (C := RX11) (T := TX11) (N := 63) hx hb hts in_wsX11_isDead_X11 hown hK hP 0 rfl rfl 41 (by decide) (hts (.fieldLink RX11 179 "ShipOfficeModel" "happened" "I") iw_X11_isDead_1) (fun _ h9 => h9) rfl dX11_isDead_6 ?_
      refine lv_topi (fun x_4 ex_4 => ?_)
      have hx_4 : 0 ≤ x_4.toInt ∧ x_4.toInt ≤ 200 := iv_of ex_4 (gV 41)
      have gx_4 : x_4.toInt = (v 41).toInt := iv_to ex_4
      clear ex_4
      refine lv_icmp_ge (tgt := 91) hx hb dX11_isDead_9 (by decide) (fun c_5 => ?_) (fun c_5 => ?_)
      · have dc_5 := c_le (a := x_4.toInt) (b := y_3.toInt) rfl rfl c_5
        refine lv_iconst (v := 0) hx hb dX11_isDead_91 (by decide) ?_
        exact W.zret (v := 0) hx hb hr rfl (fun t ht hW => ⟨⟨0, (), rfl, ⟨(by decide), (b1_f (fun ⟨j, hj, hp⟩ => al_e hq0_cut_2 (by omega) j hj hp))⟩, trivial⟩, hS.F ht⟩) hS.2.2 dX11_isDead_92
      · have dc_5 := c_nle (a := x_4.toInt) (b := y_3.toInt) rfl rfl c_5
        refine lv_aload_n hx hb dX11_isDead_12 rfl (lv_at hl 1 rfl) ?_
        refine va_get (D := (dC, dI)) (ci := 11) (v := .ref (pq 10)) (C := RX11) (T := TX11) (N := 63) hx hb hts in_wsX11_isDead_X11 hown hK hP 0 rfl rfl 10 (by decide) (hts (.fieldLink RX11 40 "ShipOfficeModel" "what" "[I") iw_X11_isDead_2) (fun _ h9 => h9) rfl dX11_isDead_13 ?_
        refine lv_iload hx hb dX11_isDead_16 (lv_at hl 0 rfl) ?_
        refine va_iald hx hb hK hP 11 10 rfl rfl (vp_in_iff.mpr (by omega)) dX11_isDead_18 ?_
        refine lv_topi (fun x_6 ex_6 => ?_)
        have gx_6 : x_6.toInt = (fa 10 (y_3 : Int32).toNatClampNeg).toInt := iv_to ex_6
        clear ex_6
        refine lv_iconst (v := 4) hx hb dX11_isDead_19 (by decide) ?_
        refine lv_icmp_ne (tgt := 34) hx hb dX11_isDead_20 (by decide) (fun c_7 => ?_) (fun c_7 => ?_)
        · have dc_7 := c_ne (a := x_6.toInt) (b := 4) rfl (by decide) c_7
          refine lv_aload_n hx hb dX11_isDead_34 rfl (lv_at hl 1 rfl) ?_
          refine va_get (D := (dC, dI)) (ci := 11) (v := .ref (pq 10)) (C := RX11) (T := TX11) (N := 63) hx hb hts in_wsX11_isDead_X11 hown hK hP 0 rfl rfl 10 (by decide) (hts (.fieldLink RX11 40 "ShipOfficeModel" "what" "[I") iw_X11_isDead_2) (fun _ h9 => h9) rfl dX11_isDead_35 ?_
          refine lv_iload hx hb dX11_isDead_38 (lv_at hl 0 rfl) ?_
          refine va_iald hx hb hK hP 11 10 rfl rfl (vp_in_iff.mpr (by omega)) dX11_isDead_40 ?_
          refine lv_topi (fun x_8 ex_8 => ?_)
          have gx_8 : x_8.toInt = (fa 10 (y_3 : Int32).toNatClampNeg).toInt := iv_to ex_8
          clear ex_8
          refine lv_iconst (v := 2) hx hb dX11_isDead_41 (by decide) ?_
          refine lv_icmp_ne (tgt := 85) hx hb dX11_isDead_42 (by decide) (fun c_9 => ?_) (fun c_9 => ?_)
          · have dc_9 := c_ne (a := x_8.toInt) (b := 2) rfl (by decide) c_9
            obtain ⟨x_10, ex_10⟩ : ∃ zq : Int32, y_3 + 1 = zq := ⟨_, rfl⟩
            have hx_10 : x_10.toInt = y_3.toInt + 1 := (iv_to ex_10).symm.trans (ad_i rfl (by decide) (by omega) (by omega))
            refine lv_iinc (v := x_10) (lv' := [(4, .int x_10), (0, .ref g0), (1, .int x1), (2, .int x2), (3, .int x3)]) hx hb dX11_isDead_85 hl (k := 0) rfl ex_10 (by decide) rfl (fun ls hl => ?_)
            clear ex_10
            refine lv_goto (tgt := 3) hx hb dX11_isDead_88 (by decide) ?_
            exact ih (n - 1) (by omega) x_10 _ _ ls (by omega) (by omega) (al_s hq0_cut_2 (fun q => by unfold ddP at q; omega) (by omega) (by omega)) hP hS (lv_sub hl [0, 1, 2, 3, 4] rfl)
          · have dc_9 := c_eq (a := x_8.toInt) (b := 2) rfl (by decide) c_9
            refine lv_aload_n hx hb dX11_isDead_45 rfl (lv_at hl 1 rfl) ?_
            refine va_get (D := (dC, dI)) (ci := 11) (v := .ref (pq 11)) (C := RX11) (T := TX11) (N := 63) hx hb hts in_wsX11_isDead_X11 hown hK hP 0 rfl rfl 11 (by decide) (hts (.fieldLink RX11 43 "ShipOfficeModel" "whose" "[I") iw_X11_isDead_3) (fun _ h9 => h9) rfl dX11_isDead_46 ?_
            refine lv_iload hx hb dX11_isDead_49 (lv_at hl 0 rfl) ?_
            refine va_iald hx hb hK hP 12 11 rfl rfl (vp_in_iff.mpr (by omega)) dX11_isDead_51 ?_
            refine lv_topi (fun x_11 ex_11 => ?_)
            have gx_11 : x_11.toInt = (fa 11 (y_3 : Int32).toNatClampNeg).toInt := iv_to ex_11
            clear ex_11
            refine lv_aload_n hx hb dX11_isDead_52 rfl (lv_at hl 1 rfl) ?_
            refine va_get (D := (dC, dI)) (ci := 11) (v := .ref (pq 21)) (C := RX11) (T := TX11) (N := 63) hx hb hts in_wsX11_isDead_X11 hown hK hP 0 rfl rfl 21 (by decide) (hts (.fieldLink RX11 73 "ShipOfficeModel" "voyage" "[I") iw_X11_isDead_4) (fun _ h9 => h9) rfl dX11_isDead_53 ?_
            refine lv_iload_n hx hb dX11_isDead_56 rfl (lv_at hl 2 rfl) ?_
            refine va_iald hx hb hK hP 22 21 rfl rfl (vp_in_iff.mpr (by omega)) dX11_isDead_57 ?_
            refine lv_topi (fun x_12 ex_12 => ?_)
            have hx_12 : 0 ≤ x_12.toInt ∧ x_12.toInt ≤ 19 := iv_of ex_12 (gA 21 _)
            have gx_12 : x_12.toInt = (fa 21 (x1 : Int32).toNatClampNeg).toInt := iv_to ex_12
            clear ex_12
            refine lv_icmp_ne (tgt := 85) hx hb dX11_isDead_58 (by decide) (fun c_13 => ?_) (fun c_13 => ?_)
            · have dc_13 := c_ne (a := x_11.toInt) (b := x_12.toInt) rfl rfl c_13
              obtain ⟨x_14, ex_14⟩ : ∃ zq : Int32, y_3 + 1 = zq := ⟨_, rfl⟩
              have hx_14 : x_14.toInt = y_3.toInt + 1 := (iv_to ex_14).symm.trans (ad_i rfl (by decide) (by omega) (by omega))
              refine lv_iinc (v := x_14) (lv' := [(4, .int x_14), (0, .ref g0), (1, .int x1), (2, .int x2), (3, .int x3)]) hx hb dX11_isDead_85 hl (k := 0) rfl ex_14 (by decide) rfl (fun ls hl => ?_)
              clear ex_14
              refine lv_goto (tgt := 3) hx hb dX11_isDead_88 (by decide) ?_
              exact ih (n - 1) (by omega) x_14 _ _ ls (by omega) (by omega) (al_s hq0_cut_2 (fun q => by unfold ddP at q; omega) (by omega) (by omega)) hP hS (lv_sub hl [0, 1, 2, 3, 4] rfl)
            · have dc_13 := c_eq (a := x_11.toInt) (b := x_12.toInt) rfl rfl c_13
              refine lv_aload_n hx hb dX11_isDead_61 rfl (lv_at hl 1 rfl) ?_
              refine va_get (D := (dC, dI)) (ci := 11) (v := .ref (pq 13)) (C := RX11) (T := TX11) (N := 63) hx hb hts in_wsX11_isDead_X11 hown hK hP 0 rfl rfl 13 (by decide) (hts (.fieldLink RX11 49 "ShipOfficeModel" "known" "[I") iw_X11_isDead_5) (fun _ h9 => h9) rfl dX11_isDead_62 ?_
              refine lv_iload hx hb dX11_isDead_65 (lv_at hl 0 rfl) ?_
              refine va_iald hx hb hK hP 14 13 rfl rfl (vp_in_iff.mpr (by omega)) dX11_isDead_67 ?_
              refine lv_topi (fun x_15 ex_15 => ?_)
              have gx_15 : x_15.toInt = (fa 13 (y_3 : Int32).toNatClampNeg).toInt := iv_to ex_15
              clear ex_15
              refine lv_iload_n hx hb dX11_isDead_68 rfl (lv_at hl 4 rfl) ?_
              refine lv_icmp_gt (tgt := 85) hx hb dX11_isDead_69 (by decide) (fun c_16 => ?_) (fun c_16 => ?_)
              · have dc_16 := c_lt (a := x3.toInt) (b := x_15.toInt) rfl rfl c_16
                obtain ⟨x_17, ex_17⟩ : ∃ zq : Int32, y_3 + 1 = zq := ⟨_, rfl⟩
                have hx_17 : x_17.toInt = y_3.toInt + 1 := (iv_to ex_17).symm.trans (ad_i rfl (by decide) (by omega) (by omega))
                refine lv_iinc (v := x_17) (lv' := [(4, .int x_17), (0, .ref g0), (1, .int x1), (2, .int x2), (3, .int x3)]) hx hb dX11_isDead_85 hl (k := 0) rfl ex_17 (by decide) rfl (fun ls hl => ?_)
                clear ex_17
                refine lv_goto (tgt := 3) hx hb dX11_isDead_88 (by decide) ?_
                exact ih (n - 1) (by omega) x_17 _ _ ls (by omega) (by omega) (al_s hq0_cut_2 (fun q => by unfold ddP at q; omega) (by omega) (by omega)) hP hS (lv_sub hl [0, 1, 2, 3, 4] rfl)
              · have dc_16 := c_nlt (a := x3.toInt) (b := x_15.toInt) rfl rfl c_16
                refine lv_aload_n hx hb dX11_isDead_72 rfl (lv_at hl 1 rfl) ?_
                refine va_get (D := (dC, dI)) (ci := 11) (v := .ref (pq 12)) (C := RX11) (T := TX11) (N := 63) hx hb hts in_wsX11_isDead_X11 hown hK hP 0 rfl rfl 12 (by decide) (hts (.fieldLink RX11 46 "ShipOfficeModel" "day" "[I") iw_X11_isDead_6) (fun _ h9 => h9) rfl dX11_isDead_73 ?_
                refine lv_iload hx hb dX11_isDead_76 (lv_at hl 0 rfl) ?_
                refine va_iald hx hb hK hP 13 12 rfl rfl (vp_in_iff.mpr (by omega)) dX11_isDead_78 ?_
                refine lv_topi (fun x_18 ex_18 => ?_)
                have hx_18 : 0 ≤ x_18.toInt ∧ x_18.toInt ≤ 3000 := iv_of ex_18 (gA 12 _)
                have gx_18 : x_18.toInt = (fa 12 (y_3 : Int32).toNatClampNeg).toInt := iv_to ex_18
                clear ex_18
                refine lv_iload_n hx hb dX11_isDead_79 rfl (lv_at hl 3 rfl) ?_
                refine lv_icmp_gt (tgt := 85) hx hb dX11_isDead_80 (by decide) (fun c_19 => ?_) (fun c_19 => ?_)
                · have dc_19 := c_lt (a := x2.toInt) (b := x_18.toInt) rfl rfl c_19
                  obtain ⟨x_20, ex_20⟩ : ∃ zq : Int32, y_3 + 1 = zq := ⟨_, rfl⟩
                  have hx_20 : x_20.toInt = y_3.toInt + 1 := (iv_to ex_20).symm.trans (ad_i rfl (by decide) (by omega) (by omega))
                  refine lv_iinc (v := x_20) (lv' := [(4, .int x_20), (0, .ref g0), (1, .int x1), (2, .int x2), (3, .int x3)]) hx hb dX11_isDead_85 hl (k := 0) rfl ex_20 (by decide) rfl (fun ls hl => ?_)
                  clear ex_20
                  refine lv_goto (tgt := 3) hx hb dX11_isDead_88 (by decide) ?_
                  exact ih (n - 1) (by omega) x_20 _ _ ls (by omega) (by omega) (al_s hq0_cut_2 (fun q => by unfold ddP at q; omega) (by omega) (by omega)) hP hS (lv_sub hl [0, 1, 2, 3, 4] rfl)
                · have dc_19 := c_nlt (a := x2.toInt) (b := x_18.toInt) rfl rfl c_19
                  refine lv_iconst (v := 1) hx hb dX11_isDead_83 (by decide) ?_
                  exact W.zret (v := 1) hx hb hr rfl (fun t ht hW => ⟨⟨1, (), rfl, ⟨(by decide), (b1_t ⟨y_3.toNatClampNeg, ni_lt (by omega) (by omega), by unfold ddP; omega⟩)⟩, trivial⟩, hS.F ht⟩) hS.2.2 dX11_isDead_84
        · have dc_7 := c_eq (a := x_6.toInt) (b := 4) rfl (by decide) c_7
          refine lv_aload_n hx hb dX11_isDead_23 rfl (lv_at hl 1 rfl) ?_
          refine va_get (D := (dC, dI)) (ci := 11) (v := .ref (pq 11)) (C := RX11) (T := TX11) (N := 63) hx hb hts in_wsX11_isDead_X11 hown hK hP 0 rfl rfl 11 (by decide) (hts (.fieldLink RX11 43 "ShipOfficeModel" "whose" "[I") iw_X11_isDead_3) (fun _ h9 => h9) rfl dX11_isDead_24 ?_
          refine lv_iload hx hb dX11_isDead_27 (lv_at hl 0 rfl) ?_
          refine va_iald hx hb hK hP 12 11 rfl rfl (vp_in_iff.mpr (by omega)) dX11_isDead_29 ?_
          refine lv_topi (fun x_21 ex_21 => ?_)
          have gx_21 : x_21.toInt = (fa 11 (y_3 : Int32).toNatClampNeg).toInt := iv_to ex_21
          clear ex_21
          refine lv_iload_n hx hb dX11_isDead_30 rfl (lv_at hl 2 rfl) ?_
          refine lv_icmp_eq (tgt := 61) hx hb dX11_isDead_31 (by decide) (fun c_22 => ?_) (fun c_22 => ?_)
          · have dc_22 := c_eq (a := x_21.toInt) (b := x1.toInt) rfl rfl c_22
            refine lv_aload_n hx hb dX11_isDead_61 rfl (lv_at hl 1 rfl) ?_
            refine va_get (D := (dC, dI)) (ci := 11) (v := .ref (pq 13)) (C := RX11) (T := TX11) (N := 63) hx hb hts in_wsX11_isDead_X11 hown hK hP 0 rfl rfl 13 (by decide) (hts (.fieldLink RX11 49 "ShipOfficeModel" "known" "[I") iw_X11_isDead_5) (fun _ h9 => h9) rfl dX11_isDead_62 ?_
            refine lv_iload hx hb dX11_isDead_65 (lv_at hl 0 rfl) ?_
            refine va_iald hx hb hK hP 14 13 rfl rfl (vp_in_iff.mpr (by omega)) dX11_isDead_67 ?_
            refine lv_topi (fun x_23 ex_23 => ?_)
            have gx_23 : x_23.toInt = (fa 13 (y_3 : Int32).toNatClampNeg).toInt := iv_to ex_23
            clear ex_23
            refine lv_iload_n hx hb dX11_isDead_68 rfl (lv_at hl 4 rfl) ?_
            refine lv_icmp_gt (tgt := 85) hx hb dX11_isDead_69 (by decide) (fun c_24 => ?_) (fun c_24 => ?_)
            · have dc_24 := c_lt (a := x3.toInt) (b := x_23.toInt) rfl rfl c_24
              obtain ⟨x_25, ex_25⟩ : ∃ zq : Int32, y_3 + 1 = zq := ⟨_, rfl⟩
              have hx_25 : x_25.toInt = y_3.toInt + 1 := (iv_to ex_25).symm.trans (ad_i rfl (by decide) (by omega) (by omega))
              refine lv_iinc (v := x_25) (lv' := [(4, .int x_25), (0, .ref g0), (1, .int x1), (2, .int x2), (3, .int x3)]) hx hb dX11_isDead_85 hl (k := 0) rfl ex_25 (by decide) rfl (fun ls hl => ?_)
              clear ex_25
              refine lv_goto (tgt := 3) hx hb dX11_isDead_88 (by decide) ?_
              exact ih (n - 1) (by omega) x_25 _ _ ls (by omega) (by omega) (al_s hq0_cut_2 (fun q => by unfold ddP at q; omega) (by omega) (by omega)) hP hS (lv_sub hl [0, 1, 2, 3, 4] rfl)
            · have dc_24 := c_nlt (a := x3.toInt) (b := x_23.toInt) rfl rfl c_24
              refine lv_aload_n hx hb dX11_isDead_72 rfl (lv_at hl 1 rfl) ?_
              refine va_get (D := (dC, dI)) (ci := 11) (v := .ref (pq 12)) (C := RX11) (T := TX11) (N := 63) hx hb hts in_wsX11_isDead_X11 hown hK hP 0 rfl rfl 12 (by decide) (hts (.fieldLink RX11 46 "ShipOfficeModel" "day" "[I") iw_X11_isDead_6) (fun _ h9 => h9) rfl dX11_isDead_73 ?_
              refine lv_iload hx hb dX11_isDead_76 (lv_at hl 0 rfl) ?_
              refine va_iald hx hb hK hP 13 12 rfl rfl (vp_in_iff.mpr (by omega)) dX11_isDead_78 ?_
              refine lv_topi (fun x_26 ex_26 => ?_)
              have hx_26 : 0 ≤ x_26.toInt ∧ x_26.toInt ≤ 3000 := iv_of ex_26 (gA 12 _)
              have gx_26 : x_26.toInt = (fa 12 (y_3 : Int32).toNatClampNeg).toInt := iv_to ex_26
              clear ex_26
              refine lv_iload_n hx hb dX11_isDead_79 rfl (lv_at hl 3 rfl) ?_
              refine lv_icmp_gt (tgt := 85) hx hb dX11_isDead_80 (by decide) (fun c_27 => ?_) (fun c_27 => ?_)
              · have dc_27 := c_lt (a := x2.toInt) (b := x_26.toInt) rfl rfl c_27
                obtain ⟨x_28, ex_28⟩ : ∃ zq : Int32, y_3 + 1 = zq := ⟨_, rfl⟩
                have hx_28 : x_28.toInt = y_3.toInt + 1 := (iv_to ex_28).symm.trans (ad_i rfl (by decide) (by omega) (by omega))
                refine lv_iinc (v := x_28) (lv' := [(4, .int x_28), (0, .ref g0), (1, .int x1), (2, .int x2), (3, .int x3)]) hx hb dX11_isDead_85 hl (k := 0) rfl ex_28 (by decide) rfl (fun ls hl => ?_)
                clear ex_28
                refine lv_goto (tgt := 3) hx hb dX11_isDead_88 (by decide) ?_
                exact ih (n - 1) (by omega) x_28 _ _ ls (by omega) (by omega) (al_s hq0_cut_2 (fun q => by unfold ddP at q; omega) (by omega) (by omega)) hP hS (lv_sub hl [0, 1, 2, 3, 4] rfl)
              · have dc_27 := c_nlt (a := x2.toInt) (b := x_26.toInt) rfl rfl c_27
                refine lv_iconst (v := 1) hx hb dX11_isDead_83 (by decide) ?_
                exact W.zret (v := 1) hx hb hr rfl (fun t ht hW => ⟨⟨1, (), rfl, ⟨(by decide), (b1_t ⟨y_3.toNatClampNeg, ni_lt (by omega) (by omega), by unfold ddP; omega⟩)⟩, trivial⟩, hS.F ht⟩) hS.2.2 dX11_isDead_84
          · have dc_22 := c_ne (a := x_21.toInt) (b := x1.toInt) rfl rfl c_22
            refine lv_aload_n hx hb dX11_isDead_34 rfl (lv_at hl 1 rfl) ?_
            refine va_get (D := (dC, dI)) (ci := 11) (v := .ref (pq 10)) (C := RX11) (T := TX11) (N := 63) hx hb hts in_wsX11_isDead_X11 hown hK hP 0 rfl rfl 10 (by decide) (hts (.fieldLink RX11 40 "ShipOfficeModel" "what" "[I") iw_X11_isDead_2) (fun _ h9 => h9) rfl dX11_isDead_35 ?_
            refine lv_iload hx hb dX11_isDead_38 (lv_at hl 0 rfl) ?_
            refine va_iald hx hb hK hP 11 10 rfl rfl (vp_in_iff.mpr (by omega)) dX11_isDead_40 ?_
            refine lv_topi (fun x_29 ex_29 => ?_)
            have gx_29 : x_29.toInt = (fa 10 (y_3 : Int32).toNatClampNeg).toInt := iv_to ex_29
            clear ex_29
            refine lv_iconst (v := 2) hx hb dX11_isDead_41 (by decide) ?_
            refine lv_icmp_ne (tgt := 85) hx hb dX11_isDead_42 (by decide) (fun c_30 => ?_) (fun c_30 => ?_)
            · have dc_30 := c_ne (a := x_29.toInt) (b := 2) rfl (by decide) c_30
              obtain ⟨x_31, ex_31⟩ : ∃ zq : Int32, y_3 + 1 = zq := ⟨_, rfl⟩
              have hx_31 : x_31.toInt = y_3.toInt + 1 := (iv_to ex_31).symm.trans (ad_i rfl (by decide) (by omega) (by omega))
              refine lv_iinc (v := x_31) (lv' := [(4, .int x_31), (0, .ref g0), (1, .int x1), (2, .int x2), (3, .int x3)]) hx hb dX11_isDead_85 hl (k := 0) rfl ex_31 (by decide) rfl (fun ls hl => ?_)
              clear ex_31
              refine lv_goto (tgt := 3) hx hb dX11_isDead_88 (by decide) ?_
              exact ih (n - 1) (by omega) x_31 _ _ ls (by omega) (by omega) (al_s hq0_cut_2 (fun q => by unfold ddP at q; omega) (by omega) (by omega)) hP hS (lv_sub hl [0, 1, 2, 3, 4] rfl)
            · have dc_30 := c_eq (a := x_29.toInt) (b := 2) rfl (by decide) c_30
              refine lv_aload_n hx hb dX11_isDead_45 rfl (lv_at hl 1 rfl) ?_
              refine va_get (D := (dC, dI)) (ci := 11) (v := .ref (pq 11)) (C := RX11) (T := TX11) (N := 63) hx hb hts in_wsX11_isDead_X11 hown hK hP 0 rfl rfl 11 (by decide) (hts (.fieldLink RX11 43 "ShipOfficeModel" "whose" "[I") iw_X11_isDead_3) (fun _ h9 => h9) rfl dX11_isDead_46 ?_
              refine lv_iload hx hb dX11_isDead_49 (lv_at hl 0 rfl) ?_
              refine va_iald hx hb hK hP 12 11 rfl rfl (vp_in_iff.mpr (by omega)) dX11_isDead_51 ?_
              refine lv_topi (fun x_32 ex_32 => ?_)
              have gx_32 : x_32.toInt = (fa 11 (y_3 : Int32).toNatClampNeg).toInt := iv_to ex_32
              clear ex_32
              refine lv_aload_n hx hb dX11_isDead_52 rfl (lv_at hl 1 rfl) ?_
              refine va_get (D := (dC, dI)) (ci := 11) (v := .ref (pq 21)) (C := RX11) (T := TX11) (N := 63) hx hb hts in_wsX11_isDead_X11 hown hK hP 0 rfl rfl 21 (by decide) (hts (.fieldLink RX11 73 "ShipOfficeModel" "voyage" "[I") iw_X11_isDead_4) (fun _ h9 => h9) rfl dX11_isDead_53 ?_
              refine lv_iload_n hx hb dX11_isDead_56 rfl (lv_at hl 2 rfl) ?_
              refine va_iald hx hb hK hP 22 21 rfl rfl (vp_in_iff.mpr (by omega)) dX11_isDead_57 ?_
              refine lv_topi (fun x_33 ex_33 => ?_)
              have hx_33 : 0 ≤ x_33.toInt ∧ x_33.toInt ≤ 19 := iv_of ex_33 (gA 21 _)
              have gx_33 : x_33.toInt = (fa 21 (x1 : Int32).toNatClampNeg).toInt := iv_to ex_33
              clear ex_33
              refine lv_icmp_ne (tgt := 85) hx hb dX11_isDead_58 (by decide) (fun c_34 => ?_) (fun c_34 => ?_)
              · have dc_34 := c_ne (a := x_32.toInt) (b := x_33.toInt) rfl rfl c_34
                obtain ⟨x_35, ex_35⟩ : ∃ zq : Int32, y_3 + 1 = zq := ⟨_, rfl⟩
                have hx_35 : x_35.toInt = y_3.toInt + 1 := (iv_to ex_35).symm.trans (ad_i rfl (by decide) (by omega) (by omega))
                refine lv_iinc (v := x_35) (lv' := [(4, .int x_35), (0, .ref g0), (1, .int x1), (2, .int x2), (3, .int x3)]) hx hb dX11_isDead_85 hl (k := 0) rfl ex_35 (by decide) rfl (fun ls hl => ?_)
                clear ex_35
                refine lv_goto (tgt := 3) hx hb dX11_isDead_88 (by decide) ?_
                exact ih (n - 1) (by omega) x_35 _ _ ls (by omega) (by omega) (al_s hq0_cut_2 (fun q => by unfold ddP at q; omega) (by omega) (by omega)) hP hS (lv_sub hl [0, 1, 2, 3, 4] rfl)
              · have dc_34 := c_eq (a := x_32.toInt) (b := x_33.toInt) rfl rfl c_34
                refine lv_aload_n hx hb dX11_isDead_61 rfl (lv_at hl 1 rfl) ?_
                refine va_get (D := (dC, dI)) (ci := 11) (v := .ref (pq 13)) (C := RX11) (T := TX11) (N := 63) hx hb hts in_wsX11_isDead_X11 hown hK hP 0 rfl rfl 13 (by decide) (hts (.fieldLink RX11 49 "ShipOfficeModel" "known" "[I") iw_X11_isDead_5) (fun _ h9 => h9) rfl dX11_isDead_62 ?_
                refine lv_iload hx hb dX11_isDead_65 (lv_at hl 0 rfl) ?_
                refine va_iald hx hb hK hP 14 13 rfl rfl (vp_in_iff.mpr (by omega)) dX11_isDead_67 ?_
                refine lv_topi (fun x_36 ex_36 => ?_)
                have gx_36 : x_36.toInt = (fa 13 (y_3 : Int32).toNatClampNeg).toInt := iv_to ex_36
                clear ex_36
                refine lv_iload_n hx hb dX11_isDead_68 rfl (lv_at hl 4 rfl) ?_
                refine lv_icmp_gt (tgt := 85) hx hb dX11_isDead_69 (by decide) (fun c_37 => ?_) (fun c_37 => ?_)
                · have dc_37 := c_lt (a := x3.toInt) (b := x_36.toInt) rfl rfl c_37
                  obtain ⟨x_38, ex_38⟩ : ∃ zq : Int32, y_3 + 1 = zq := ⟨_, rfl⟩
                  have hx_38 : x_38.toInt = y_3.toInt + 1 := (iv_to ex_38).symm.trans (ad_i rfl (by decide) (by omega) (by omega))
                  refine lv_iinc (v := x_38) (lv' := [(4, .int x_38), (0, .ref g0), (1, .int x1), (2, .int x2), (3, .int x3)]) hx hb dX11_isDead_85 hl (k := 0) rfl ex_38 (by decide) rfl (fun ls hl => ?_)
                  clear ex_38
                  refine lv_goto (tgt := 3) hx hb dX11_isDead_88 (by decide) ?_
                  exact ih (n - 1) (by omega) x_38 _ _ ls (by omega) (by omega) (al_s hq0_cut_2 (fun q => by unfold ddP at q; omega) (by omega) (by omega)) hP hS (lv_sub hl [0, 1, 2, 3, 4] rfl)
                · have dc_37 := c_nlt (a := x3.toInt) (b := x_36.toInt) rfl rfl c_37
                  refine lv_aload_n hx hb dX11_isDead_72 rfl (lv_at hl 1 rfl) ?_
                  refine va_get (D := (dC, dI)) (ci := 11) (v := .ref (pq 12)) (C := RX11) (T := TX11) (N := 63) hx hb hts in_wsX11_isDead_X11 hown hK hP 0 rfl rfl 12 (by decide) (hts (.fieldLink RX11 46 "ShipOfficeModel" "day" "[I") iw_X11_isDead_6) (fun _ h9 => h9) rfl dX11_isDead_73 ?_
                  refine lv_iload hx hb dX11_isDead_76 (lv_at hl 0 rfl) ?_
                  refine va_iald hx hb hK hP 13 12 rfl rfl (vp_in_iff.mpr (by omega)) dX11_isDead_78 ?_
                  refine lv_topi (fun x_39 ex_39 => ?_)
                  have hx_39 : 0 ≤ x_39.toInt ∧ x_39.toInt ≤ 3000 := iv_of ex_39 (gA 12 _)
                  have gx_39 : x_39.toInt = (fa 12 (y_3 : Int32).toNatClampNeg).toInt := iv_to ex_39
                  clear ex_39
                  refine lv_iload_n hx hb dX11_isDead_79 rfl (lv_at hl 3 rfl) ?_
                  refine lv_icmp_gt (tgt := 85) hx hb dX11_isDead_80 (by decide) (fun c_40 => ?_) (fun c_40 => ?_)
                  · have dc_40 := c_lt (a := x2.toInt) (b := x_39.toInt) rfl rfl c_40
                    obtain ⟨x_41, ex_41⟩ : ∃ zq : Int32, y_3 + 1 = zq := ⟨_, rfl⟩
                    have hx_41 : x_41.toInt = y_3.toInt + 1 := (iv_to ex_41).symm.trans (ad_i rfl (by decide) (by omega) (by omega))
                    refine lv_iinc (v := x_41) (lv' := [(4, .int x_41), (0, .ref g0), (1, .int x1), (2, .int x2), (3, .int x3)]) hx hb dX11_isDead_85 hl (k := 0) rfl ex_41 (by decide) rfl (fun ls hl => ?_)
                    clear ex_41
                    refine lv_goto (tgt := 3) hx hb dX11_isDead_88 (by decide) ?_
                    exact ih (n - 1) (by omega) x_41 _ _ ls (by omega) (by omega) (al_s hq0_cut_2 (fun q => by unfold ddP at q; omega) (by omega) (by omega)) hP hS (lv_sub hl [0, 1, 2, 3, 4] rfl)
                  · have dc_40 := c_nlt (a := x2.toInt) (b := x_39.toInt) rfl rfl c_40
                    refine lv_iconst (v := 1) hx hb dX11_isDead_83 (by decide) ?_
                    exact W.zret (v := 1) hx hb hr rfl (fun t ht hW => ⟨⟨1, (), rfl, ⟨(by decide), (b1_t ⟨y_3.toNatClampNeg, ni_lt (by omega) (by omega), by unfold ddP; omega⟩)⟩, trivial⟩, hS.F ht⟩) hS.2.2 dX11_isDead_84
  have kc_42 : (0 : Int32).toInt = 0 := by decide
  exact cut_2 201 0 _ _ ls (by omega) (by decide) (al_0 (by decide)) hP hS (lv_sub hl [0, 1, 2, 3, 4] rfl)
set_option maxHeartbeats 4000000 in
set_option maxRecDepth 100000 in
theorem c_X11_hasSailed_f (l : Launch) (dC : Nat → ClassId) (dI : Nat → Nat → Nat) (sz : Nat) (g0 : Nat) (pq : Nat → Nat) (cp : Nat → ClassId) (v : Nat → Int32) (fa : Nat → Nat → Int32) (gV : mV v) (gA : mA fa) (x1 : Int32) (x2 : Int32) (x3 : Int32) : Met l yX11_hasSailed wsX11_hasSailed ({ frames := 1, cells := 0, slots := 0, locals := 23 }) (va_Pc [.ref g0, .int x1, .int x2, .int x3] (pcW (dC, dI) (mT cp) (mW g0 pq cp v fa) sz)) (va_Qi (fun (r : Int32) (u : Unit) => (0 ≤ r.toInt ∧ r.toInt ≤ 1) ∧ (r.toInt = hsO v fa x1.toInt x2.toInt x3.toInt)) (fun _ _ => True) (va_A [] sz)) 0 0 (va_A [] sz) := by
  refine Met.ofW (cc := cX11_hasSailed) (maxL := 5) (ret := (some .boolean)) (by decide) rfl ?_
  intro p e s m args below meth c s₁ B hml hv
  obtain ⟨rfl, hsz, hP, hK, hD0⟩ := hv
  have hx := B.exec
  have hb := B.bytes
  have hr := B.returns
  have hts := atoms_spec (ws := wsX11_hasSailed) B.pre
  have hown : s.vm.findClass RX11 = some m.cls := findClass_of_methodNamed B.named
  have hlocks := B.notSynchronized
  subst hsz
  have hD := hD0
  generalize hAe : va_A [] s.heap.size = A at ⊢
  have hA : ∀ q : Nat, s.heap.size ≤ q → A q := fun q h => by rw [← hAe]; exact Or.inr h
  have hS : va_S A s.heap s.heap [] := va_S.rf
  have hP : va_P (dC, dI) vwCl (mW g0 pq cp v fa) s.heap := hP
  have hl := lv_entry ([.ref g0, .int x1, .int x2, .int x3]) (n := 5) (Nat.le_of_ble_eq_true rfl)
  rw [lg_entry_eq]
  generalize (lg_sl ([.ref g0, .int x1, .int x2, .int x3]) ++ List.replicate (5 - (lg_sl ([.ref g0, .int x1, .int x2, .int x3])).length) Slot.unset).toArray = ls at hl ⊢
  have hl : lv_has ls 5 [(0, .ref g0), (1, .int x1), (2, .int x2), (3, .int x3)] := hl
  refine lv_aload_n hx hb dX11_hasSailed_0 rfl (lv_at hl 0 rfl) ?_
  refine lv_iload_n hx hb dX11_hasSailed_1 rfl (lv_at hl 1 rfl) ?_
  refine lv_iload_n hx hb dX11_hasSailed_2 rfl (lv_at hl 3 rfl) ?_
  have hFc : ∀ q, va_A [] s.heap.size q → A q := pu_free hS hA
  refine va_calli (va_runV (As := [.int x1, .int x3]) (rest := []) ⟨hx, hb, hml, hown, hts⟩ (c_X11_sailedOn_f l dC dI s.heap.size g0 pq cp v fa gV gA x1 x3) (cwV 2 hts gX11_hasSailed_X11_sailedOn rfl rfl rfl (by decide +kernel) ⟨(Nat.le_of_ble_eq_true rfl), (Nat.le_of_ble_eq_true rfl)⟩) (pr_V (r := (RX11, TX11, 63)) hP hK hD 0 11 rfl rfl) rfl rfl hl.1 rfl (lv_room (Nat.le_of_ble_eq_true rfl)) dX11_hasSailed_3 ⟨(Nat.le_of_ble_eq_true rfl), (Nat.le_of_ble_eq_true rfl)⟩) hS (fun q _ h => hFc q h) hFc (fun r_2 u t H locs ht hvm w_1 hB hz1 hk1 hS => ?_)
  have hP := pu_keep hP hk1
  clear hk1 hz1 hvm hB ht hFc
  obtain ⟨hb_3, hx_4⟩ := w_1
  refine lv_istore (lv' := [(4, .int r_2), (0, .ref g0), (1, .int x1), (2, .int x2), (3, .int x3)]) hx hb dX11_hasSailed_6 hl (by decide) rfl (fun ls hl => ?_)
  refine lv_iload hx hb dX11_hasSailed_8 (lv_at hl 0 rfl) ?_
  refine lv_if_lt (tgt := 23) hx hb dX11_hasSailed_10 (by decide) (fun c_5 => ?_) (fun c_5 => ?_)
  · have dc_5 := c_lt (a := r_2.toInt) (b := 0) rfl (by decide) c_5
    refine lv_iconst (v := 0) hx hb dX11_hasSailed_23 (by decide) ?_
    exact W.zret (v := 0) hx hb hr rfl (fun t ht hW => ⟨⟨0, (), rfl, ⟨(by decide), (by have rc : (0 : Int32).toInt = 0 := (by decide); unfold hsO; repeat (first | rw [if_pos (by omega)] | rw [if_neg (by omega)]); omega)⟩, trivial⟩, hS.F ht⟩) hS.2.2 dX11_hasSailed_24
  · have dc_5 := c_nlt (a := r_2.toInt) (b := 0) rfl (by decide) c_5
    refine lv_iload hx hb dX11_hasSailed_13 (lv_at hl 0 rfl) ?_
    refine lv_iload_n hx hb dX11_hasSailed_15 rfl (lv_at hl 3 rfl) ?_
    refine lv_icmp_gt (tgt := 23) hx hb dX11_hasSailed_16 (by decide) (fun c_6 => ?_) (fun c_6 => ?_)
    · have dc_6 := c_lt (a := x2.toInt) (b := r_2.toInt) rfl rfl c_6
      refine lv_iconst (v := 0) hx hb dX11_hasSailed_23 (by decide) ?_
      exact W.zret (v := 0) hx hb hr rfl (fun t ht hW => ⟨⟨0, (), rfl, ⟨(by decide), (by have rc : (0 : Int32).toInt = 0 := (by decide); unfold hsO; repeat (first | rw [if_pos (by omega)] | rw [if_neg (by omega)]); omega)⟩, trivial⟩, hS.F ht⟩) hS.2.2 dX11_hasSailed_24
    · have dc_6 := c_nlt (a := x2.toInt) (b := r_2.toInt) rfl rfl c_6
      refine lv_iconst (v := 1) hx hb dX11_hasSailed_19 (by decide) ?_
      refine lv_goto (tgt := 24) hx hb dX11_hasSailed_20 (by decide) ?_
      exact W.zret (v := 1) hx hb hr rfl (fun t ht hW => ⟨⟨1, (), rfl, ⟨(by decide), (by have rc : (1 : Int32).toInt = 1 := (by decide); unfold hsO; repeat (first | rw [if_pos (by omega)] | rw [if_neg (by omega)]); omega)⟩, trivial⟩, hS.F ht⟩) hS.2.2 dX11_hasSailed_24
