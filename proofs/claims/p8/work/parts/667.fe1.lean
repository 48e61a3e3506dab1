


set_option maxHeartbeats 4000000 in
set_option maxRecDepth 100000 in
/-- refuse(co), with the number of refusals -/
theorem c_X11_refuse_f (l : Launch) (dC : Nat → ClassId) (dI : Nat → Nat → Nat) (sz : Nat) (g0 : Nat) (pq : Nat → Nat) (cp : Nat → ClassId) (v : Nat → Int32) (fa : Nat → Nat → Int32) (co : Int32) (hc : vp_in (-co) 7) : Met l yX11_refuse wsX11_refuse ({ frames := 0, cells := 0, slots := 0, locals := 0 }) (va_Pc [.ref g0, .int co] (pcW (dC, dI) (mT cp) (mW g0 pq cp v fa) sz)) (va_Qi (fun (r : Int32) (u : (Nat → Int32) × (Nat → Nat → Int32)) => r = co ∧ sm1 v fa u co) (fun u t => va_P (dC, dI) vwCl (mW g0 pq cp u.1 u.2) t.heap ∧ va_K (dC, dI) vwCl (mT cp) t ∧ va_D (va_A (mW g0 pq cp v fa) sz) (mW g0 pq cp u.1 u.2)) (va_A (mW g0 pq cp v fa) sz)) 0 0 (va_A (mW g0 pq cp v fa) sz) := by
  refine Met.ofW (cc := cX11_refuse) (maxL := 2) (ret := (some .int)) (by decide +kernel) rfl ?_
  intro p e s m args below meth c s₁ B hml hv
  obtain ⟨rfl, hsz, hP, hK, hD0⟩ := hv
  have hx := B.exec
  have hb := B.bytes
  have hr := B.returns
  have hts := atoms_spec (ws := wsX11_refuse) B.pre
  have hown : s.vm.findClass RX11 = some m.cls := findClass_of_methodNamed B.named
  have hlocks := B.notSynchronized
  subst hsz
  have hD := hD0.self (sz := s.heap.size)
  generalize hAe : va_A (mW g0 pq cp v fa) s.heap.size = A at hD ⊢
  have hA : ∀ q : Nat, s.heap.size ≤ q → A q := fun q h => by rw [← hAe]; exact Or.inr h
  have hS : va_S A s.heap s.heap [] := va_S.rf
  have hP : va_P (dC, dI) vwCl (mW g0 pq cp v fa) s.heap := hP
  have hl := lv_entry ([.ref g0, .int co]) (n := 2) (Nat.le_of_ble_eq_true rfl)
  rw [lg_entry_eq]
  generalize (lg_sl ([.ref g0, .int co]) ++ List.replicate (2 - (lg_sl ([.ref g0, .int co])).length) Slot.unset).toArray = ls at hl ⊢
  have hl : lv_has ls 2 [(0, .ref g0), (1, .int co)] := hl
  refine lv_aload_n hx hb dX11_refuse_0 rfl (lv_at hl 0 rfl) ?_
  refine va_get (D := (dC, dI)) (ci := 11) (v := .ref (pq 0)) (C := RX11) (T := TX11) (N := 63) hx hb hts in_wsX11_refuse_X11 hown hK hP 0 rfl rfl 0 (by decide +kernel) (hts (.fieldLink RX11 7 "ShipOfficeModel" "refusals" "[I") iw_X11_refuse_1) (fun _ h9 => h9) rfl dX11_refuse_1 ?_
  refine lv_iload_n hx hb dX11_refuse_4 rfl (lv_at hl 1 rfl) ?_
  refine lv_ineg hx hb dX11_refuse_5 ?_
  refine lv_dup2_11 hx hb dX11_refuse_6 rfl rfl ?_
  refine va_iald hx hb hK hP 1 0 rfl rfl hc dX11_refuse_7 ?_
  refine lv_iconst (v := 1) hx hb dX11_refuse_8 (by decide +kernel) ?_
  refine lv_iadd hx hb dX11_refuse_9 ?_
  refine va_iast hx hb hK hP hD hS 1 0 rfl rfl hc dX11_refuse_10 (fun H locs hP hD hS => ?_)
  have hP : va_P (dC, dI) vwCl (mW g0 pq cp v (upF fa 0 (-co : Int32).toNatClampNeg ((fa 0 (-co : Int32).toNatClampNeg) + 1))) H := hP
  have hD : va_D A (mW g0 pq cp v (upF fa 0 (-co : Int32).toNatClampNeg ((fa 0 (-co : Int32).toNatClampNeg) + 1))) := hD
  refine lv_iload_n hx hb dX11_refuse_11 rfl (lv_at hl 1 rfl) ?_
  exact W.iret (v := co) hx hb hr (fun t ht hW => ⟨⟨co, (v, (upF fa 0 (-co : Int32).toNatClampNeg ((fa 0 (-co : Int32).toNatClampNeg) + 1))), rfl, ⟨rfl, rfl, rfl⟩, ⟨by rw [ht]; exact hP, va_K.moved hW.alike hK, hD⟩⟩, hS.F ht⟩) hS.2.2 dX11_refuse_12
set_option maxHeartbeats 4000000 in
set_option maxRecDepth 100000 in
theorem c_X11_wasTold_f (l : Launch) (dC : Nat → ClassId) (dI : Nat → Nat → Nat) (sz : Nat) (g0 : Nat) (pq : Nat → Nat) (cp : Nat → ClassId) (v : Nat → Int32) (fa : Nat → Nat → Int32) (gV : mV v) (gA : mA fa) (x1 : Int32) (x2 : Int32) : Met l yX11_wasTold wsX11_wasTold ({ frames := 0, cells := 0, slots := 0, locals := 0 }) (va_Pc [.ref g0, .int x1, .int x2] (pcW (dC, dI) (mT cp) (mW g0 pq cp v fa) sz)) (va_Qi (fun (r : Int32) (u : Unit) => (0 ≤ r.toInt ∧ r.toInt ≤ 1) ∧ (r.toInt = tldI v fa x1.toInt x2.toInt)) (fun _ _ => True) (va_A [] sz)) 0 0 (va_A [] sz) := by
  refine Met.ofW (cc := cX11_wasTold) (maxL := 4) (ret := (some .boolean)) (by decide +kernel) rfl ?_
  intro p e s m args below meth c s₁ B hml hv
  obtain ⟨rfl, hsz, hP, hK, hD0⟩ := hv
  have hx := B.exec
  have hb := B.bytes
  have hr := B.returns
  have hts := atoms_spec (ws := wsX11_wasTold) B.pre
  have hown : s.vm.findClass RX11 = some m.cls := findClass_of_methodNamed B.named
  have hlocks := B.notSynchronized
  subst hsz
  have hD := hD0
  generalize hAe : va_A [] s.heap.size = A at ⊢
  have hA : ∀ q : Nat, s.heap.size ≤ q → A q := fun q h => by rw [← hAe]; exact Or.inr h
  have hS : va_S A s.heap s.heap [] := va_S.rf
  have hP : va_P (dC, dI) vwCl (mW g0 pq cp v fa) s.heap := hP
  have hl := lv_entry ([.ref g0, .int x1, .int x2]) (n := 4) (Nat.le_of_ble_eq_true rfl)
  rw [lg_entry_eq]
  generalize (lg_sl ([.ref g0, .int x1, .int x2]) ++ List.replicate (4 - (lg_sl ([.ref g0, .int x1, .int x2])).length) Slot.unset).toArray = ls at hl ⊢
  have hl : lv_has ls 4 [(0, .ref g0), (1, .int x1), (2, .int x2)] := hl
  have iv_1 : 0 ≤ (v 41).toInt ∧ (v 41).toInt ≤ 200 := gV 41
  refine lv_iconst (v := 0) hx hb dX11_wasTold_0 (by decide +kernel) ?_
  refine lv_istore_n (lv' := [(3, .int 0), (0, .ref g0), (1, .int x1), (2, .int x2)]) hx hb dX11_wasTold_1 rfl hl (by decide +kernel) rfl (fun ls hl => ?_)
  have cut_2 : ∀ (n : Nat) (y_3 : Int32) (H : Heap) (locs : List Loc) (ls : Array Slot), 200 - y_3.toInt ≤ (n : Int) → (0 ≤ y_3.toInt ∧ y_3.toInt ≤ 200) → (∀ j, j < y_3.toNatClampNeg → ¬ ((fa 10 j).toInt = x1.toInt ∧ (fa 11 j).toInt = x2.toInt)) → va_P (dC, dI) vwCl (mW g0 pq cp v fa) H → va_S A s.heap H locs → lv_has ls 4 [(3, .int y_3), (0, .ref g0), (1, .int x1), (2, .int x2)] → W p l e (headSpec wsX11_wasTold { frames := 0, cells := 0, slots := 0, locals := 0 }).room s m #[Value.ref g0, Value.int x1, Value.int x2] below meth c H locs 0 0 (MQ below (va_Qi (fun (r : Int32) (u : Unit) => (0 ≤ r.toInt ∧ r.toInt ≤ 1) ∧ (r.toInt = tldI v fa x1.toInt x2.toInt)) (fun _ _ => True) A) #[Value.ref g0, Value.int x1, Value.int x2] s 0 0 A) (F0 m 2 ls []) := by
    intro n
    induction n using Nat.strongRecOn with
    | ind n ih =>
      intro y_3 H locs ls hm hy_3 hq0_cut_2 hP hS hl
      refine lv_iload_n hx hb dX11_wasTold_2 rfl (lv_at hl 0 rfl) ?_
      refine lv_aload_n hx hb dX11_wasTold_3 rfl (lv_at hl 1 rfl) ?_
      refine va_get (D := (dC, dI)) (ci := 11) (v := .int (v 41)) (C := RX11) (T := TX11) (N := 63) hx hb hts in_wsX11_wasTold_X11 hown hK hP 0 rfl rfl 41 (by decide +kernel) (hts (.fieldLink RX11 179 "ShipOfficeModel" "happened" "I") iw_X11_wasTold_1) (fun _ h9 => h9) rfl dX11_wasTold_4 ?_
      refine lv_topi (fun x_4 ex_4 => ?_)
      have hx_4 : 0 ≤ x_4.toInt ∧ x_4.toInt ≤ 200 := iv_of ex_4 (gV 41)
      have gx_4 : x_4.toInt = (v 41).toInt := iv_to ex_4
      clear ex_4
      refine lv_icmp_ge (tgt := 38) hx hb dX11_wasTold_7 (by decide +kernel) (fun c_5 => ?_) (fun c_5 => ?_)
      · have dc_5 := c_le (a := x_4.toInt) (b := y_3.toInt) rfl rfl c_5
        refine lv_iconst (v := 0) hx hb dX11_wasTold_38 (by decide +kernel) ?_
        exact W.zret (v := 0) hx hb hr rfl (fun t ht hW => ⟨⟨0, (), rfl, ⟨(by decide +kernel), (b1_f (fun ⟨j, hj, hp⟩ => al_e hq0_cut_2 (by omega) j hj hp))⟩, trivial⟩, hS.F ht⟩) hS.2.2 dX11_wasTold_39
      · have dc_5 := c_nle (a := x_4.toInt) (b := y_3.toInt) rfl rfl c_5
        refine lv_aload_n hx hb dX11_wasTold_10 rfl (lv_at hl 1 rfl) ?_
        refine va_get (D := (dC, dI)) (ci := 11) (v := .ref (pq 10)) (C := RX11) (T := TX11) (N := 63) hx hb hts in_wsX11_wasTold_X11 hown hK hP 0 rfl rfl 10 (by decide +kernel) (hts (.fieldLink RX11 40 "ShipOfficeModel" "what" "[I") iw_X11_wasTold_2) (fun _ h9 => h9) rfl dX11_wasTold_11 ?_
        refine lv_iload_n hx hb dX11_wasTold_14 rfl (lv_at hl 0 rfl) ?_
        refine va_iald hx hb hK hP 11 10 rfl rfl (vp_in_iff.mpr (by omega)) dX11_wasTold_15 ?_
        refine lv_topi (fun x_6 ex_6 => ?_)
        have gx_6 : x_6.toInt = (fa 10 (y_3 : Int32).toNatClampNeg).toInt := iv_to ex_6
        clear ex_6
        refine lv_iload_n hx hb dX11_wasTold_16 rfl (lv_at hl 2 rfl) ?_
        refine lv_icmp_ne (tgt := 32) hx hb dX11_wasTold_17 (by decide +kernel) (fun c_7 => ?_) (fun c_7 => ?_)
        · have dc_7 := c_ne (a := x_6.toInt) (b := x1.toInt) rfl rfl c_7
          obtain ⟨x_8, ex_8⟩ : ∃ zq : Int32, y_3 + 1 = zq := ⟨_, rfl⟩
          have hx_8 : x_8.toInt = y_3.toInt + 1 := (iv_to ex_8).symm.trans (ad_i rfl (by decide +kernel) (by omega) (by omega))
          refine lv_iinc (v := x_8) (lv' := [(3, .int x_8), (0, .ref g0), (1, .int x1), (2, .int x2)]) hx hb dX11_wasTold_32 hl (k := 0) rfl ex_8 (by decide +kernel) rfl (fun ls hl => ?_)
          clear ex_8
          refine lv_goto (tgt := 2) hx hb dX11_wasTold_35 (by decide +kernel) ?_
          exact ih (n - 1) (by omega) x_8 _ _ ls (by omega) (by omega) (al_s hq0_cut_2 (fun q => by omega) (by omega) (by omega)) hP hS (lv_sub hl [0, 1, 2, 3] rfl)
        · have dc_7 := c_eq (a := x_6.toInt) (b := x1.toInt) rfl rfl c_7
          refine lv_aload_n hx hb dX11_wasTold_20 rfl (lv_at hl 1 rfl) ?_
          refine va_get (D := (dC, dI)) (ci := 11) (v := .ref (pq 11)) (C := RX11) (T := TX11) (N := 63) hx hb hts in_wsX11_wasTold_X11 hown hK hP 0 rfl rfl 11 (by decide +kernel) (hts (.fieldLink RX11 43 "ShipOfficeModel" "whose" "[I") iw_X11_wasTold_3) (fun _ h9 => h9) rfl dX11_wasTold_21 ?_
          refine lv_iload_n hx hb dX11_wasTold_24 rfl (lv_at hl 0 rfl) ?_
          refine va_iald hx hb hK hP 12 11 rfl rfl (vp_in_iff.mpr (by omega)) dX11_wasTold_25 ?_
          refine lv_topi (fun x_9 ex_9 => ?_)
          have gx_9 : x_9.toInt = (fa 11 (y_3 : Int32).toNatClampNeg).toInt := iv_to ex_9
          clear ex_9
          refine lv_iload_n hx hb dX11_wasTold_26 rfl (lv_at hl 3 rfl) ?_
          refine lv_icmp_ne (tgt := 32) hx hb dX11_wasTold_27 (by decide +kernel) (fun c_10 => ?_) (fun c_10 => ?_)
          · have dc_10 := c_ne (a := x_9.toInt) (b := x2.toInt) rfl rfl c_10
            obtain ⟨x_11, ex_11⟩ : ∃ zq : Int32, y_3 + 1 = zq := ⟨_, rfl⟩
            have hx_11 : x_11.toInt = y_3.toInt + 1 := (iv_to ex_11).symm.trans (ad_i rfl (by decide +kernel) (by omega) (by omega))
            refine lv_iinc (v := x_11) (lv' := [(3, .int x_11), (0, .ref g0), (1, .int x1), (2, .int x2)]) hx hb dX11_wasTold_32 hl (k := 0) rfl ex_11 (by decide +kernel) rfl (fun ls hl => ?_)
            clear ex_11
            refine lv_goto (tgt := 2) hx hb dX11_wasTold_35 (by decide +kernel) ?_
            exact ih (n - 1) (by omega) x_11 _ _ ls (by omega) (by omega) (al_s hq0_cut_2 (fun q => by omega) (by omega) (by omega)) hP hS (lv_sub hl [0, 1, 2, 3] rfl)
          · have dc_10 := c_eq (a := x_9.toInt) (b := x2.toInt) rfl rfl c_10
            refine lv_iconst (v := 1) hx hb dX11_wasTold_30 (by decide +kernel) ?_
            exact W.zret (v := 1) hx hb hr rfl (fun t ht hW => ⟨⟨1, (), rfl, ⟨(by decide +kernel), (b1_t ⟨y_3.toNatClampNeg, ni_lt (by omega) (by omega), ⟨by omega, by omega⟩⟩)⟩, trivial⟩, hS.F ht⟩) hS.2.2 dX11_wasTold_31
  have kc_12 : (0 : Int32).toInt = 0 := by decide
  exact cut_2 201 0 _ _ ls (by omega) (by decide +kernel) (al_0 (by decide +kernel)) hP hS (lv_sub hl [0, 1, 2, 3] rfl)
set_option maxHeartbeats 4000000 in
set_option maxRecDepth 100000 in
theorem c_X11_goesOn_f (l : Launch) (dC : Nat → ClassId) (dI : Nat → Nat → Nat) (sz : Nat) (g0 : Nat) (pq : Nat → Nat) (cp : Nat → ClassId) (v : Nat → Int32) (fa : Nat → Nat → Int32) (gV : mV v) (gA : mA fa) (x1 : Int32) (hx1 : 0 ≤ x1.toInt ∧ x1.toInt ≤ 59) : Met l yX11_goesOn wsX11_goesOn ({ frames := 1, cells := 0, slots := 0, locals := 23 }) (va_Pc [.ref g0, .int x1] (pcW (dC, dI) (mT cp) (mW g0 pq cp v fa) sz)) (va_Qi (fun (r : Int32) (u : Unit) => (0 ≤ r.toInt ∧ r.toInt ≤ 1) ∧ (r.toInt = gonI v fa x1.toNatClampNeg)) (fun _ _ => True) (va_A [] sz)) 0 0 (va_A [] sz) := by
  refine Met.ofW (cc := cX11_goesOn) (maxL := 2) (ret := (some .boolean)) (by decide +kernel) rfl ?_
  intro p e s m args below meth c s₁ B hml hv
  obtain ⟨rfl, hsz, hP, hK, hD0⟩ := hv
  have hx := B.exec
  have hb := B.bytes
  have hr := B.returns
  have hts := atoms_spec (ws := wsX11_goesOn) B.pre
  have hown : s.vm.findClass RX11 = some m.cls := findClass_of_methodNamed B.named
  have hlocks := B.notSynchronized
  subst hsz
  have hD := hD0
  generalize hAe : va_A [] s.heap.size = A at ⊢
  have hA : ∀ q : Nat, s.heap.size ≤ q → A q := fun q h => by rw [← hAe]; exact Or.inr h
  have hS : va_S A s.heap s.heap [] := va_S.rf
  have hP : va_P (dC, dI) vwCl (mW g0 pq cp v fa) s.heap := hP
  have hl := lv_entry ([.ref g0, .int x1]) (n := 2) (Nat.le_of_ble_eq_true rfl)
  rw [lg_entry_eq]
  generalize (lg_sl ([.ref g0, .int x1]) ++ List.replicate (2 - (lg_sl ([.ref g0, .int x1])).length) Slot.unset).toArray = ls at hl ⊢
  have hl : lv_has ls 2 [(0, .ref g0), (1, .int x1)] := hl
  refine lv_aload_n hx hb dX11_goesOn_0 rfl (lv_at hl 0 rfl) ?_
  refine va_get (D := (dC, dI)) (ci := 11) (v := .ref (pq 26)) (C := RX11) (T := TX11) (N := 63) hx hb hts in_wsX11_goesOn_X11 hown hK hP 0 rfl rfl 26 (by decide +kernel) (hts (.fieldLink RX11 88 "ShipOfficeModel" "offOn" "[I") iw_X11_goesOn_1) (fun _ h9 => h9) rfl dX11_goesOn_1 ?_
  refine lv_iload_n hx hb dX11_goesOn_4 rfl (lv_at hl 1 rfl) ?_
  refine va_iald hx hb hK hP 27 26 rfl rfl (vp_in_iff.mpr (by omega)) dX11_goesOn_5 ?_
  refine lv_topi (fun x_1 ex_1 => ?_)
  have gx_1 : x_1.toInt = (fa 26 (x1 : Int32).toNatClampNeg).toInt := iv_to ex_1
  clear ex_1
  refine lv_if_ge (tgt := 36) hx hb dX11_goesOn_6 (by decide +kernel) (fun c_2 => ?_) (fun c_2 => ?_)
  · have dc_2 := c_le (a := 0) (b := x_1.toInt) (by decide +kernel) rfl c_2
    refine lv_iconst (v := 0) hx hb dX11_goesOn_36 (by decide +kernel) ?_
    exact W.zret (v := 0) hx hb hr rfl (fun t ht hW => ⟨⟨0, (), rfl, ⟨(by decide +kernel), (by have rc : (0 : Int32).toInt = 0 := (by decide +kernel); have n1 : ((x1.toNatClampNeg : Nat) : Int) = x1.toInt := tn_i (by omega); unfold gonI; simp only [n1]; repeat (first | rw [if_pos (by omega)] | rw [if_neg (by omega)]); omega)⟩, trivial⟩, hS.F ht⟩) hS.2.2 dX11_goesOn_37
  · have dc_2 := c_nle (a := 0) (b := x_1.toInt) (by decide +kernel) rfl c_2
    refine lv_aload_n hx hb dX11_goesOn_9 rfl (lv_at hl 0 rfl) ?_
    refine lv_iconst (v := 4) hx hb dX11_goesOn_10 (by decide +kernel) ?_
    refine lv_iload_n hx hb dX11_goesOn_11 rfl (lv_at hl 1 rfl) ?_
    have hFc : ∀ q, va_A [] s.heap.size q → A q := pu_free hS hA
    refine va_calli (va_runV (As := [.int 4, .int x1]) (rest := []) ⟨hx, hb, hml, hown, hts⟩ (c_X11_wasTold_f l dC dI s.heap.size g0 pq cp v fa gV gA 4 x1) (cwV 2 hts gX11_goesOn_X11_wasTold rfl rfl rfl (by decide +kernel) ⟨(Nat.le_of_ble_eq_true rfl), (Nat.le_of_ble_eq_true rfl)⟩) (pr_V (r := (RX11, TX11, 63)) hP hK hD 0 11 rfl rfl) rfl rfl hl.1 rfl (lv_room (Nat.le_of_ble_eq_true rfl)) dX11_goesOn_12 ⟨(Nat.le_of_ble_eq_true rfl), (Nat.le_of_ble_eq_true rfl)⟩) hS (fun q _ h => hFc q h) hFc (fun r_4 u t H locs ht hvm w_3 hB hz1 hk1 hS => ?_)
    have hP := pu_keep hP hk1
    clear hk1 hz1 hvm hB ht hFc
    obtain ⟨hb_5, hx_6⟩ := w_3
    try rw [show (4 : Int32).toInt = 4 from (by decide +kernel)] at hx_6
    refine lv_if_ne (tgt := 36) hx hb dX11_goesOn_15 (by decide +kernel) (fun c_7 => ?_) (fun c_7 => ?_)
    · have dc_7 := c_ne (a := r_4.toInt) (b := 0) rfl (by decide +kernel) c_7
      refine lv_iconst (v := 0) hx hb dX11_goesOn_36 (by decide +kernel) ?_
      exact W.zret (v := 0) hx hb hr rfl (fun t ht hW => ⟨⟨0, (), rfl, ⟨(by decide +kernel), (by have rc : (0 : Int32).toInt = 0 := (by decide +kernel); have n1 : ((x1.toNatClampNeg : Nat) : Int) = x1.toInt := tn_i (by omega); unfold gonI; simp only [n1]; repeat (first | rw [if_pos (by omega)] | rw [if_neg (by omega)]); omega)⟩, trivial⟩, hS.F ht⟩) hS.2.2 dX11_goesOn_37
    · have dc_7 := c_eq (a := r_4.toInt) (b := 0) rfl (by decide +kernel) c_7
      refine lv_aload_n hx hb dX11_goesOn_18 rfl (lv_at hl 0 rfl) ?_
      refine lv_iconst (v := 2) hx hb dX11_goesOn_19 (by decide +kernel) ?_
      refine lv_aload_n hx hb dX11_goesOn_20 rfl (lv_at hl 0 rfl) ?_
      refine va_get (D := (dC, dI)) (ci := 11) (v := .ref (pq 21)) (C := RX11) (T := TX11) (N := 63) hx hb hts in_wsX11_goesOn_X11 hown hK hP 0 rfl rfl 21 (by decide +kernel) (hts (.fieldLink RX11 73 "ShipOfficeModel" "voyage" "[I") iw_X11_goesOn_2) (fun _ h9 => h9) rfl dX11_goesOn_21 ?_
      refine lv_iload_n hx hb dX11_goesOn_24 rfl (lv_at hl 1 rfl) ?_
      refine va_iald hx hb hK hP 22 21 rfl rfl (vp_in_iff.mpr (by omega)) dX11_goesOn_25 ?_
      refine lv_topi (fun x_8 ex_8 => ?_)
      have hx_8 : 0 ≤ x_8.toInt ∧ x_8.toInt ≤ 19 := iv_of ex_8 (gA 21 _)
      have gx_8 : x_8.toInt = (fa 21 (x1 : Int32).toNatClampNeg).toInt := iv_to ex_8
      clear ex_8
      have hFc : ∀ q, va_A [] H.size q → A q := pu_free hS hA
      refine va_calli (va_runV (As := [.int 2, .int x_8]) (rest := []) ⟨hx, hb, hml, hown, hts⟩ (c_X11_wasTold_f l dC dI H.size g0 pq cp v fa gV gA 2 x_8) (cwV 2 hts gX11_goesOn_X11_wasTold rfl rfl rfl (by decide +kernel) ⟨(Nat.le_of_ble_eq_true rfl), (Nat.le_of_ble_eq_true rfl)⟩) (pr_V (r := (RX11, TX11, 63)) hP hK hD 0 11 rfl rfl) rfl rfl hl.1 rfl (lv_room (Nat.le_of_ble_eq_true rfl)) dX11_goesOn_26 ⟨(Nat.le_of_ble_eq_true rfl), (Nat.le_of_ble_eq_true rfl)⟩) hS (fun q _ h => hFc q h) hFc (fun r_10 u t H locs ht hvm w_9 hB hz1 hk1 hS => ?_)
      have hP := pu_keep hP hk1
      clear hk1 hz1 hvm hB ht hFc
      obtain ⟨hb_11, hx_12⟩ := w_9
      try rw [show (2 : Int32).toInt = 2 from (by decide +kernel)] at hx_12
      try rw [gx_8] at hx_12
      refine lv_if_ne (tgt := 36) hx hb dX11_goesOn_29 (by decide +kernel) (fun c_13 => ?_) (fun c_13 => ?_)
      · have dc_13 := c_ne (a := r_10.toInt) (b := 0) rfl (by decide +kernel) c_13
        refine lv_iconst (v := 0) hx hb dX11_goesOn_36 (by decide +kernel) ?_
        exact W.zret (v := 0) hx hb hr rfl (fun t ht hW => ⟨⟨0, (), rfl, ⟨(by decide +kernel), (by have rc : (0 : Int32).toInt = 0 := (by decide +kernel); have n1 : ((x1.toNatClampNeg : Nat) : Int) = x1.toInt := tn_i (by omega); unfold gonI; simp only [n1]; repeat (first | rw [if_pos (by omega)] | rw [if_neg (by omega)]); omega)⟩, trivial⟩, hS.F ht⟩) hS.2.2 dX11_goesOn_37
      · have dc_13 := c_eq (a := r_10.toInt) (b := 0) rfl (by decide +kernel) c_13
        refine lv_iconst (v := 1) hx hb dX11_goesOn_32 (by decide +kernel) ?_
        refine lv_goto (tgt := 37) hx hb dX11_goesOn_33 (by decide +kernel) ?_
        exact W.zret (v := 1) hx hb hr rfl (fun t ht hW => ⟨⟨1, (), rfl, ⟨(by decide +kernel), (by have rc : (1 : Int32).toInt = 1 := (by decide +kernel); have n1 : ((x1.toNatClampNeg : Nat) : Int) = x1.toInt := tn_i (by omega); unfold gonI; simp only [n1]; repeat (first | rw [if_pos (by omega)] | rw [if_neg (by omega)]); omega)⟩, trivial⟩, hS.F ht⟩) hS.2.2 dX11_goesOn_37