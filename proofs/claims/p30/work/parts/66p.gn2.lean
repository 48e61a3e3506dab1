


theorem nn_lt {x y : Int32} (h0 : 0 ≤ x.toInt) (h : x.toInt < y.toInt) : x.toNatClampNeg < y.toNatClampNeg := show x.toInt.toNat < y.toInt.toNat by omega
set_option maxHeartbeats 4000000 in
set_option maxRecDepth 100000 in
theorem c_X11_findGroups_f (l : Launch) (dC : Nat → ClassId) (dI : Nat → Nat → Nat) (sz : Nat) (g0 : Nat) (pq : Nat → Nat) (cp : Nat → ClassId) (v : Nat → Int32) (fa : Nat → Nat → Int32) (gV : mV v) (gA : mA fa) (hMk : mkB fa) : Met l yX11_findGroups wsX11_findGroups ({ frames := 1, cells := 0, slots := 0, locals := 26 }) (va_Pc [.ref g0] (pcW (dC, dI) (mT cp) (mW g0 pq cp v fa) sz)) (va_Qv (fun (u : (Nat → Int32) × (Nat → Nat → Int32)) => mV u.1 ∧ mA u.2 ∧ scr v fa u.1 u.2 ∧ (lab (gE (alF fa) (v 39).toNatClampNeg) (v 39).toNatClampNeg (gpF u.2))) (fun u t => va_P (dC, dI) vwCl (mW g0 pq cp u.1 u.2) t.heap ∧ va_K (dC, dI) vwCl (mT cp) t ∧ va_D (va_A (mW g0 pq cp v fa) sz) (mW g0 pq cp u.1 u.2)) (va_A (mW g0 pq cp v fa) sz)) 0 0 (va_A (mW g0 pq cp v fa) sz) := by
  refine Met.ofW (cc := cX11_findGroups) (maxL := 4) (ret := none) (by decide) rfl ?_
  intro p e s m args below meth c s₁ B hml hv
  obtain ⟨rfl, hsz, hP, hK, hD0⟩ := hv
  have hx := B.exec
  have hb := B.bytes
  have hr := B.returns
  have hts := atoms_spec (ws := wsX11_findGroups) B.pre
  have hown : s.vm.findClass RX11 = some m.cls := findClass_of_methodNamed B.named
  have hlocks := B.notSynchronized
  subst hsz
  have hD := hD0.self (sz := s.heap.size)
  generalize hAe : va_A (mW g0 pq cp v fa) s.heap.size = A at hD ⊢
  have hA : ∀ q : Nat, s.heap.size ≤ q → A q := fun q h => by rw [← hAe]; exact Or.inr h
  have hS : va_S A s.heap s.heap [] := va_S.rf
  have hP : va_P (dC, dI) vwCl (mW g0 pq cp v fa) s.heap := hP
  have hl := lv_entry ([.ref g0]) (n := 4) (Nat.le_of_ble_eq_true rfl)
  rw [lg_entry_eq]
  generalize (lg_sl ([.ref g0]) ++ List.replicate (4 - (lg_sl ([.ref g0])).length) Slot.unset).toArray = ls at hl ⊢
  have hl : lv_has ls 4 [(0, .ref g0)] := hl
  have iv_1 : 0 ≤ (v 39).toInt ∧ (v 39).toInt ≤ 40 := gV 39
  refine lv_iconst (v := 0) hx hb dX11_findGroups_0 (by decide) ?_
  refine lv_istore_n (lv' := [(1, .int 0), (0, .ref g0)]) hx hb dX11_findGroups_1 rfl hl (by decide) rfl (fun ls hl => ?_)
  have cut_2 : ∀ (n : Nat) (y_3 : Int32) (z_4 : Nat → Int32) (fz_5 : Nat → Nat → Int32) (H : Heap) (locs : List Loc) (ls : Array Slot), 40 - y_3.toInt ≤ (n : Int) → (0 ≤ y_3.toInt ∧ y_3.toInt ≤ 40) → (∀ m, m < y_3.toNatClampNeg → gpF fz_5 m = m) → mV z_4 → mA fz_5 → scr v fa z_4 fz_5 → va_P (dC, dI) vwCl (mW g0 pq cp z_4 fz_5) H → va_D A (mW g0 pq cp z_4 fz_5) → va_S A s.heap H locs → (z_4 39).toInt = (v 39).toInt → lv_has ls 4 [(1, .int y_3), (0, .ref g0)] → W p l e (headSpec wsX11_findGroups { frames := 1, cells := 0, slots := 0, locals := 26 }).room s m #[Value.ref g0] below meth c H locs 0 0 (MQ below (va_Qv (fun (u : (Nat → Int32) × (Nat → Nat → Int32)) => mV u.1 ∧ mA u.2 ∧ scr v fa u.1 u.2 ∧ (lab (gE (alF fa) (v 39).toNatClampNeg) (v 39).toNatClampNeg (gpF u.2))) (fun u t => va_P (dC, dI) vwCl (mW g0 pq cp u.1 u.2) t.heap ∧ va_K (dC, dI) vwCl (mT cp) t ∧ va_D A (mW g0 pq cp u.1 u.2)) A) #[Value.ref g0] s 0 0 A) (F0 m 2 ls []) := by
    intro n
    induction n using Nat.strongRecOn with
    | ind n ih =>
      intro y_3 z_4 fz_5 H locs ls hm hy_3 hq0_cut_2 hVz_4 hAz_4 hRz_4 hP hD hS g_6 hl
      refine lv_iload_n hx hb dX11_findGroups_2 rfl (lv_at hl 0 rfl) ?_
      refine lv_aload_n hx hb dX11_findGroups_3 rfl (lv_at hl 1 rfl) ?_
      refine va_get (D := (dC, dI)) (ci := 11) (v := .int (z_4 39)) (C := RX11) (T := TX11) (N := 63) hx hb hts in_wsX11_findGroups_X11 hown hK hP 0 rfl rfl 39 (by decide) (hts (.fieldLink RX11 157 "ShipOfficeModel" "men" "I") iw_X11_findGroups_1) (fun _ h9 => h9) rfl dX11_findGroups_4 ?_
      refine lv_topi (fun x_7 ex_7 => ?_)
      have hx_7 : 0 ≤ x_7.toInt ∧ x_7.toInt ≤ 40 := iv_of ex_7 (hVz_4 39)
      have gx_7 : x_7.toInt = (z_4 39).toInt := iv_to ex_7
      clear ex_7
      rw [show z_4 39 = v 39 from hRz_4.1 39 rfl] at gx_7
      refine lv_icmp_ge (tgt := 23) hx hb dX11_findGroups_7 (by decide) (fun c_8 => ?_) (fun c_8 => ?_)
      · have dc_8 := c_le (a := x_7.toInt) (b := y_3.toInt) rfl rfl c_8
        refine lv_iconst (v := 1) hx hb dX11_findGroups_23 (by decide) ?_
        refine lv_istore_n (lv' := [(1, .int 1), (0, .ref g0)]) hx hb dX11_findGroups_24 rfl hl (by decide) rfl (fun ls hl => ?_)
        have cut_9 : ∀ (n2 : Nat) (y_10 : Int32) (z_11 : Nat → Int32) (fz_12 : Nat → Nat → Int32) (H : Heap) (locs : List Loc) (ls : Array Slot), (gsum (fz_12 52) 40 : Int) + y_10.toInt ≤ (n2 : Int) → (0 ≤ y_10.toInt ∧ y_10.toInt ≤ 1) → fgV (alF fa) (v 39).toNatClampNeg (gpF fz_12) y_10.toInt (v 39).toNatClampNeg 0 → mV z_11 → mA fz_12 → scr v fa z_11 fz_12 → va_P (dC, dI) vwCl (mW g0 pq cp z_11 fz_12) H → va_D A (mW g0 pq cp z_11 fz_12) → va_S A s.heap H locs → (z_11 39).toInt = (z_4 39).toInt → lv_has ls 4 [(1, .int y_10), (0, .ref g0)] → W p l e (headSpec wsX11_findGroups { frames := 1, cells := 0, slots := 0, locals := 26 }).room s m #[Value.ref g0] below meth c H locs 0 0 (MQ below (va_Qv (fun (u : (Nat → Int32) × (Nat → Nat → Int32)) => mV u.1 ∧ mA u.2 ∧ scr v fa u.1 u.2 ∧ (lab (gE (alF fa) (v 39).toNatClampNeg) (v 39).toNatClampNeg (gpF u.2))) (fun u t => va_P (dC, dI) vwCl (mW g0 pq cp u.1 u.2) t.heap ∧ va_K (dC, dI) vwCl (mT cp) t ∧ va_D A (mW g0 pq cp u.1 u.2)) A) #[Value.ref g0] s 0 0 A) (F0 m 25 ls []) := by
          intro n2
          induction n2 using Nat.strongRecOn with
          | ind n2 ih2 =>
            intro y_10 z_11 fz_12 H locs ls hm hy_10 hq0_cut_9 hVz_11 hAz_11 hRz_11 hP hD hS g_13 hl
            refine lv_iload_n hx hb dX11_findGroups_25 rfl (lv_at hl 0 rfl) ?_
            refine lv_if_eq (tgt := 107) hx hb dX11_findGroups_26 (by decide) (fun c_14 => ?_) (fun c_14 => ?_)
            · have dc_14 := c_eq (a := y_10.toInt) (b := 0) rfl (by decide) c_14
              exact W.vret hx hb hr (fun t ht hW => ⟨⟨(z_11, fz_12), rfl, ⟨hVz_11, hAz_11, hRz_11, (fgV_e hq0_cut_9 alF_sy rfl (by omega))⟩, ⟨by rw [ht]; exact hP, va_K.moved hW.alike hK, hD⟩⟩, hS.F ht⟩) hS.2.2 dX11_findGroups_107
            · have dc_14 := c_ne (a := y_10.toInt) (b := 0) rfl (by decide) c_14
              refine lv_iconst (v := 0) hx hb dX11_findGroups_29 (by decide) ?_
              refine lv_istore_n (lv' := [(1, .int 0), (0, .ref g0)]) hx hb dX11_findGroups_30 rfl hl (by decide) rfl (fun ls hl => ?_)
              refine lv_iconst (v := 0) hx hb dX11_findGroups_31 (by decide) ?_
              refine lv_istore_n (lv' := [(2, .int 0), (1, .int 0), (0, .ref g0)]) hx hb dX11_findGroups_32 rfl hl (by decide) rfl (fun ls hl => ?_)
              have cut_15 : ∀ (n3 : Nat) (y_16 : Int32) (y_17 : Int32) (z_18 : Nat → Int32) (fz_19 : Nat → Nat → Int32) (H : Heap) (locs : List Loc) (ls : Array Slot), 40 - y_17.toInt ≤ (n3 : Int) → (0 ≤ y_16.toInt ∧ y_16.toInt ≤ 1) → (0 ≤ y_17.toInt ∧ y_17.toInt ≤ 40) → (gsum (fz_19 52) 40 : Int) + y_16.toInt ≤ (gsum (fz_12 52) 40 : Int) → fgV (alF fa) (v 39).toNatClampNeg (gpF fz_19) y_16.toInt y_17.toNatClampNeg 0 → y_17.toInt ≤ (v 39).toInt → mV z_18 → mA fz_19 → scr v fa z_18 fz_19 → va_P (dC, dI) vwCl (mW g0 pq cp z_18 fz_19) H → va_D A (mW g0 pq cp z_18 fz_19) → va_S A s.heap H locs → (z_18 39).toInt = (z_11 39).toInt → lv_has ls 4 [(1, .int y_16), (2, .int y_17), (0, .ref g0)] → W p l e (headSpec wsX11_findGroups { frames := 1, cells := 0, slots := 0, locals := 26 }).room s m #[Value.ref g0] below meth c H locs 0 0 (MQ below (va_Qv (fun (u : (Nat → Int32) × (Nat → Nat → Int32)) => mV u.1 ∧ mA u.2 ∧ scr v fa u.1 u.2 ∧ (lab (gE (alF fa) (v 39).toNatClampNeg) (v 39).toNatClampNeg (gpF u.2))) (fun u t => va_P (dC, dI) vwCl (mW g0 pq cp u.1 u.2) t.heap ∧ va_K (dC, dI) vwCl (mT cp) t ∧ va_D A (mW g0 pq cp u.1 u.2)) A) #[Value.ref g0] s 0 0 A) (F0 m 33 ls []) := by
                intro n3
                induction n3 using Nat.strongRecOn with
                | ind n3 ih3 =>
                  intro y_16 y_17 z_18 fz_19 H locs ls hm hy_16 hy_17 hq0_cut_15 hq1_cut_15 hq2_cut_15 hVz_18 hAz_18 hRz_18 hP hD hS g_20 hl
                  refine lv_iload_n hx hb dX11_findGroups_33 rfl (lv_at hl 1 rfl) ?_
                  refine lv_aload_n hx hb dX11_findGroups_34 rfl (lv_at hl 2 rfl) ?_
                  refine va_get (D := (dC, dI)) (ci := 11) (v := .int (z_18 39)) (C := RX11) (T := TX11) (N := 63) hx hb hts in_wsX11_findGroups_X11 hown hK hP 0 rfl rfl 39 (by decide) (hts (.fieldLink RX11 157 "ShipOfficeModel" "men" "I") iw_X11_findGroups_1) (fun _ h9 => h9) rfl dX11_findGroups_35 ?_
                  refine lv_topi (fun x_21 ex_21 => ?_)
                  have hx_21 : 0 ≤ x_21.toInt ∧ x_21.toInt ≤ 40 := iv_of ex_21 (hVz_18 39)
                  have gx_21 : x_21.toInt = (z_18 39).toInt := iv_to ex_21
                  clear ex_21
                  rw [show z_18 39 = v 39 from hRz_18.1 39 rfl] at gx_21
                  refine lv_icmp_ge (tgt := 104) hx hb dX11_findGroups_38 (by decide) (fun c_22 => ?_) (fun c_22 => ?_)
                  · have dc_22 := c_le (a := x_21.toInt) (b := y_17.toInt) rfl rfl c_22
                    refine lv_goto (tgt := 25) hx hb dX11_findGroups_104 (by decide) ?_
                    exact ih2 (n2 - 1) (by omega) y_16 z_18 fz_19 _ _ ls (by omega) (by omega) (fgV_c hq1_cut_15 (show (v 39).toInt.toNat = y_17.toInt.toNat by omega) rfl) hVz_18 hAz_18 hRz_18 hP hD hS (by omega) (lv_sub hl [0, 2] rfl)
                  · have dc_22 := c_nle (a := x_21.toInt) (b := y_17.toInt) rfl rfl c_22
                    refine lv_iconst (v := 0) hx hb dX11_findGroups_41 (by decide) ?_
                    refine lv_istore_n (lv' := [(3, .int 0), (1, .int y_16), (2, .int y_17), (0, .ref g0)]) hx hb dX11_findGroups_42 rfl hl (by decide) rfl (fun ls hl => ?_)
                    have cut_23 : ∀ (n4 : Nat) (y_24 : Int32) (y_25 : Int32) (z_26 : Nat → Int32) (fz_27 : Nat → Nat → Int32) (H : Heap) (locs : List Loc) (ls : Array Slot), 40 - y_25.toInt ≤ (n4 : Int) → (0 ≤ y_24.toInt ∧ y_24.toInt ≤ 1) → (0 ≤ y_25.toInt ∧ y_25.toInt ≤ 40) → (gsum (fz_27 52) 40 : Int) + y_24.toInt ≤ (gsum (fz_12 52) 40 : Int) → fgV (alF fa) (v 39).toNatClampNeg (gpF fz_27) y_24.toInt y_17.toNatClampNeg y_25.toNatClampNeg → y_25.toInt ≤ (v 39).toInt → mV z_26 → mA fz_27 → scr v fa z_26 fz_27 → va_P (dC, dI) vwCl (mW g0 pq cp z_26 fz_27) H → va_D A (mW g0 pq cp z_26 fz_27) → va_S A s.heap H locs → (z_26 39).toInt = (z_18 39).toInt → lv_has ls 4 [(1, .int y_24), (3, .int y_25), (2, .int y_17), (0, .ref g0)] → W p l e (headSpec wsX11_findGroups { frames := 1, cells := 0, slots := 0, locals := 26 }).room s m #[Value.ref g0] below meth c H locs 0 0 (MQ below (va_Qv (fun (u : (Nat → Int32) × (Nat → Nat → Int32)) => mV u.1 ∧ mA u.2 ∧ scr v fa u.1 u.2 ∧ (lab (gE (alF fa) (v 39).toNatClampNeg) (v 39).toNatClampNeg (gpF u.2))) (fun u t => va_P (dC, dI) vwCl (mW g0 pq cp u.1 u.2) t.heap ∧ va_K (dC, dI) vwCl (mT cp) t ∧ va_D A (mW g0 pq cp u.1 u.2)) A) #[Value.ref g0] s 0 0 A) (F0 m 43 ls []) := by
                      intro n4
                      induction n4 using Nat.strongRecOn with
                      | ind n4 ih4 =>
                        intro y_24 y_25 z_26 fz_27 H locs ls hm hy_24 hy_25 hq0_cut_23 hq1_cut_23 hq2_cut_23 hVz_26 hAz_26 hRz_26 hP hD hS g_28 hl
                        refine lv_iload_n hx hb dX11_findGroups_43 rfl (lv_at hl 1 rfl) ?_
                        refine lv_aload_n hx hb dX11_findGroups_44 rfl (lv_at hl 3 rfl) ?_
                        refine va_get (D := (dC, dI)) (ci := 11) (v := .int (z_26 39)) (C := RX11) (T := TX11) (N := 63) hx hb hts in_wsX11_findGroups_X11 hown hK hP 0 rfl rfl 39 (by decide) (hts (.fieldLink RX11 157 "ShipOfficeModel" "men" "I") iw_X11_findGroups_1) (fun _ h9 => h9) rfl dX11_findGroups_45 ?_
                        refine lv_topi (fun x_29 ex_29 => ?_)
                        have hx_29 : 0 ≤ x_29.toInt ∧ x_29.toInt ≤ 40 := iv_of ex_29 (hVz_26 39)
                        have gx_29 : x_29.toInt = (z_26 39).toInt := iv_to ex_29
                        clear ex_29
                        rw [show z_26 39 = v 39 from hRz_26.1 39 rfl] at gx_29
                        refine lv_icmp_ge (tgt := 98) hx hb dX11_findGroups_48 (by decide) (fun c_30 => ?_) (fun c_30 => ?_)
                        · have dc_30 := c_le (a := x_29.toInt) (b := y_25.toInt) rfl rfl c_30
                          obtain ⟨x_31, ex_31⟩ : ∃ zq : Int32, y_17 + 1 = zq := ⟨_, rfl⟩
                          have hx_31 : x_31.toInt = y_17.toInt + 1 := (iv_to ex_31).symm.trans (ad_i rfl (by decide) (by omega) (by omega))
                          refine lv_iinc (v := x_31) (lv' := [(2, .int x_31), (1, .int y_24), (3, .int y_25), (0, .ref g0)]) hx hb dX11_findGroups_98 hl (k := 2) rfl ex_31 (by decide) rfl (fun ls hl => ?_)
                          clear ex_31
                          refine lv_goto (tgt := 33) hx hb dX11_findGroups_101 (by decide) ?_
                          exact ih3 (n3 - 1) (by omega) y_24 x_31 z_26 fz_27 _ _ ls (by omega) (by omega) (by omega) (by omega) (fgV_m hq1_cut_23 (show (v 39).toInt.toNat ≤ y_25.toInt.toNat by omega) (show x_31.toInt.toNat = y_17.toInt.toNat + 1 by omega) rfl) (by omega) hVz_26 hAz_26 hRz_26 hP hD hS (by omega) (lv_sub hl [1, 0, 3] rfl)
                        · have dc_30 := c_nle (a := x_29.toInt) (b := y_25.toInt) rfl rfl c_30
                          have cut_32 : ∀ (y_33 : Int32) (z_34 : Nat → Int32) (fz_35 : Nat → Nat → Int32) (H : Heap) (locs : List Loc) (ls : Array Slot), (0 ≤ y_33.toInt ∧ y_33.toInt ≤ 1) → (gsum (fz_35 52) 40 : Int) + y_33.toInt ≤ (gsum (fz_12 52) 40 : Int) → fgV (alF fa) (v 39).toNatClampNeg (gpF fz_35) y_33.toInt y_17.toNatClampNeg (y_25.toNatClampNeg + 1) → mV z_34 → mA fz_35 → scr v fa z_34 fz_35 → va_P (dC, dI) vwCl (mW g0 pq cp z_34 fz_35) H → va_D A (mW g0 pq cp z_34 fz_35) → va_S A s.heap H locs → (z_34 39).toInt = (z_26 39).toInt → lv_has ls 4 [(1, .int y_33), (3, .int y_25), (2, .int y_17), (0, .ref g0)] → W p l e (headSpec wsX11_findGroups { frames := 1, cells := 0, slots := 0, locals := 26 }).room s m #[Value.ref g0] below meth c H locs 0 0 (MQ below (va_Qv (fun (u : (Nat → Int32) × (Nat → Nat → Int32)) => mV u.1 ∧ mA u.2 ∧ scr v fa u.1 u.2 ∧ (lab (gE (alF fa) (v 39).toNatClampNeg) (v 39).toNatClampNeg (gpF u.2))) (fun u t => va_P (dC, dI) vwCl (mW g0 pq cp u.1 u.2) t.heap ∧ va_K (dC, dI) vwCl (mT cp) t ∧ va_D A (mW g0 pq cp u.1 u.2)) A) #[Value.ref g0] s 0 0 A) (F0 m 92 ls []) := by
                            intro y_33 z_34 fz_35 H locs ls hy_33 hq0_cut_32 hq1_cut_32 hVz_34 hAz_34 hRz_34 hP hD hS g_36 hl
                            obtain ⟨x_37, ex_37⟩ : ∃ zq : Int32, y_25 + 1 = zq := ⟨_, rfl⟩
                            have hx_37 : x_37.toInt = y_25.toInt + 1 := (iv_to ex_37).symm.trans (ad_i rfl (by decide) (by omega) (by omega))
                            refine lv_iinc (v := x_37) (lv' := [(3, .int x_37), (1, .int y_33), (2, .int y_17), (0, .ref g0)]) hx hb dX11_findGroups_92 hl (k := 1) rfl ex_37 (by decide) rfl (fun ls hl => ?_)
                            clear ex_37
                            refine lv_goto (tgt := 43) hx hb dX11_findGroups_95 (by decide) ?_
                            exact ih4 (n4 - 1) (by omega) y_33 x_37 z_34 fz_35 _ _ ls (by omega) (by omega) (by omega) (by omega) (fgV_c hq1_cut_32 rfl (show x_37.toInt.toNat = y_25.toInt.toNat + 1 by omega)) (by omega) hVz_34 hAz_34 hRz_34 hP hD hS (by omega) (lv_sub hl [1, 0, 2, 3] rfl)
                          refine lv_aload_n hx hb dX11_findGroups_51 rfl (lv_at hl 3 rfl) ?_
                          refine va_get (D := (dC, dI)) (ci := 11) (v := .ref (pq 52)) (C := RX11) (T := TX11) (N := 63) hx hb hts in_wsX11_findGroups_X11 hown hK hP 0 rfl rfl 52 (by decide) (hts (.fieldLink RX11 131 "ShipOfficeModel" "groups" "[I") iw_X11_findGroups_2) (fun _ h9 => h9) rfl dX11_findGroups_52 ?_
                          refine lv_iload_n hx hb dX11_findGroups_55 rfl (lv_at hl 1 rfl) ?_
                          refine va_iald hx hb hK hP 41 40 rfl rfl (vp_in_iff.mpr (by omega)) dX11_findGroups_56 ?_
                          refine lv_topi (fun x_38 ex_38 => ?_)
                          have hx_38 : 0 ≤ x_38.toInt ∧ x_38.toInt ≤ 39 := iv_of ex_38 (hAz_26 52 _)
                          have gx_38 : x_38.toInt = (fz_27 52 (y_25 : Int32).toNatClampNeg).toInt := iv_to ex_38
                          clear ex_38
                          refine lv_aload_n hx hb dX11_findGroups_57 rfl (lv_at hl 3 rfl) ?_
                          refine va_get (D := (dC, dI)) (ci := 11) (v := .ref (pq 52)) (C := RX11) (T := TX11) (N := 63) hx hb hts in_wsX11_findGroups_X11 hown hK hP 0 rfl rfl 52 (by decide) (hts (.fieldLink RX11 131 "ShipOfficeModel" "groups" "[I") iw_X11_findGroups_2) (fun _ h9 => h9) rfl dX11_findGroups_58 ?_
                          refine lv_iload_n hx hb dX11_findGroups_61 rfl (lv_at hl 2 rfl) ?_
                          refine va_iald hx hb hK hP 41 40 rfl rfl (vp_in_iff.mpr (by omega)) dX11_findGroups_62 ?_
                          refine lv_topi (fun x_39 ex_39 => ?_)
                          have hx_39 : 0 ≤ x_39.toInt ∧ x_39.toInt ≤ 39 := iv_of ex_39 (hAz_26 52 _)
                          have gx_39 : x_39.toInt = (fz_27 52 (y_17 : Int32).toNatClampNeg).toInt := iv_to ex_39
                          clear ex_39
                          refine lv_icmp_ge (tgt := 92) hx hb dX11_findGroups_63 (by decide) (fun c_40 => ?_) (fun c_40 => ?_)
                          · have dc_40 := c_le (a := x_39.toInt) (b := x_38.toInt) rfl rfl c_40
                            exact cut_32 y_24 z_26 fz_27 _ _ ls (by omega) (by omega) (fgV_n hq1_cut_23 (fun q => by have q1 := q.1; have q2 := b01_t q.2; unfold gpF at q1; omega) rfl) hVz_26 hAz_26 hRz_26 hP hD hS (by omega) (lv_sub hl [0, 1, 2, 3] rfl)
                          · have dc_40 := c_nle (a := x_39.toInt) (b := x_38.toInt) rfl rfl c_40
                            refine lv_aload_n hx hb dX11_findGroups_66 rfl (lv_at hl 3 rfl) ?_
                            refine lv_iload_n hx hb dX11_findGroups_67 rfl (lv_at hl 2 rfl) ?_
                            refine lv_iload_n hx hb dX11_findGroups_68 rfl (lv_at hl 1 rfl) ?_
                            have hFc : ∀ q, va_A [] H.size q → A q := pu_free hS hA
                            refine va_calli (va_runV (As := [.int y_17, .int y_25]) (rest := []) ⟨hx, hb, hml, hown, hts⟩ (c_X11_isAlike_f l dC dI H.size g0 pq cp z_26 fz_27 hVz_26 hAz_26 y_17 (by omega) y_25 (by omega) (fun i => by rw [hRz_26.2 3 rfl]; exact hMk i)) (cwV 2 hts gX11_findGroups_X11_isAlike rfl rfl rfl (by decide +kernel) ⟨(Nat.le_of_ble_eq_true rfl), (Nat.le_of_ble_eq_true rfl)⟩) (pr_V (r := (RX11, TX11, 63)) hP hK hD 0 11 rfl rfl) rfl rfl hl.1 rfl (lv_room (Nat.le_of_ble_eq_true rfl)) dX11_findGroups_69 ⟨(Nat.le_of_ble_eq_true rfl), (Nat.le_of_ble_eq_true rfl)⟩) hS (fun q _ h => hFc q h) hFc (fun r_42 u t H locs ht hvm w_41 hB hz1 hk1 hS => ?_)
                            have hP := pu_keep hP hk1
                            clear hk1 hz1 hvm hB ht hFc
                            obtain ⟨hb_43, hx_44⟩ := w_41
                            rw [alF_s hRz_26] at hx_44
                            refine lv_if_ne (tgt := 78) hx hb dX11_findGroups_72 (by decide) (fun c_45 => ?_) (fun c_45 => ?_)
                            · have dc_45 := c_ne (a := r_42.toInt) (b := 0) rfl (by decide) c_45
                              refine lv_aload_n hx hb dX11_findGroups_78 rfl (lv_at hl 3 rfl) ?_
                              refine va_get (D := (dC, dI)) (ci := 11) (v := .ref (pq 52)) (C := RX11) (T := TX11) (N := 63) hx hb hts in_wsX11_findGroups_X11 hown hK hP 0 rfl rfl 52 (by decide) (hts (.fieldLink RX11 131 "ShipOfficeModel" "groups" "[I") iw_X11_findGroups_2) (fun _ h9 => h9) rfl dX11_findGroups_79 ?_
                              refine lv_iload_n hx hb dX11_findGroups_82 rfl (lv_at hl 2 rfl) ?_
                              refine lv_aload_n hx hb dX11_findGroups_83 rfl (lv_at hl 3 rfl) ?_
                              refine va_get (D := (dC, dI)) (ci := 11) (v := .ref (pq 52)) (C := RX11) (T := TX11) (N := 63) hx hb hts in_wsX11_findGroups_X11 hown hK hP 0 rfl rfl 52 (by decide) (hts (.fieldLink RX11 131 "ShipOfficeModel" "groups" "[I") iw_X11_findGroups_2) (fun _ h9 => h9) rfl dX11_findGroups_84 ?_
                              refine lv_iload_n hx hb dX11_findGroups_87 rfl (lv_at hl 1 rfl) ?_
                              refine va_iald hx hb hK hP 41 40 rfl rfl (vp_in_iff.mpr (by omega)) dX11_findGroups_88 ?_
                              refine lv_topi (fun x_46 ex_46 => ?_)
                              have hx_46 : 0 ≤ x_46.toInt ∧ x_46.toInt ≤ 39 := iv_of ex_46 (hAz_26 52 _)
                              have gx_46 : x_46.toInt = (fz_27 52 (y_25 : Int32).toNatClampNeg).toInt := iv_to ex_46
                              clear ex_46
                              refine va_iast hx hb hK hP hD hS 41 40 rfl rfl (vp_in_iff.mpr (by omega)) dX11_findGroups_89 (fun H locs hP hD hS => ?_)
                              have hP : va_P (dC, dI) vwCl (mW g0 pq cp z_26 (upF fz_27 52 (y_17 : Int32).toNatClampNeg x_46)) H := hP
                              have hD : va_D A (mW g0 pq cp z_26 (upF fz_27 52 (y_17 : Int32).toNatClampNeg x_46)) := hD
                              obtain ⟨fz_47, efz_47⟩ : ∃ zq, zq = (upF fz_27 52 (y_17 : Int32).toNatClampNeg x_46) := ⟨_, rfl⟩
                              rw [← efz_47] at hP hD
                              have hAfz_47 : mA fz_47 := by rw [efz_47]; exact mA_upF (lo := 0) (hi := 39) hAz_26 rfl rfl (by omega)
                              have hRfz_47 : scr v fa z_26 fz_47 := by rw [efz_47]; exact scr.uF hRz_26 rfl
                              have sc_48 : scr v fa z_26 fz_47 := by rw [efz_47]; exact scr.uF hRz_26 rfl
                              have q0_49 : fz_47 0 = fa 0 := by rw [efz_47]; exact (if_neg (by decide)).trans (hRz_26.2 0 rfl)
                              have hgsfz_47 := gsum_F (o := 0) efz_47 (by omega) (by omega) (by omega)
                              refine lv_iconst (v := 1) hx hb dX11_findGroups_90 (by decide) ?_
                              refine lv_istore_n (lv' := [(1, .int 1), (3, .int y_25), (2, .int y_17), (0, .ref g0)]) hx hb dX11_findGroups_91 rfl hl (by decide) rfl (fun ls hl => ?_)
                              have kc_50 : (1 : Int32).toInt = 1 := by decide
                              exact cut_32 1 z_26 fz_47 _ _ ls (by decide) (by omega) (fgV_y hq1_cut_23 (nn_lt (by omega) (by omega)) (nn_lt (by omega) (by omega)) (b01_1 (show b01 (alF fa y_17.toNatClampNeg y_25.toNatClampNeg) = 1 by omega)) (show gpF fz_27 y_25.toNatClampNeg < gpF fz_27 y_17.toNatClampNeg by unfold gpF; omega) (gpF_u efz_47 (by omega)) (by decide)) hVz_26 hAfz_47 hRfz_47 hP hD hS (by omega) (lv_sub hl [0, 1, 2, 3] rfl)
                            · have dc_45 := c_eq (a := r_42.toInt) (b := 0) rfl (by decide) c_45
                              refine lv_goto (tgt := 92) hx hb dX11_findGroups_75 (by decide) ?_
                              exact cut_32 y_24 z_26 fz_27 _ _ ls (by omega) (by omega) (fgV_n hq1_cut_23 (fun q => by have q1 := q.1; have q2 := b01_t q.2; unfold gpF at q1; omega) rfl) hVz_26 hAz_26 hRz_26 hP hD hS (by omega) (lv_sub hl [0, 1, 2, 3] rfl)
                    have kc_51 : (0 : Int32).toInt = 0 := by decide
                    exact cut_23 41 y_16 0 z_18 fz_19 _ _ ls (by omega) (by omega) (by decide) (by omega) (fgV_c hq1_cut_15 rfl (by decide)) (by have rc : (0 : Int32).toInt = 0 := (by decide); omega) hVz_18 hAz_18 hRz_18 hP hD hS (by omega) (lv_sub hl [1, 0, 2, 3] rfl)
              have kc_52 : (0 : Int32).toInt = 0 := by decide
              exact cut_15 41 0 0 z_11 fz_12 _ _ ls (by omega) (by decide) (by decide) (by omega) (fgV_b hq0_cut_9 (by decide) rfl) (by have rc : (0 : Int32).toInt = 0 := (by decide); omega) hVz_11 hAz_11 hRz_11 hP hD hS (by omega) (lv_sub hl [1, 0, 2] rfl)
        have kc_53 : (1 : Int32).toInt = 1 := by decide
        exact cut_9 (gsum (fz_5 52) 40 + 1) 1 z_4 fz_5 _ _ ls (by omega) (by decide) (fgV_1 (al_e hq0_cut_2 (by omega)) (by decide)) hVz_4 hAz_4 hRz_4 hP hD hS (by omega) (lv_sub hl [0, 1] rfl)
      · have dc_8 := c_nle (a := x_7.toInt) (b := y_3.toInt) rfl rfl c_8
        refine lv_aload_n hx hb dX11_findGroups_10 rfl (lv_at hl 1 rfl) ?_
        refine va_get (D := (dC, dI)) (ci := 11) (v := .ref (pq 52)) (C := RX11) (T := TX11) (N := 63) hx hb hts in_wsX11_findGroups_X11 hown hK hP 0 rfl rfl 52 (by decide) (hts (.fieldLink RX11 131 "ShipOfficeModel" "groups" "[I") iw_X11_findGroups_2) (fun _ h9 => h9) rfl dX11_findGroups_11 ?_
        refine lv_iload_n hx hb dX11_findGroups_14 rfl (lv_at hl 0 rfl) ?_
        refine lv_iload_n hx hb dX11_findGroups_15 rfl (lv_at hl 0 rfl) ?_
        refine va_iast hx hb hK hP hD hS 41 40 rfl rfl (vp_in_iff.mpr (by omega)) dX11_findGroups_16 (fun H locs hP hD hS => ?_)
        have hP : va_P (dC, dI) vwCl (mW g0 pq cp z_4 (upF fz_5 52 (y_3 : Int32).toNatClampNeg y_3)) H := hP
        have hD : va_D A (mW g0 pq cp z_4 (upF fz_5 52 (y_3 : Int32).toNatClampNeg y_3)) := hD
        obtain ⟨fz_54, efz_54⟩ : ∃ zq, zq = (upF fz_5 52 (y_3 : Int32).toNatClampNeg y_3) := ⟨_, rfl⟩
        rw [← efz_54] at hP hD
        have hAfz_54 : mA fz_54 := by rw [efz_54]; exact mA_upF (lo := 0) (hi := 39) hAz_4 rfl rfl (by omega)
        have hRfz_54 : scr v fa z_4 fz_54 := by rw [efz_54]; exact scr.uF hRz_4 rfl
        have sc_55 : scr v fa z_4 fz_54 := by rw [efz_54]; exact scr.uF hRz_4 rfl
        have q0_56 : fz_54 0 = fa 0 := by rw [efz_54]; exact (if_neg (by decide)).trans (hRz_4.2 0 rfl)
        obtain ⟨x_57, ex_57⟩ : ∃ zq : Int32, y_3 + 1 = zq := ⟨_, rfl⟩
        have hx_57 : x_57.toInt = y_3.toInt + 1 := (iv_to ex_57).symm.trans (ad_i rfl (by decide) (by omega) (by omega))
        refine lv_iinc (v := x_57) (lv' := [(1, .int x_57), (0, .ref g0)]) hx hb dX11_findGroups_17 hl (k := 0) rfl ex_57 (by decide) rfl (fun ls hl => ?_)
        clear ex_57
        refine lv_goto (tgt := 2) hx hb dX11_findGroups_20 (by decide) ?_
        exact ih (n - 1) (by omega) x_57 z_4 fz_54 _ _ ls (by omega) (by omega) (gpF_f hq0_cut_2 efz_54 (by omega) (by omega)) hVz_4 hAfz_54 hRfz_54 hP hD hS (by omega) (lv_sub hl [0, 1] rfl)
  have kc_58 : (0 : Int32).toInt = 0 := by decide
  exact cut_2 41 0 v fa _ _ ls (by omega) (by decide) (al_0 (by decide)) gV gA scr.rf hP hD hS (by omega) (lv_sub hl [0, 1] rfl)
