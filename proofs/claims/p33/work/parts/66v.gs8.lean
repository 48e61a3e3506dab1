


set_option maxHeartbeats 4000000 in
set_option maxRecDepth 100000 in
theorem c_X11_chooses_0w (l : Launch) (dC : Nat → ClassId) (dI : Nat → Nat → Nat) (sz : Nat) (g0 : Nat) (pq : Nat → Nat) (cp : Nat → ClassId) (v : Nat → Int32) (fa : Nat → Nat → Int32) (gV : mV v) (gA : mA fa) (x1 : Int32) (hx1 : 0 ≤ x1.toInt ∧ x1.toInt ≤ 0) (x2 : Int32) (x3 : Int32) (hx3 : 0 ≤ x3.toInt ∧ x3.toInt ≤ 80000) (hh : x1.toInt ≤ (v 59).toInt) (nG MG : Nat) (hCS : CS nG MG v fa) (hPR : PR nG MG (csW fa) 0 (csT fa)) (hsm : x3.toInt = sw nG (csW fa) (csT fa) 0) (hus : ∀ y : Int32, 0 ≤ y.toInt → y.toInt < 12 → (ubI x2 y ↔ ∃ p, p < 0 ∧ csT fa p = y.toNatClampNeg)) (hRS : RS nG MG (csW fa) 0 (pc (csT fa) 0) (v 60).toInt (csB fa)) : Met l yX11_chooses wsX11_chooses ({ frames := 8, cells := 0, slots := 0, locals := 208 }) (va_Pc [.ref g0, .int x1, .int x2, .int x3] (pcW (dC, dI) (mT cp) (mW g0 pq cp v fa) sz)) (va_Qv (fun (u : (Nat → Int32) × (Nat → Nat → Int32)) => mV u.1 ∧ mA u.2 ∧ scr v fa u.1 u.2 ∧ (smC v fa u.1 u.2 ∧ hdE 0 fa u.2 ∧ RS nG MG (csW fa) 0 (pc (csT fa) 0 + 1) (u.1 60).toInt (csB u.2))) (fun u t => va_P (dC, dI) vwCl (mW g0 pq cp u.1 u.2) t.heap ∧ va_K (dC, dI) vwCl (mT cp) t ∧ va_D (va_A (mW g0 pq cp v fa) sz) (mW g0 pq cp u.1 u.2)) (va_A (mW g0 pq cp v fa) sz)) 0 0 (va_A (mW g0 pq cp v fa) sz) := by
  refine Met.ofW (cc := cX11_chooses) (maxL := 7) (ret := none) (by decide) rfl ?_
  intro p e s m args below meth c s₁ B hml hv
  obtain ⟨rfl, hsz, hP, hK, hD0⟩ := hv
  have hx := B.exec
  have hb := B.bytes
  have hr := B.returns
  have hts := atoms_spec (ws := wsX11_chooses) B.pre
  have hown : s.vm.findClass RX11 = some m.cls := findClass_of_methodNamed B.named
  have hlocks := B.notSynchronized
  subst hsz
  have hD := hD0.self (sz := s.heap.size)
  generalize hAe : va_A (mW g0 pq cp v fa) s.heap.size = A at hD ⊢
  have hA : ∀ q : Nat, s.heap.size ≤ q → A q := fun q h => by rw [← hAe]; exact Or.inr h
  have hS : va_S A s.heap s.heap [] := va_S.rf
  have hP : va_P (dC, dI) vwCl (mW g0 pq cp v fa) s.heap := hP
  have hl := lv_entry ([.ref g0, .int x1, .int x2, .int x3]) (n := 7) (Nat.le_of_ble_eq_true rfl)
  rw [lg_entry_eq]
  generalize (lg_sl ([.ref g0, .int x1, .int x2, .int x3]) ++ List.replicate (7 - (lg_sl ([.ref g0, .int x1, .int x2, .int x3])).length) Slot.unset).toArray = ls at hl ⊢
  have hl : lv_has ls 7 [(0, .ref g0), (1, .int x1), (2, .int x2), (3, .int x3)] := hl
  have iv_1 : 0 ≤ (v 58).toInt ∧ (v 58).toInt ≤ 12 := gV 58
  have iv_2 : 0 ≤ (v 59).toInt ∧ (v 59).toInt ≤ 8 := gV 59
  refine lv_aload_n hx hb dX11_chooses_0 rfl (lv_at hl 0 rfl) ?_
  refine va_get (D := (dC, dI)) (ci := 11) (v := .int (v 60)) (C := RX11) (T := TX11) (N := 63) hx hb hts in_wsX11_chooses_X11 hown hK hP 0 rfl rfl 60 (by decide) (hts (.fieldLink RX11 338 "ShipOfficeModel" "least" "I") iw_X11_chooses_1) (fun _ h9 => h9) rfl dX11_chooses_1 ?_
  refine lv_topi (fun x_3 ex_3 => ?_)
  have gx_3 : x_3.toInt = (v 60).toInt := iv_to ex_3
  clear ex_3
  refine lv_if_lt (tgt := 16) hx hb dX11_chooses_4 (by decide) (fun c_4 => ?_) (fun c_4 => ?_)
  · have dc_4 := c_lt (a := x_3.toInt) (b := 0) rfl (by decide) c_4
    refine lv_iload_n hx hb dX11_chooses_16 rfl (lv_at hl 1 rfl) ?_
    refine lv_aload_n hx hb dX11_chooses_17 rfl (lv_at hl 0 rfl) ?_
    refine va_get (D := (dC, dI)) (ci := 11) (v := .int (v 59)) (C := RX11) (T := TX11) (N := 63) hx hb hts in_wsX11_chooses_X11 hown hK hP 0 rfl rfl 59 (by decide) (hts (.fieldLink RX11 341 "ShipOfficeModel" "hands" "I") iw_X11_chooses_2) (fun _ h9 => h9) rfl dX11_chooses_18 ?_
    refine lv_topi (fun x_5 ex_5 => ?_)
    have hx_5 : 0 ≤ x_5.toInt ∧ x_5.toInt ≤ 8 := iv_of ex_5 (gV 59)
    have gx_5 : x_5.toInt = (v 59).toInt := iv_to ex_5
    clear ex_5
    refine lv_icmp_ne (tgt := 59) hx hb dX11_chooses_21 (by decide) (fun c_6 => ?_) (fun c_6 => ?_)
    · have dc_6 := c_ne (a := x1.toInt) (b := x_5.toInt) rfl rfl c_6
      have cut_7 : ∀ (y_8 : Int32) (z_9 : Nat → Int32) (fz_10 : Nat → Nat → Int32) (H : Heap) (locs : List Loc) (ls : Array Slot), (0 ≤ y_8.toInt ∧ y_8.toInt ≤ 12) → (v = z_9 ∧ fa = fz_10) → y_8.toNatClampNeg = frs nG 0 (csT fa) → mV z_9 → mA fz_10 → scr v fa z_9 fz_10 → va_P (dC, dI) vwCl (mW g0 pq cp z_9 fz_10) H → va_D A (mW g0 pq cp z_9 fz_10) → va_S A s.heap H locs → (z_9 58).toInt = (v 58).toInt → (z_9 59).toInt = (v 59).toInt → (z_9 60).toInt = (v 60).toInt → lv_has ls 7 [(4, .int y_8), (0, .ref g0), (1, .int x1), (2, .int x2), (3, .int x3)] → W p l e (headSpec wsX11_chooses { frames := 8, cells := 0, slots := 0, locals := 208 }).room s m #[Value.ref g0, Value.int x1, Value.int x2, Value.int x3] below meth c H locs 0 0 (MQ below (va_Qv (fun (u : (Nat → Int32) × (Nat → Nat → Int32)) => mV u.1 ∧ mA u.2 ∧ scr v fa u.1 u.2 ∧ (smC v fa u.1 u.2 ∧ hdE 0 fa u.2 ∧ RS nG MG (csW fa) 0 (pc (csT fa) 0 + 1) (u.1 60).toInt (csB u.2))) (fun u t => va_P (dC, dI) vwCl (mW g0 pq cp u.1 u.2) t.heap ∧ va_K (dC, dI) vwCl (mT cp) t ∧ va_D A (mW g0 pq cp u.1 u.2)) A) #[Value.ref g0, Value.int x1, Value.int x2, Value.int x3] s 0 0 A) (F0 m 96 ls []) := by
        intro y_8 z_9 fz_10 H locs ls hy_8 hq0_cut_7 hq1_cut_7 hVz_9 hAz_9 hRz_9 hP hD hS g_11 g_12 g_13 hl
        obtain ⟨rfl, rfl⟩ := hq0_cut_7
        refine lv_iload hx hb dX11_chooses_96 (lv_at hl 0 rfl) ?_
        refine lv_istore (lv' := [(5, .int y_8), (4, .int y_8), (0, .ref g0), (1, .int x1), (2, .int x2), (3, .int x3)]) hx hb dX11_chooses_98 hl (by decide) rfl (fun ls hl => ?_)
        have cut_14 : ∀ (n : Nat) (y_15 : Int32) (z_16 : Nat → Int32) (fz_17 : Nat → Nat → Int32) (H : Heap) (locs : List Loc) (ls : Array Slot), 12 - y_15.toInt ≤ (n : Int) → (0 ≤ y_15.toInt ∧ y_15.toInt ≤ 12) → smC v fa z_16 fz_17 → hdE 0 fa fz_17 → RS nG MG (csW fa) 1 (16 * pc (csT fa) 0 + y_15.toNatClampNeg) (z_16 60).toInt (csB fz_17) → frs nG 0 (csT fa) ≤ y_15.toNatClampNeg → y_15.toInt ≤ (MG : Int) → mV z_16 → mA fz_17 → scr v fa z_16 fz_17 → va_P (dC, dI) vwCl (mW g0 pq cp z_16 fz_17) H → va_D A (mW g0 pq cp z_16 fz_17) → va_S A s.heap H locs → lv_has ls 7 [(5, .int y_15), (0, .ref g0), (1, .int x1), (2, .int x2), (3, .int x3)] → W p l e (headSpec wsX11_chooses { frames := 8, cells := 0, slots := 0, locals := 208 }).room s m #[Value.ref g0, Value.int x1, Value.int x2, Value.int x3] below meth c H locs 0 0 (MQ below (va_Qv (fun (u : (Nat → Int32) × (Nat → Nat → Int32)) => mV u.1 ∧ mA u.2 ∧ scr v fa u.1 u.2 ∧ (smC v fa u.1 u.2 ∧ hdE 0 fa u.2 ∧ RS nG MG (csW fa) 0 (pc (csT fa) 0 + 1) (u.1 60).toInt (csB u.2))) (fun u t => va_P (dC, dI) vwCl (mW g0 pq cp u.1 u.2) t.heap ∧ va_K (dC, dI) vwCl (mT cp) t ∧ va_D A (mW g0 pq cp u.1 u.2)) A) #[Value.ref g0, Value.int x1, Value.int x2, Value.int x3] s 0 0 A) (F0 m 100 ls []) := by
          intro n
          induction n using Nat.strongRecOn with
          | ind n ih =>
            intro y_15 z_16 fz_17 H locs ls hm hy_15 hq0_cut_14 hq1_cut_14 hq2_cut_14 hq3_cut_14 hq4_cut_14 hVz_16 hAz_16 hRz_16 hP hD hS hl
            have gm_18 := congrArg Int32.toInt hq0_cut_14.2.1
            have gm_19 := congrArg Int32.toInt hq0_cut_14.1
            have tn_20 : ((y_15.toNatClampNeg : Nat) : Int) = y_15.toInt := tn_i (by omega)
            refine lv_iload hx hb dX11_chooses_100 (lv_at hl 0 rfl) ?_
            refine lv_aload_n hx hb dX11_chooses_102 rfl (lv_at hl 1 rfl) ?_
            refine va_get (D := (dC, dI)) (ci := 11) (v := .int (z_16 58)) (C := RX11) (T := TX11) (N := 63) hx hb hts in_wsX11_chooses_X11 hown hK hP 0 rfl rfl 58 (by decide) (hts (.fieldLink RX11 344 "ShipOfficeModel" "someMany" "I") iw_X11_chooses_6) (fun _ h9 => h9) rfl dX11_chooses_103 ?_
            refine lv_topi (fun x_21 ex_21 => ?_)
            have hx_21 : 0 ≤ x_21.toInt ∧ x_21.toInt ≤ 12 := iv_of ex_21 (hVz_16 58)
            have gx_21 : x_21.toInt = (z_16 58).toInt := iv_to ex_21
            clear ex_21
            refine lv_icmp_ge (tgt := 181) hx hb dX11_chooses_106 (by decide) (fun c_22 => ?_) (fun c_22 => ?_)
            · have dc_22 := c_le (a := x_21.toInt) (b := y_15.toInt) rfl rfl c_22
              exact W.vret hx hb hr (fun t ht hW => ⟨⟨(z_16, fz_17), rfl, ⟨hVz_16, hAz_16, hRz_16, ⟨hq0_cut_14, hq1_cut_14, RS_lp hCS.2.2.1 (show 0 < hnd nG by have q := hCS.1; omega) (show y_15.toInt.toNat = MG by have q := hCS.2.1; omega) hq2_cut_14⟩⟩, ⟨by rw [ht]; exact hP, va_K.moved hW.alike hK, hD⟩⟩, hS.F ht⟩) hS.2.2 dX11_chooses_181
            · have dc_22 := c_nle (a := x_21.toInt) (b := y_15.toInt) rfl rfl c_22
              have cut_23 : ∀ (z_24 : Nat → Int32) (fz_25 : Nat → Nat → Int32) (H : Heap) (locs : List Loc) (ls : Array Slot), smC v fa z_24 fz_25 → hdE 0 fa fz_25 → RS nG MG (csW fa) 1 (16 * pc (csT fa) 0 + (y_15.toNatClampNeg + 1)) (z_24 60).toInt (csB fz_25) → mV z_24 → mA fz_25 → scr v fa z_24 fz_25 → va_P (dC, dI) vwCl (mW g0 pq cp z_24 fz_25) H → va_D A (mW g0 pq cp z_24 fz_25) → va_S A s.heap H locs → lv_has ls 7 [(5, .int y_15), (0, .ref g0), (1, .int x1), (2, .int x2), (3, .int x3)] → W p l e (headSpec wsX11_chooses { frames := 8, cells := 0, slots := 0, locals := 208 }).room s m #[Value.ref g0, Value.int x1, Value.int x2, Value.int x3] below meth c H locs 0 0 (MQ below (va_Qv (fun (u : (Nat → Int32) × (Nat → Nat → Int32)) => mV u.1 ∧ mA u.2 ∧ scr v fa u.1 u.2 ∧ (smC v fa u.1 u.2 ∧ hdE 0 fa u.2 ∧ RS nG MG (csW fa) 0 (pc (csT fa) 0 + 1) (u.1 60).toInt (csB u.2))) (fun u t => va_P (dC, dI) vwCl (mW g0 pq cp u.1 u.2) t.heap ∧ va_K (dC, dI) vwCl (mT cp) t ∧ va_D A (mW g0 pq cp u.1 u.2)) A) #[Value.ref g0, Value.int x1, Value.int x2, Value.int x3] s 0 0 A) (F0 m 175 ls []) := by
                intro  z_24 fz_25 H locs ls hq0_cut_23 hq1_cut_23 hq2_cut_23 hVz_24 hAz_24 hRz_24 hP hD hS hl
                have gm_26 := congrArg Int32.toInt hq0_cut_23.2.1
                have gm_27 := congrArg Int32.toInt hq0_cut_23.1
                obtain ⟨x_28, ex_28⟩ : ∃ zq : Int32, y_15 + 1 = zq := ⟨_, rfl⟩
                have hx_28 : x_28.toInt = y_15.toInt + 1 := (iv_to ex_28).symm.trans (ad_i rfl (by decide) (by omega) (by omega))
                refine lv_iinc (v := x_28) (lv' := [(5, .int x_28), (0, .ref g0), (1, .int x1), (2, .int x2), (3, .int x3)]) hx hb dX11_chooses_175 hl (k := 0) rfl ex_28 (by decide) rfl (fun ls hl => ?_)
                clear ex_28
                refine lv_goto (tgt := 100) hx hb dX11_chooses_178 (by decide) ?_
                exact ih (n - 1) (by omega) x_28 z_24 fz_25 _ _ ls (by omega) (by omega) hq0_cut_23 hq1_cut_23 (by rw [show x_28.toNatClampNeg = y_15.toNatClampNeg + 1 from (show x_28.toInt.toNat = y_15.toInt.toNat + 1 by omega)]; exact hq2_cut_23) (by rw [show x_28.toNatClampNeg = y_15.toNatClampNeg + 1 from (show x_28.toInt.toNat = y_15.toInt.toNat + 1 by omega)]; exact Nat.le_succ_of_le hq3_cut_14) (by have q := hCS.2.1; omega) hVz_24 hAz_24 hRz_24 hP hD hS (lv_sub hl [0, 1, 2, 3, 4] rfl)
              refine lv_aload_n hx hb dX11_chooses_109 rfl (lv_at hl 1 rfl) ?_
              refine va_get (D := (dC, dI)) (ci := 11) (v := .ref (pq 5)) (C := RX11) (T := TX11) (N := 63) hx hb hts in_wsX11_chooses_X11 hown hK hP 0 rfl rfl 5 (by decide) (hts (.fieldLink RX11 25 "ShipOfficeModel" "asks" "[I") iw_X11_chooses_7) (fun _ h9 => h9) rfl dX11_chooses_110 ?_
              refine lv_iconst (v := 4) hx hb dX11_chooses_113 (by decide) ?_
              refine lv_aload_n hx hb dX11_chooses_114 rfl (lv_at hl 1 rfl) ?_
              refine va_get (D := (dC, dI)) (ci := 11) (v := .ref (pq 54)) (C := RX11) (T := TX11) (N := 63) hx hb hts in_wsX11_chooses_X11 hown hK hP 0 rfl rfl 54 (by decide) (hts (.fieldLink RX11 137 "ShipOfficeModel" "some" "[I") iw_X11_chooses_8) (fun _ h9 => h9) rfl dX11_chooses_115 ?_
              refine lv_iload hx hb dX11_chooses_118 (lv_at hl 0 rfl) ?_
              refine va_iald hx hb hK hP 43 42 rfl rfl (vp_in_iff.mpr (by omega)) dX11_chooses_120 ?_
              refine lv_topi (fun x_29 ex_29 => ?_)
              have hx_29 : 0 ≤ x_29.toInt ∧ x_29.toInt ≤ 39 := iv_of ex_29 (hAz_16 54 _)
              have gx_29 : x_29.toInt = (fz_17 54 (y_15 : Int32).toNatClampNeg).toInt := iv_to ex_29
              clear ex_29
              refine lv_imul hx hb dX11_chooses_121 ?_
              refine lv_topi (fun x_30 ex_30 => ?_)
              have hx_30 : x_30.toInt = 4 * x_29.toInt := (iv_to ex_30).trans (mu_i (by decide) rfl (by omega) (by omega))
              refine lv_aload_n hx hb dX11_chooses_122 rfl (lv_at hl 1 rfl) ?_
              refine va_get (D := (dC, dI)) (ci := 11) (v := .ref (pq 55)) (C := RX11) (T := TX11) (N := 63) hx hb hts in_wsX11_chooses_X11 hown hK hP 0 rfl rfl 55 (by decide) (hts (.fieldLink RX11 140 "ShipOfficeModel" "handRank" "[I") iw_X11_chooses_5) (fun _ h9 => h9) rfl dX11_chooses_123 ?_
              refine lv_iload_n hx hb dX11_chooses_126 rfl (lv_at hl 2 rfl) ?_
              refine va_iald hx hb hK hP 44 43 rfl rfl (vp_in_iff.mpr (by omega)) dX11_chooses_127 ?_
              refine lv_topi (fun x_31 ex_31 => ?_)
              have hx_31 : 0 ≤ x_31.toInt ∧ x_31.toInt ≤ 3 := iv_of ex_31 (hAz_16 55 _)
              have gx_31 : x_31.toInt = (fz_17 55 (x1 : Int32).toNatClampNeg).toInt := iv_to ex_31
              clear ex_31
              rw [show fz_17 55 = fa 55 from hq0_cut_14.2.2.1] at gx_31
              rw [show (x1 : Int32).toNatClampNeg = 0 from (show x1.toInt.toNat = 0 by omega), hCS.2.2.2.1 0 (by have q := hCS.1; omega)] at gx_31
              refine lv_iadd hx hb dX11_chooses_128 ?_
              refine lv_topi (fun x_32 ex_32 => ?_)
              have hx_32 : x_32.toInt = x_30.toInt + x_31.toInt := (iv_to ex_32).trans (ad_i rfl rfl (by omega) (by omega))
              refine va_iald hx hb hK hP 6 5 rfl rfl (vp_in_iff.mpr (by omega)) dX11_chooses_129 ?_
              refine lv_topi (fun x_33 ex_33 => ?_)
              have gx_33 : x_33.toInt = (fz_17 5 (x_32 : Int32).toNatClampNeg).toInt := iv_to ex_33
              clear ex_33
              have gwx_33 : x_33.toInt = csW fa y_15.toNatClampNeg (rkp nG 0) := by rw [← csW_e hq0_cut_14]; unfold csW; rw [← show (x_32 : Int32).toNatClampNeg = 4 * (fz_17 54 y_15.toNatClampNeg).toNatClampNeg + rkp nG 0 from (show x_32.toInt.toNat = 4 * (fz_17 54 y_15.toNatClampNeg).toInt.toNat + rkp nG 0 by omega)]; exact gx_33
              have gbx_33 : 0 ≤ x_33.toInt ∧ x_33.toInt ≤ 9999 := by rw [gwx_33]; exact csW_b hCS _ _
              refine lv_istore (lv' := [(6, .int x_33), (5, .int y_15), (0, .ref g0), (1, .int x1), (2, .int x2), (3, .int x3)]) hx hb dX11_chooses_130 hl (by decide) rfl (fun ls hl => ?_)
              refine lv_iload hx hb dX11_chooses_132 (lv_at hl 0 rfl) ?_
              refine lv_if_eq (tgt := 175) hx hb dX11_chooses_134 (by decide) (fun c_34 => ?_) (fun c_34 => ?_)
              · have dc_34 := c_eq (a := x_33.toInt) (b := 0) rfl (by decide) c_34
                exact cut_23  z_16 fz_17 _ _ ls hq0_cut_14 hq1_cut_14 (RS_sk hCS.2.2.1 (show 0 < hnd nG by have q := hCS.1; omega) hPR (show y_15.toInt.toNat < MG by have q := hCS.2.1; omega) (sk_w (by omega) (show 0 < hnd nG by have q := hCS.1; omega)) hq2_cut_14) hVz_16 hAz_16 hRz_16 hP hD hS (lv_sub hl [1, 2, 3, 4, 5] rfl)
              · have dc_34 := c_ne (a := x_33.toInt) (b := 0) rfl (by decide) c_34
                refine lv_iload_n hx hb dX11_chooses_137 rfl (lv_at hl 4 rfl) ?_
                refine lv_iload hx hb dX11_chooses_138 (lv_at hl 1 rfl) ?_
                refine lv_ishr hx hb dX11_chooses_140 ?_
                refine lv_topi (fun x_35 ex_35 => ?_)
                refine lv_iconst (v := 1) hx hb dX11_chooses_141 (by decide) ?_
                refine lv_iand hx hb dX11_chooses_142 ?_
                refine lv_topi (fun x_36 ex_36 => ?_)
                refine lv_iconst (v := 1) hx hb dX11_chooses_143 (by decide) ?_
                refine lv_icmp_ne (tgt := 150) hx hb dX11_chooses_144 (by decide) (fun c_37 => ?_) (fun c_37 => ?_)
                · have dc_37 := c_ne (a := x_36.toInt) (b := 1) rfl (by decide) c_37
                  have nu_38 : ¬ ubI x2 y_15 := fun q => c_37 (by unfold ubI at q; rw [← ex_35, ← ex_36] at q; exact q)
                  refine lv_aload_n hx hb dX11_chooses_150 rfl (lv_at hl 2 rfl) ?_
                  refine va_get (D := (dC, dI)) (ci := 11) (v := .ref (pq 56)) (C := RX11) (T := TX11) (N := 63) hx hb hts in_wsX11_chooses_X11 hown hK hP 0 rfl rfl 56 (by decide) (hts (.fieldLink RX11 143 "ShipOfficeModel" "hand" "[I") iw_X11_chooses_4) (fun _ h9 => h9) rfl dX11_chooses_151 ?_
                  refine lv_iload_n hx hb dX11_chooses_154 rfl (lv_at hl 3 rfl) ?_
                  refine lv_iload hx hb dX11_chooses_155 (lv_at hl 1 rfl) ?_
                  refine va_iast hx hb hK hP hD hS 45 44 rfl rfl (vp_in_iff.mpr (by omega)) dX11_chooses_157 (fun H locs hP hD hS => ?_)
                  have hP : va_P (dC, dI) vwCl (mW g0 pq cp z_16 (upF fz_17 56 (x1 : Int32).toNatClampNeg y_15)) H := hP
                  have hD : va_D A (mW g0 pq cp z_16 (upF fz_17 56 (x1 : Int32).toNatClampNeg y_15)) := hD
                  obtain ⟨fz_39, efz_39⟩ : ∃ zq, zq = (upF fz_17 56 (x1 : Int32).toNatClampNeg y_15) := ⟨_, rfl⟩
                  rw [← efz_39] at hP hD
                  have hAfz_39 : mA fz_39 := by rw [efz_39]; exact mA_upF (lo := 0) (hi := 11) hAz_16 rfl rfl (by omega)
                  have hRfz_39 : scr v fa z_16 fz_39 := by rw [efz_39]; exact scr.uF hRz_16 rfl
                  have g_40 : (fz_39 5 (x_32 : Int32).toNatClampNeg).toInt = (fz_17 5 (x_32 : Int32).toNatClampNeg).toInt := by rw [efz_39]; exact uF_ne (by decide)
                  have g_41 : (fz_39 54 (y_15 : Int32).toNatClampNeg).toInt = (fz_17 54 (y_15 : Int32).toNatClampNeg).toInt := by rw [efz_39]; exact uF_ne (by decide)
                  have g_42 : (fz_39 55 (x1 : Int32).toNatClampNeg).toInt = (fz_17 55 (x1 : Int32).toNatClampNeg).toInt := by rw [efz_39]; exact uF_ne (by decide)
                  have q0_43 : fz_39 0 = fa 0 := by rw [efz_39]; exact (if_neg (by decide)).trans (hRz_16.2 0 rfl)
                  refine lv_aload_n hx hb dX11_chooses_158 rfl (lv_at hl 2 rfl) ?_
                  refine lv_iload_n hx hb dX11_chooses_159 rfl (lv_at hl 3 rfl) ?_
                  refine lv_iconst (v := 1) hx hb dX11_chooses_160 (by decide) ?_
                  refine lv_iadd hx hb dX11_chooses_161 ?_
                  refine lv_topi (fun x_44 ex_44 => ?_)
                  have hx_44 : x_44.toInt = x1.toInt + 1 := (iv_to ex_44).trans (ad_i rfl (by decide) (by omega) (by omega))
                  refine lv_iload_n hx hb dX11_chooses_162 rfl (lv_at hl 4 rfl) ?_
                  refine lv_iconst (v := 1) hx hb dX11_chooses_163 (by decide) ?_
                  refine lv_iload hx hb dX11_chooses_164 (lv_at hl 1 rfl) ?_
                  refine lv_ishl hx hb dX11_chooses_166 ?_
                  refine lv_topi (fun x_45 ex_45 => ?_)
                  refine lv_ior hx hb dX11_chooses_167 ?_
                  refine lv_topi (fun x_46 ex_46 => ?_)
                  refine lv_iload_n hx hb dX11_chooses_168 rfl (lv_at hl 5 rfl) ?_
                  refine lv_iload hx hb dX11_chooses_169 (lv_at hl 0 rfl) ?_
                  refine lv_iadd hx hb dX11_chooses_171 ?_
                  refine lv_topi (fun x_47 ex_47 => ?_)
                  have hx_47 : x_47.toInt = x3.toInt + x_33.toInt := (iv_to ex_47).trans (ad_i rfl rfl (by omega) (by omega))
                  have eo9 : x_46 = x2 ||| (1 <<< (y_15 &&& 31)) := by rw [ex_46, ex_45]
                  obtain ⟨q1, q2, q3, q4, q5, q6, q7, q8⟩ := ch_pre (x2 := x2) (x3 := x3) (y3 := x_47) hCS hq0_cut_14 hq1_cut_14 efz_39 (show (x1 : Int32).toInt.toNat = 0 by omega) ⟨by omega, by omega⟩ (show y_15.toInt.toNat < MG by have q := hCS.2.1; omega) hPR (by omega) nu_38 hq3_cut_14 hsm (by omega) hus hq2_cut_14
                  have qb := sw_b (n := nG) (W := csW fz_39) (t := csT fz_39) (h := 0 + 1) (fun p hp => ⟨(q4.1 p hp).2, (csW_b q3 _ _).2⟩)
                  rw [← eo9] at q6
                  have hFc := va_free (wc := (mW g0 pq cp z_16 fz_39)) hD hS hA (List.range 48) rfl
                  refine va_callv (va_runV (As := [.int x_44, .int x_46, .int x_47]) (rest := []) ⟨hx, hb, hml, hown, hts⟩ (c_X11_chooses_1w l dC dI H.size g0 pq cp z_16 fz_39 hVz_16 hAfz_39 x_44 (by omega) x_46 x_47 (by omega) (by have q := q3.1; omega) nG MG q3 q4 q5 q6 q8) (cwV 3 hts gX11_chooses_X11_chooses rfl rfl rfl (by decide +kernel) ⟨(Nat.le_of_ble_eq_true rfl), (Nat.le_of_ble_eq_true rfl)⟩) (pr_V (r := (RX11, TX11, 63)) hP hK hD 0 11 rfl rfl) rfl rfl hl.1 rfl (lv_room (Nat.le_of_ble_eq_true rfl)) dX11_chooses_172 ⟨(Nat.le_of_ble_eq_true rfl), (Nat.le_of_ble_eq_true rfl)⟩) hS (fun q _ h => hFc q h) hFc (fun u t H locs ht hvm w_48 hB hz1 hk1 hS => ?_)
                  obtain ⟨v_50, fa_51⟩ := u
                  obtain ⟨hP1, hK1, hD1⟩ := hB
                  rw [ht] at hP1
                  have hP : va_P (dC, dI) vwCl (mW g0 pq cp v_50 fa_51) H := hP1
                  have hD : va_D A (mW g0 pq cp v_50 fa_51) := hD1.weaken (fun _ _ _ h => hFc _ h)
                  clear hP1 hK1 hD1 hk1 hz1 hvm ht hFc
                  obtain ⟨hV_52, hA_53, hR_54, hx_55⟩ := w_48
                  dsimp only at hV_52 hA_53 hR_54 hx_55
                  have g_56 : (fa_51 5 (x_32 : Int32).toNatClampNeg).toInt = (fz_39 5 (x_32 : Int32).toNatClampNeg).toInt := congrArg (fun h : Nat → Int32 => Int32.toInt (h (x_32 : Int32).toNatClampNeg)) (hR_54.2 5 rfl)
                  have R_57 := scr.tr hRfz_39 hR_54
                  have q0_58 : fa_51 0 = fa 0 := (hR_54.2 0 rfl).trans q0_43
                  obtain ⟨p1, p2, p3⟩ := hx_55
                  obtain ⟨r1, r2, r3⟩ := ch_post q1 q2 q7 p1 p2 p3
                  exact cut_23  v_50 fa_51 _ _ ls r1 r2 r3 hV_52 hA_53 R_57 hP hD hS (lv_sub hl [1, 2, 3, 4, 5] rfl)
                · have dc_37 := c_eq (a := x_36.toInt) (b := 1) rfl (by decide) c_37
                  have us_59 : ubI x2 y_15 := by unfold ubI; rw [← ex_35, ← ex_36]; exact c_37
                  refine lv_goto (tgt := 175) hx hb dX11_chooses_147 (by decide) ?_
                  exact cut_23  z_16 fz_17 _ _ ls hq0_cut_14 hq1_cut_14 (RS_sk hCS.2.2.1 (show 0 < hnd nG by have q := hCS.1; omega) hPR (show y_15.toInt.toNat < MG by have q := hCS.2.1; omega) (sk_u ((hus y_15 (by omega) (by omega)).mp us_59) (show 0 < hnd nG by have q := hCS.1; omega)) hq2_cut_14) hVz_16 hAz_16 hRz_16 hP hD hS (lv_sub hl [1, 2, 3, 4, 5] rfl)
        exact cut_14 13 y_8 v fa _ _ ls (by omega) (by omega) smC.rf hdE.rf (RS_en hCS.2.2.1 (show 0 < hnd nG by have q := hCS.1; omega) hPR hq1_cut_7 rfl hRS) (Nat.le_of_eq hq1_cut_7.symm) (by have q2 := frs_M hPR; rw [← hq1_cut_7] at q2; have q3 : y_8.toNatClampNeg = y_8.toInt.toNat := rfl; omega) hVz_9 hAz_9 hRz_9 hP hD hS (lv_sub hl [0, 2, 3, 4, 5] rfl)
      refine lv_iload_n hx hb dX11_chooses_59 rfl (lv_at hl 1 rfl) ?_
      refine lv_if_le (tgt := 93) hx hb dX11_chooses_60 (by decide) (fun c_60 => ?_) (fun c_60 => ?_)
      · have dc_60 := c_le (a := x1.toInt) (b := 0) rfl (by decide) c_60
        refine lv_iconst (v := 0) hx hb dX11_chooses_93 (by decide) ?_
        refine lv_istore (lv' := [(4, .int 0), (0, .ref g0), (1, .int x1), (2, .int x2), (3, .int x3)]) hx hb dX11_chooses_94 hl (by decide) rfl (fun ls hl => ?_)
        have kc_61 : (0 : Int32).toInt = 0 := by decide
        exact cut_7 0 v fa _ _ ls (by decide) ⟨rfl, rfl⟩ (show (0 : Int32).toNatClampNeg = frs nG 0 (csT fa) by unfold frs; rw [if_neg (fun q => absurd q.1 (by decide))]; rfl) gV gA scr.rf hP hD hS (by omega) (by omega) (by omega) (lv_sub hl [0, 1, 2, 3, 4] rfl)
      · have dc_60 := c_nle (a := x1.toInt) (b := 0) rfl (by decide) c_60
        exfalso; omega
    · have dc_6 := c_eq (a := x1.toInt) (b := x_5.toInt) rfl rfl c_6
      refine lv_aload_n hx hb dX11_chooses_24 rfl (lv_at hl 0 rfl) ?_
      refine lv_iload_n hx hb dX11_chooses_25 rfl (lv_at hl 3 rfl) ?_
      refine va_put (D := (dC, dI)) (ci := 11) (v := .int x3) (ty := .int) (C := RX11) (T := TX11) (N := 63) hx hb hts in_wsX11_chooses_X11 tyX11 tyX11_ok nmX11 hown hK hP hD hS 0 rfl rfl 60 (by decide) (hts (.fieldLink RX11 338 "ShipOfficeModel" "least" "I") iw_X11_chooses_1) (fun _ h9 => h9) rfl (by decide +kernel) rfl rfl (Nat.le_of_ble_eq_true rfl) dX11_chooses_26 (fun H locs hP hD hS => ?_)
      have hP : va_P (dC, dI) vwCl (mW g0 pq cp (upd v 60 x3) fa) H := hP
      have hD : va_D A (mW g0 pq cp (upd v 60 x3) fa) := hD
      obtain ⟨z_62, ez_62⟩ : ∃ zq, zq = (upd v 60 x3) := ⟨_, rfl⟩
      rw [← ez_62] at hP hD
      have hVz_62 : mV z_62 := by rw [ez_62]; exact mV_upd (lo := -2147483648) (hi := 2147483647) gV rfl rfl (iv_all _)
      have hRz_62 : scr v fa z_62 fa := by rw [ez_62]; exact scr.up scr.rf rfl
      have g_63 : (z_62 58).toInt = (v 58).toInt := by rw [ez_62]; exact congrArg Int32.toInt (if_neg (by decide))
      have g_64 : (z_62 59).toInt = (v 59).toInt := by rw [ez_62]; exact congrArg Int32.toInt (if_neg (by decide))
      have g_65 : (z_62 60).toInt = x3.toInt := by rw [ez_62, show upd v 60 x3 60 = x3 from if_pos rfl]
      have sm_66 : smC v fa z_62 fa := by rw [ez_62]; exact smC.up smC.rf (by decide) (by decide)
      refine lv_iconst (v := 0) hx hb dX11_chooses_29 (by decide) ?_
      refine lv_istore (lv' := [(4, .int 0), (0, .ref g0), (1, .int x1), (2, .int x2), (3, .int x3)]) hx hb dX11_chooses_30 hl (by decide) rfl (fun ls hl => ?_)
      have cut_67 : ∀ (n : Nat) (y_68 : Int32) (z_69 : Nat → Int32) (fz_70 : Nat → Nat → Int32) (H : Heap) (locs : List Loc) (ls : Array Slot), 8 - y_68.toInt ≤ (n : Int) → (0 ≤ y_68.toInt ∧ y_68.toInt ≤ 8) → smC v fa z_69 fz_70 → hdE 0 fa fz_70 → (∀ p, p < y_68.toNatClampNeg → csB fz_70 p = csT fa p) → mV z_69 → mA fz_70 → scr v fa z_69 fz_70 → va_P (dC, dI) vwCl (mW g0 pq cp z_69 fz_70) H → va_D A (mW g0 pq cp z_69 fz_70) → va_S A s.heap H locs → (z_69 58).toInt = (z_62 58).toInt → (z_69 59).toInt = (z_62 59).toInt → (z_69 60).toInt = (z_62 60).toInt → lv_has ls 7 [(4, .int y_68), (0, .ref g0), (1, .int x1), (2, .int x2), (3, .int x3)] → W p l e (headSpec wsX11_chooses { frames := 8, cells := 0, slots := 0, locals := 208 }).room s m #[Value.ref g0, Value.int x1, Value.int x2, Value.int x3] below meth c H locs 0 0 (MQ below (va_Qv (fun (u : (Nat → Int32) × (Nat → Nat → Int32)) => mV u.1 ∧ mA u.2 ∧ scr v fa u.1 u.2 ∧ (smC v fa u.1 u.2 ∧ hdE 0 fa u.2 ∧ RS nG MG (csW fa) 0 (pc (csT fa) 0 + 1) (u.1 60).toInt (csB u.2))) (fun u t => va_P (dC, dI) vwCl (mW g0 pq cp u.1 u.2) t.heap ∧ va_K (dC, dI) vwCl (mT cp) t ∧ va_D A (mW g0 pq cp u.1 u.2)) A) #[Value.ref g0, Value.int x1, Value.int x2, Value.int x3] s 0 0 A) (F0 m 32 ls []) := by
        intro n
        induction n using Nat.strongRecOn with
        | ind n ih =>
          intro y_68 z_69 fz_70 H locs ls hm hy_68 hq0_cut_67 hq1_cut_67 hq2_cut_67 hVz_69 hAz_69 hRz_69 hP hD hS g_71 g_72 g_73 hl
          have gm_74 := congrArg Int32.toInt hq0_cut_67.2.1
          have gm_75 := congrArg Int32.toInt hq0_cut_67.1
          refine lv_iload hx hb dX11_chooses_32 (lv_at hl 0 rfl) ?_
          refine lv_iload_n hx hb dX11_chooses_34 rfl (lv_at hl 2 rfl) ?_
          refine lv_icmp_ge (tgt := 58) hx hb dX11_chooses_35 (by decide) (fun c_76 => ?_) (fun c_76 => ?_)
          · have dc_76 := c_le (a := x1.toInt) (b := y_68.toInt) rfl rfl c_76
            exact W.vret hx hb hr (fun t ht hW => ⟨⟨(z_69, fz_70), rfl, ⟨hVz_69, hAz_69, hRz_69, ⟨hq0_cut_67, hq1_cut_67, RS_lf (show 0 = hnd nG by have q := hCS.1; omega) hPR (fun p hp => hq2_cut_67 p (show p < y_68.toInt.toNat by omega)) (by omega) (by dsimp only; omega) (sw_b (n := nG) (W := csW fa) (t := csT fa) (h := 0) (fun p hp => ⟨(hPR.1 p hp).2, (csW_b hCS _ _).2⟩)).1 hCS.2.2.1 hRS⟩⟩, ⟨by rw [ht]; exact hP, va_K.moved hW.alike hK, hD⟩⟩, hS.F ht⟩) hS.2.2 dX11_chooses_58
          · have dc_76 := c_nle (a := x1.toInt) (b := y_68.toInt) rfl rfl c_76
            exfalso; omega
      have kc_77 : (0 : Int32).toInt = 0 := by decide
      exact cut_67 9 0 z_62 fa _ _ ls (by omega) (by decide) sm_66 hdE.rf (al_0 (by decide)) hVz_62 gA hRz_62 hP hD hS (by omega) (by omega) (by omega) (lv_sub hl [0, 1, 2, 3, 4] rfl)
  · have dc_4 := c_nlt (a := x_3.toInt) (b := 0) rfl (by decide) c_4
    refine lv_iload_n hx hb dX11_chooses_7 rfl (lv_at hl 3 rfl) ?_
    refine lv_aload_n hx hb dX11_chooses_8 rfl (lv_at hl 0 rfl) ?_
    refine va_get (D := (dC, dI)) (ci := 11) (v := .int (v 60)) (C := RX11) (T := TX11) (N := 63) hx hb hts in_wsX11_chooses_X11 hown hK hP 0 rfl rfl 60 (by decide) (hts (.fieldLink RX11 338 "ShipOfficeModel" "least" "I") iw_X11_chooses_1) (fun _ h9 => h9) rfl dX11_chooses_9 ?_
    refine lv_topi (fun x_78 ex_78 => ?_)
    have gx_78 : x_78.toInt = (v 60).toInt := iv_to ex_78
    clear ex_78
    refine lv_icmp_lt (tgt := 16) hx hb dX11_chooses_12 (by decide) (fun c_79 => ?_) (fun c_79 => ?_)
    · have dc_79 := c_lt (a := x3.toInt) (b := x_78.toInt) rfl rfl c_79
      refine lv_iload_n hx hb dX11_chooses_16 rfl (lv_at hl 1 rfl) ?_
      refine lv_aload_n hx hb dX11_chooses_17 rfl (lv_at hl 0 rfl) ?_
      refine va_get (D := (dC, dI)) (ci := 11) (v := .int (v 59)) (C := RX11) (T := TX11) (N := 63) hx hb hts in_wsX11_chooses_X11 hown hK hP 0 rfl rfl 59 (by decide) (hts (.fieldLink RX11 341 "ShipOfficeModel" "hands" "I") iw_X11_chooses_2) (fun _ h9 => h9) rfl dX11_chooses_18 ?_
      refine lv_topi (fun x_80 ex_80 => ?_)
      have hx_80 : 0 ≤ x_80.toInt ∧ x_80.toInt ≤ 8 := iv_of ex_80 (gV 59)
      have gx_80 : x_80.toInt = (v 59).toInt := iv_to ex_80
      clear ex_80
      refine lv_icmp_ne (tgt := 59) hx hb dX11_chooses_21 (by decide) (fun c_81 => ?_) (fun c_81 => ?_)
      · have dc_81 := c_ne (a := x1.toInt) (b := x_80.toInt) rfl rfl c_81
        have cut_82 : ∀ (y_83 : Int32) (z_84 : Nat → Int32) (fz_85 : Nat → Nat → Int32) (H : Heap) (locs : List Loc) (ls : Array Slot), (0 ≤ y_83.toInt ∧ y_83.toInt ≤ 12) → (v = z_84 ∧ fa = fz_85) → y_83.toNatClampNeg = frs nG 0 (csT fa) → mV z_84 → mA fz_85 → scr v fa z_84 fz_85 → va_P (dC, dI) vwCl (mW g0 pq cp z_84 fz_85) H → va_D A (mW g0 pq cp z_84 fz_85) → va_S A s.heap H locs → (z_84 58).toInt = (v 58).toInt → (z_84 59).toInt = (v 59).toInt → (z_84 60).toInt = (v 60).toInt → lv_has ls 7 [(4, .int y_83), (0, .ref g0), (1, .int x1), (2, .int x2), (3, .int x3)] → W p l e (headSpec wsX11_chooses { frames := 8, cells := 0, slots := 0, locals := 208 }).room s m #[Value.ref g0, Value.int x1, Value.int x2, Value.int x3] below meth c H locs 0 0 (MQ below (va_Qv (fun (u : (Nat → Int32) × (Nat → Nat → Int32)) => mV u.1 ∧ mA u.2 ∧ scr v fa u.1 u.2 ∧ (smC v fa u.1 u.2 ∧ hdE 0 fa u.2 ∧ RS nG MG (csW fa) 0 (pc (csT fa) 0 + 1) (u.1 60).toInt (csB u.2))) (fun u t => va_P (dC, dI) vwCl (mW g0 pq cp u.1 u.2) t.heap ∧ va_K (dC, dI) vwCl (mT cp) t ∧ va_D A (mW g0 pq cp u.1 u.2)) A) #[Value.ref g0, Value.int x1, Value.int x2, Value.int x3] s 0 0 A) (F0 m 96 ls []) := by
          intro y_83 z_84 fz_85 H locs ls hy_83 hq0_cut_82 hq1_cut_82 hVz_84 hAz_84 hRz_84 hP hD hS g_86 g_87 g_88 hl
          obtain ⟨rfl, rfl⟩ := hq0_cut_82
          refine lv_iload hx hb dX11_chooses_96 (lv_at hl 0 rfl) ?_
          refine lv_istore (lv' := [(5, .int y_83), (4, .int y_83), (0, .ref g0), (1, .int x1), (2, .int x2), (3, .int x3)]) hx hb dX11_chooses_98 hl (by decide) rfl (fun ls hl => ?_)
          have cut_89 : ∀ (n : Nat) (y_90 : Int32) (z_91 : Nat → Int32) (fz_92 : Nat → Nat → Int32) (H : Heap) (locs : List Loc) (ls : Array Slot), 12 - y_90.toInt ≤ (n : Int) → (0 ≤ y_90.toInt ∧ y_90.toInt ≤ 12) → smC v fa z_91 fz_92 → hdE 0 fa fz_92 → RS nG MG (csW fa) 1 (16 * pc (csT fa) 0 + y_90.toNatClampNeg) (z_91 60).toInt (csB fz_92) → frs nG 0 (csT fa) ≤ y_90.toNatClampNeg → y_90.toInt ≤ (MG : Int) → mV z_91 → mA fz_92 → scr v fa z_91 fz_92 → va_P (dC, dI) vwCl (mW g0 pq cp z_91 fz_92) H → va_D A (mW g0 pq cp z_91 fz_92) → va_S A s.heap H locs → lv_has ls 7 [(5, .int y_90), (0, .ref g0), (1, .int x1), (2, .int x2), (3, .int x3)] → W p l e (headSpec wsX11_chooses { frames := 8, cells := 0, slots := 0, locals := 208 }).room s m #[Value.ref g0, Value.int x1, Value.int x2, Value.int x3] below meth c H locs 0 0 (MQ below (va_Qv (fun (u : (Nat → Int32) × (Nat → Nat → Int32)) => mV u.1 ∧ mA u.2 ∧ scr v fa u.1 u.2 ∧ (smC v fa u.1 u.2 ∧ hdE 0 fa u.2 ∧ RS nG MG (csW fa) 0 (pc (csT fa) 0 + 1) (u.1 60).toInt (csB u.2))) (fun u t => va_P (dC, dI) vwCl (mW g0 pq cp u.1 u.2) t.heap ∧ va_K (dC, dI) vwCl (mT cp) t ∧ va_D A (mW g0 pq cp u.1 u.2)) A) #[Value.ref g0, Value.int x1, Value.int x2, Value.int x3] s 0 0 A) (F0 m 100 ls []) := by
            intro n
            induction n using Nat.strongRecOn with
            | ind n ih =>
              intro y_90 z_91 fz_92 H locs ls hm hy_90 hq0_cut_89 hq1_cut_89 hq2_cut_89 hq3_cut_89 hq4_cut_89 hVz_91 hAz_91 hRz_91 hP hD hS hl
              have gm_93 := congrArg Int32.toInt hq0_cut_89.2.1
              have gm_94 := congrArg Int32.toInt hq0_cut_89.1
              have tn_95 : ((y_90.toNatClampNeg : Nat) : Int) = y_90.toInt := tn_i (by omega)
              refine lv_iload hx hb dX11_chooses_100 (lv_at hl 0 rfl) ?_
              refine lv_aload_n hx hb dX11_chooses_102 rfl (lv_at hl 1 rfl) ?_
              refine va_get (D := (dC, dI)) (ci := 11) (v := .int (z_91 58)) (C := RX11) (T := TX11) (N := 63) hx hb hts in_wsX11_chooses_X11 hown hK hP 0 rfl rfl 58 (by decide) (hts (.fieldLink RX11 344 "ShipOfficeModel" "someMany" "I") iw_X11_chooses_6) (fun _ h9 => h9) rfl dX11_chooses_103 ?_
              refine lv_topi (fun x_96 ex_96 => ?_)
              have hx_96 : 0 ≤ x_96.toInt ∧ x_96.toInt ≤ 12 := iv_of ex_96 (hVz_91 58)
              have gx_96 : x_96.toInt = (z_91 58).toInt := iv_to ex_96
              clear ex_96
              refine lv_icmp_ge (tgt := 181) hx hb dX11_chooses_106 (by decide) (fun c_97 => ?_) (fun c_97 => ?_)
              · have dc_97 := c_le (a := x_96.toInt) (b := y_90.toInt) rfl rfl c_97
                exact W.vret hx hb hr (fun t ht hW => ⟨⟨(z_91, fz_92), rfl, ⟨hVz_91, hAz_91, hRz_91, ⟨hq0_cut_89, hq1_cut_89, RS_lp hCS.2.2.1 (show 0 < hnd nG by have q := hCS.1; omega) (show y_90.toInt.toNat = MG by have q := hCS.2.1; omega) hq2_cut_89⟩⟩, ⟨by rw [ht]; exact hP, va_K.moved hW.alike hK, hD⟩⟩, hS.F ht⟩) hS.2.2 dX11_chooses_181
              · have dc_97 := c_nle (a := x_96.toInt) (b := y_90.toInt) rfl rfl c_97
                have cut_98 : ∀ (z_99 : Nat → Int32) (fz_100 : Nat → Nat → Int32) (H : Heap) (locs : List Loc) (ls : Array Slot), smC v fa z_99 fz_100 → hdE 0 fa fz_100 → RS nG MG (csW fa) 1 (16 * pc (csT fa) 0 + (y_90.toNatClampNeg + 1)) (z_99 60).toInt (csB fz_100) → mV z_99 → mA fz_100 → scr v fa z_99 fz_100 → va_P (dC, dI) vwCl (mW g0 pq cp z_99 fz_100) H → va_D A (mW g0 pq cp z_99 fz_100) → va_S A s.heap H locs → lv_has ls 7 [(5, .int y_90), (0, .ref g0), (1, .int x1), (2, .int x2), (3, .int x3)] → W p l e (headSpec wsX11_chooses { frames := 8, cells := 0, slots := 0, locals := 208 }).room s m #[Value.ref g0, Value.int x1, Value.int x2, Value.int x3] below meth c H locs 0 0 (MQ below (va_Qv (fun (u : (Nat → Int32) × (Nat → Nat → Int32)) => mV u.1 ∧ mA u.2 ∧ scr v fa u.1 u.2 ∧ (smC v fa u.1 u.2 ∧ hdE 0 fa u.2 ∧ RS nG MG (csW fa) 0 (pc (csT fa) 0 + 1) (u.1 60).toInt (csB u.2))) (fun u t => va_P (dC, dI) vwCl (mW g0 pq cp u.1 u.2) t.heap ∧ va_K (dC, dI) vwCl (mT cp) t ∧ va_D A (mW g0 pq cp u.1 u.2)) A) #[Value.ref g0, Value.int x1, Value.int x2, Value.int x3] s 0 0 A) (F0 m 175 ls []) := by
                  intro  z_99 fz_100 H locs ls hq0_cut_98 hq1_cut_98 hq2_cut_98 hVz_99 hAz_99 hRz_99 hP hD hS hl
                  have gm_101 := congrArg Int32.toInt hq0_cut_98.2.1
                  have gm_102 := congrArg Int32.toInt hq0_cut_98.1
                  obtain ⟨x_103, ex_103⟩ : ∃ zq : Int32, y_90 + 1 = zq := ⟨_, rfl⟩
                  have hx_103 : x_103.toInt = y_90.toInt + 1 := (iv_to ex_103).symm.trans (ad_i rfl (by decide) (by omega) (by omega))
                  refine lv_iinc (v := x_103) (lv' := [(5, .int x_103), (0, .ref g0), (1, .int x1), (2, .int x2), (3, .int x3)]) hx hb dX11_chooses_175 hl (k := 0) rfl ex_103 (by decide) rfl (fun ls hl => ?_)
                  clear ex_103
                  refine lv_goto (tgt := 100) hx hb dX11_chooses_178 (by decide) ?_
                  exact ih (n - 1) (by omega) x_103 z_99 fz_100 _ _ ls (by omega) (by omega) hq0_cut_98 hq1_cut_98 (by rw [show x_103.toNatClampNeg = y_90.toNatClampNeg + 1 from (show x_103.toInt.toNat = y_90.toInt.toNat + 1 by omega)]; exact hq2_cut_98) (by rw [show x_103.toNatClampNeg = y_90.toNatClampNeg + 1 from (show x_103.toInt.toNat = y_90.toInt.toNat + 1 by omega)]; exact Nat.le_succ_of_le hq3_cut_89) (by have q := hCS.2.1; omega) hVz_99 hAz_99 hRz_99 hP hD hS (lv_sub hl [0, 1, 2, 3, 4] rfl)
                refine lv_aload_n hx hb dX11_chooses_109 rfl (lv_at hl 1 rfl) ?_
                refine va_get (D := (dC, dI)) (ci := 11) (v := .ref (pq 5)) (C := RX11) (T := TX11) (N := 63) hx hb hts in_wsX11_chooses_X11 hown hK hP 0 rfl rfl 5 (by decide) (hts (.fieldLink RX11 25 "ShipOfficeModel" "asks" "[I") iw_X11_chooses_7) (fun _ h9 => h9) rfl dX11_chooses_110 ?_
                refine lv_iconst (v := 4) hx hb dX11_chooses_113 (by decide) ?_
                refine lv_aload_n hx hb dX11_chooses_114 rfl (lv_at hl 1 rfl) ?_
                refine va_get (D := (dC, dI)) (ci := 11) (v := .ref (pq 54)) (C := RX11) (T := TX11) (N := 63) hx hb hts in_wsX11_chooses_X11 hown hK hP 0 rfl rfl 54 (by decide) (hts (.fieldLink RX11 137 "ShipOfficeModel" "some" "[I") iw_X11_chooses_8) (fun _ h9 => h9) rfl dX11_chooses_115 ?_
                refine lv_iload hx hb dX11_chooses_118 (lv_at hl 0 rfl) ?_
                refine va_iald hx hb hK hP 43 42 rfl rfl (vp_in_iff.mpr (by omega)) dX11_chooses_120 ?_
                refine lv_topi (fun x_104 ex_104 => ?_)
                have hx_104 : 0 ≤ x_104.toInt ∧ x_104.toInt ≤ 39 := iv_of ex_104 (hAz_91 54 _)
                have gx_104 : x_104.toInt = (fz_92 54 (y_90 : Int32).toNatClampNeg).toInt := iv_to ex_104
                clear ex_104
                refine lv_imul hx hb dX11_chooses_121 ?_
                refine lv_topi (fun x_105 ex_105 => ?_)
                have hx_105 : x_105.toInt = 4 * x_104.toInt := (iv_to ex_105).trans (mu_i (by decide) rfl (by omega) (by omega))
                refine lv_aload_n hx hb dX11_chooses_122 rfl (lv_at hl 1 rfl) ?_
                refine va_get (D := (dC, dI)) (ci := 11) (v := .ref (pq 55)) (C := RX11) (T := TX11) (N := 63) hx hb hts in_wsX11_chooses_X11 hown hK hP 0 rfl rfl 55 (by decide) (hts (.fieldLink RX11 140 "ShipOfficeModel" "handRank" "[I") iw_X11_chooses_5) (fun _ h9 => h9) rfl dX11_chooses_123 ?_
                refine lv_iload_n hx hb dX11_chooses_126 rfl (lv_at hl 2 rfl) ?_
                refine va_iald hx hb hK hP 44 43 rfl rfl (vp_in_iff.mpr (by omega)) dX11_chooses_127 ?_
                refine lv_topi (fun x_106 ex_106 => ?_)
                have hx_106 : 0 ≤ x_106.toInt ∧ x_106.toInt ≤ 3 := iv_of ex_106 (hAz_91 55 _)
                have gx_106 : x_106.toInt = (fz_92 55 (x1 : Int32).toNatClampNeg).toInt := iv_to ex_106
                clear ex_106
                rw [show fz_92 55 = fa 55 from hq0_cut_89.2.2.1] at gx_106
                rw [show (x1 : Int32).toNatClampNeg = 0 from (show x1.toInt.toNat = 0 by omega), hCS.2.2.2.1 0 (by have q := hCS.1; omega)] at gx_106
                refine lv_iadd hx hb dX11_chooses_128 ?_
                refine lv_topi (fun x_107 ex_107 => ?_)
                have hx_107 : x_107.toInt = x_105.toInt + x_106.toInt := (iv_to ex_107).trans (ad_i rfl rfl (by omega) (by omega))
                refine va_iald hx hb hK hP 6 5 rfl rfl (vp_in_iff.mpr (by omega)) dX11_chooses_129 ?_
                refine lv_topi (fun x_108 ex_108 => ?_)
                have gx_108 : x_108.toInt = (fz_92 5 (x_107 : Int32).toNatClampNeg).toInt := iv_to ex_108
                clear ex_108
                have gwx_108 : x_108.toInt = csW fa y_90.toNatClampNeg (rkp nG 0) := by rw [← csW_e hq0_cut_89]; unfold csW; rw [← show (x_107 : Int32).toNatClampNeg = 4 * (fz_92 54 y_90.toNatClampNeg).toNatClampNeg + rkp nG 0 from (show x_107.toInt.toNat = 4 * (fz_92 54 y_90.toNatClampNeg).toInt.toNat + rkp nG 0 by omega)]; exact gx_108
                have gbx_108 : 0 ≤ x_108.toInt ∧ x_108.toInt ≤ 9999 := by rw [gwx_108]; exact csW_b hCS _ _
                refine lv_istore (lv' := [(6, .int x_108), (5, .int y_90), (0, .ref g0), (1, .int x1), (2, .int x2), (3, .int x3)]) hx hb dX11_chooses_130 hl (by decide) rfl (fun ls hl => ?_)
                refine lv_iload hx hb dX11_chooses_132 (lv_at hl 0 rfl) ?_
                refine lv_if_eq (tgt := 175) hx hb dX11_chooses_134 (by decide) (fun c_109 => ?_) (fun c_109 => ?_)
                · have dc_109 := c_eq (a := x_108.toInt) (b := 0) rfl (by decide) c_109
                  exact cut_98  z_91 fz_92 _ _ ls hq0_cut_89 hq1_cut_89 (RS_sk hCS.2.2.1 (show 0 < hnd nG by have q := hCS.1; omega) hPR (show y_90.toInt.toNat < MG by have q := hCS.2.1; omega) (sk_w (by omega) (show 0 < hnd nG by have q := hCS.1; omega)) hq2_cut_89) hVz_91 hAz_91 hRz_91 hP hD hS (lv_sub hl [1, 2, 3, 4, 5] rfl)
                · have dc_109 := c_ne (a := x_108.toInt) (b := 0) rfl (by decide) c_109
                  refine lv_iload_n hx hb dX11_chooses_137 rfl (lv_at hl 4 rfl) ?_
                  refine lv_iload hx hb dX11_chooses_138 (lv_at hl 1 rfl) ?_
                  refine lv_ishr hx hb dX11_chooses_140 ?_
                  refine lv_topi (fun x_110 ex_110 => ?_)
                  refine lv_iconst (v := 1) hx hb dX11_chooses_141 (by decide) ?_
                  refine lv_iand hx hb dX11_chooses_142 ?_
                  refine lv_topi (fun x_111 ex_111 => ?_)
                  refine lv_iconst (v := 1) hx hb dX11_chooses_143 (by decide) ?_
                  refine lv_icmp_ne (tgt := 150) hx hb dX11_chooses_144 (by decide) (fun c_112 => ?_) (fun c_112 => ?_)
                  · have dc_112 := c_ne (a := x_111.toInt) (b := 1) rfl (by decide) c_112
                    have nu_113 : ¬ ubI x2 y_90 := fun q => c_112 (by unfold ubI at q; rw [← ex_110, ← ex_111] at q; exact q)
                    refine lv_aload_n hx hb dX11_chooses_150 rfl (lv_at hl 2 rfl) ?_
                    refine va_get (D := (dC, dI)) (ci := 11) (v := .ref (pq 56)) (C := RX11) (T := TX11) (N := 63) hx hb hts in_wsX11_chooses_X11 hown hK hP 0 rfl rfl 56 (by decide) (hts (.fieldLink RX11 143 "ShipOfficeModel" "hand" "[I") iw_X11_chooses_4) (fun _ h9 => h9) rfl dX11_chooses_151 ?_
                    refine lv_iload_n hx hb dX11_chooses_154 rfl (lv_at hl 3 rfl) ?_
                    refine lv_iload hx hb dX11_chooses_155 (lv_at hl 1 rfl) ?_
                    refine va_iast hx hb hK hP hD hS 45 44 rfl rfl (vp_in_iff.mpr (by omega)) dX11_chooses_157 (fun H locs hP hD hS => ?_)
                    have hP : va_P (dC, dI) vwCl (mW g0 pq cp z_91 (upF fz_92 56 (x1 : Int32).toNatClampNeg y_90)) H := hP
                    have hD : va_D A (mW g0 pq cp z_91 (upF fz_92 56 (x1 : Int32).toNatClampNeg y_90)) := hD
                    obtain ⟨fz_114, efz_114⟩ : ∃ zq, zq = (upF fz_92 56 (x1 : Int32).toNatClampNeg y_90) := ⟨_, rfl⟩
                    rw [← efz_114] at hP hD
                    have hAfz_114 : mA fz_114 := by rw [efz_114]; exact mA_upF (lo := 0) (hi := 11) hAz_91 rfl rfl (by omega)
                    have hRfz_114 : scr v fa z_91 fz_114 := by rw [efz_114]; exact scr.uF hRz_91 rfl
                    have g_115 : (fz_114 5 (x_107 : Int32).toNatClampNeg).toInt = (fz_92 5 (x_107 : Int32).toNatClampNeg).toInt := by rw [efz_114]; exact uF_ne (by decide)
                    have g_116 : (fz_114 54 (y_90 : Int32).toNatClampNeg).toInt = (fz_92 54 (y_90 : Int32).toNatClampNeg).toInt := by rw [efz_114]; exact uF_ne (by decide)
                    have g_117 : (fz_114 55 (x1 : Int32).toNatClampNeg).toInt = (fz_92 55 (x1 : Int32).toNatClampNeg).toInt := by rw [efz_114]; exact uF_ne (by decide)
                    have q0_118 : fz_114 0 = fa 0 := by rw [efz_114]; exact (if_neg (by decide)).trans (hRz_91.2 0 rfl)
                    refine lv_aload_n hx hb dX11_chooses_158 rfl (lv_at hl 2 rfl) ?_
                    refine lv_iload_n hx hb dX11_chooses_159 rfl (lv_at hl 3 rfl) ?_
                    refine lv_iconst (v := 1) hx hb dX11_chooses_160 (by decide) ?_
                    refine lv_iadd hx hb dX11_chooses_161 ?_
                    refine lv_topi (fun x_119 ex_119 => ?_)
                    have hx_119 : x_119.toInt = x1.toInt + 1 := (iv_to ex_119).trans (ad_i rfl (by decide) (by omega) (by omega))
                    refine lv_iload_n hx hb dX11_chooses_162 rfl (lv_at hl 4 rfl) ?_
                    refine lv_iconst (v := 1) hx hb dX11_chooses_163 (by decide) ?_
                    refine lv_iload hx hb dX11_chooses_164 (lv_at hl 1 rfl) ?_
                    refine lv_ishl hx hb dX11_chooses_166 ?_
                    refine lv_topi (fun x_120 ex_120 => ?_)
                    refine lv_ior hx hb dX11_chooses_167 ?_
                    refine lv_topi (fun x_121 ex_121 => ?_)
                    refine lv_iload_n hx hb dX11_chooses_168 rfl (lv_at hl 5 rfl) ?_
                    refine lv_iload hx hb dX11_chooses_169 (lv_at hl 0 rfl) ?_
                    refine lv_iadd hx hb dX11_chooses_171 ?_
                    refine lv_topi (fun x_122 ex_122 => ?_)
                    have hx_122 : x_122.toInt = x3.toInt + x_108.toInt := (iv_to ex_122).trans (ad_i rfl rfl (by omega) (by omega))
                    have eo9 : x_121 = x2 ||| (1 <<< (y_90 &&& 31)) := by rw [ex_121, ex_120]
                    obtain ⟨q1, q2, q3, q4, q5, q6, q7, q8⟩ := ch_pre (x2 := x2) (x3 := x3) (y3 := x_122) hCS hq0_cut_89 hq1_cut_89 efz_114 (show (x1 : Int32).toInt.toNat = 0 by omega) ⟨by omega, by omega⟩ (show y_90.toInt.toNat < MG by have q := hCS.2.1; omega) hPR (by omega) nu_113 hq3_cut_89 hsm (by omega) hus hq2_cut_89
                    have qb := sw_b (n := nG) (W := csW fz_114) (t := csT fz_114) (h := 0 + 1) (fun p hp => ⟨(q4.1 p hp).2, (csW_b q3 _ _).2⟩)
                    rw [← eo9] at q6
                    have hFc := va_free (wc := (mW g0 pq cp z_91 fz_114)) hD hS hA (List.range 48) rfl
                    refine va_callv (va_runV (As := [.int x_119, .int x_121, .int x_122]) (rest := []) ⟨hx, hb, hml, hown, hts⟩ (c_X11_chooses_1w l dC dI H.size g0 pq cp z_91 fz_114 hVz_91 hAfz_114 x_119 (by omega) x_121 x_122 (by omega) (by have q := q3.1; omega) nG MG q3 q4 q5 q6 q8) (cwV 3 hts gX11_chooses_X11_chooses rfl rfl rfl (by decide +kernel) ⟨(Nat.le_of_ble_eq_true rfl), (Nat.le_of_ble_eq_true rfl)⟩) (pr_V (r := (RX11, TX11, 63)) hP hK hD 0 11 rfl rfl) rfl rfl hl.1 rfl (lv_room (Nat.le_of_ble_eq_true rfl)) dX11_chooses_172 ⟨(Nat.le_of_ble_eq_true rfl), (Nat.le_of_ble_eq_true rfl)⟩) hS (fun q _ h => hFc q h) hFc (fun u t H locs ht hvm w_123 hB hz1 hk1 hS => ?_)
                    obtain ⟨v_125, fa_126⟩ := u
                    obtain ⟨hP1, hK1, hD1⟩ := hB
                    rw [ht] at hP1
                    have hP : va_P (dC, dI) vwCl (mW g0 pq cp v_125 fa_126) H := hP1
                    have hD : va_D A (mW g0 pq cp v_125 fa_126) := hD1.weaken (fun _ _ _ h => hFc _ h)
                    clear hP1 hK1 hD1 hk1 hz1 hvm ht hFc
                    obtain ⟨hV_127, hA_128, hR_129, hx_130⟩ := w_123
                    dsimp only at hV_127 hA_128 hR_129 hx_130
                    have g_131 : (fa_126 5 (x_107 : Int32).toNatClampNeg).toInt = (fz_114 5 (x_107 : Int32).toNatClampNeg).toInt := congrArg (fun h : Nat → Int32 => Int32.toInt (h (x_107 : Int32).toNatClampNeg)) (hR_129.2 5 rfl)
                    have R_132 := scr.tr hRfz_114 hR_129
                    have q0_133 : fa_126 0 = fa 0 := (hR_129.2 0 rfl).trans q0_118
                    obtain ⟨p1, p2, p3⟩ := hx_130
                    obtain ⟨r1, r2, r3⟩ := ch_post q1 q2 q7 p1 p2 p3
                    exact cut_98  v_125 fa_126 _ _ ls r1 r2 r3 hV_127 hA_128 R_132 hP hD hS (lv_sub hl [1, 2, 3, 4, 5] rfl)
                  · have dc_112 := c_eq (a := x_111.toInt) (b := 1) rfl (by decide) c_112
                    have us_134 : ubI x2 y_90 := by unfold ubI; rw [← ex_110, ← ex_111]; exact c_112
                    refine lv_goto (tgt := 175) hx hb dX11_chooses_147 (by decide) ?_
                    exact cut_98  z_91 fz_92 _ _ ls hq0_cut_89 hq1_cut_89 (RS_sk hCS.2.2.1 (show 0 < hnd nG by have q := hCS.1; omega) hPR (show y_90.toInt.toNat < MG by have q := hCS.2.1; omega) (sk_u ((hus y_90 (by omega) (by omega)).mp us_134) (show 0 < hnd nG by have q := hCS.1; omega)) hq2_cut_89) hVz_91 hAz_91 hRz_91 hP hD hS (lv_sub hl [1, 2, 3, 4, 5] rfl)
          exact cut_89 13 y_83 v fa _ _ ls (by omega) (by omega) smC.rf hdE.rf (RS_en hCS.2.2.1 (show 0 < hnd nG by have q := hCS.1; omega) hPR hq1_cut_82 rfl hRS) (Nat.le_of_eq hq1_cut_82.symm) (by have q2 := frs_M hPR; rw [← hq1_cut_82] at q2; have q3 : y_83.toNatClampNeg = y_83.toInt.toNat := rfl; omega) hVz_84 hAz_84 hRz_84 hP hD hS (lv_sub hl [0, 2, 3, 4, 5] rfl)
        refine lv_iload_n hx hb dX11_chooses_59 rfl (lv_at hl 1 rfl) ?_
        refine lv_if_le (tgt := 93) hx hb dX11_chooses_60 (by decide) (fun c_135 => ?_) (fun c_135 => ?_)
        · have dc_135 := c_le (a := x1.toInt) (b := 0) rfl (by decide) c_135
          refine lv_iconst (v := 0) hx hb dX11_chooses_93 (by decide) ?_
          refine lv_istore (lv' := [(4, .int 0), (0, .ref g0), (1, .int x1), (2, .int x2), (3, .int x3)]) hx hb dX11_chooses_94 hl (by decide) rfl (fun ls hl => ?_)
          have kc_136 : (0 : Int32).toInt = 0 := by decide
          exact cut_82 0 v fa _ _ ls (by decide) ⟨rfl, rfl⟩ (show (0 : Int32).toNatClampNeg = frs nG 0 (csT fa) by unfold frs; rw [if_neg (fun q => absurd q.1 (by decide))]; rfl) gV gA scr.rf hP hD hS (by omega) (by omega) (by omega) (lv_sub hl [0, 1, 2, 3, 4] rfl)
        · have dc_135 := c_nle (a := x1.toInt) (b := 0) rfl (by decide) c_135
          exfalso; omega
      · have dc_81 := c_eq (a := x1.toInt) (b := x_80.toInt) rfl rfl c_81
        refine lv_aload_n hx hb dX11_chooses_24 rfl (lv_at hl 0 rfl) ?_
        refine lv_iload_n hx hb dX11_chooses_25 rfl (lv_at hl 3 rfl) ?_
        refine va_put (D := (dC, dI)) (ci := 11) (v := .int x3) (ty := .int) (C := RX11) (T := TX11) (N := 63) hx hb hts in_wsX11_chooses_X11 tyX11 tyX11_ok nmX11 hown hK hP hD hS 0 rfl rfl 60 (by decide) (hts (.fieldLink RX11 338 "ShipOfficeModel" "least" "I") iw_X11_chooses_1) (fun _ h9 => h9) rfl (by decide +kernel) rfl rfl (Nat.le_of_ble_eq_true rfl) dX11_chooses_26 (fun H locs hP hD hS => ?_)
        have hP : va_P (dC, dI) vwCl (mW g0 pq cp (upd v 60 x3) fa) H := hP
        have hD : va_D A (mW g0 pq cp (upd v 60 x3) fa) := hD
        obtain ⟨z_137, ez_137⟩ : ∃ zq, zq = (upd v 60 x3) := ⟨_, rfl⟩
        rw [← ez_137] at hP hD
        have hVz_137 : mV z_137 := by rw [ez_137]; exact mV_upd (lo := -2147483648) (hi := 2147483647) gV rfl rfl (iv_all _)
        have hRz_137 : scr v fa z_137 fa := by rw [ez_137]; exact scr.up scr.rf rfl
        have g_138 : (z_137 58).toInt = (v 58).toInt := by rw [ez_137]; exact congrArg Int32.toInt (if_neg (by decide))
        have g_139 : (z_137 59).toInt = (v 59).toInt := by rw [ez_137]; exact congrArg Int32.toInt (if_neg (by decide))
        have g_140 : (z_137 60).toInt = x3.toInt := by rw [ez_137, show upd v 60 x3 60 = x3 from if_pos rfl]
        have sm_141 : smC v fa z_137 fa := by rw [ez_137]; exact smC.up smC.rf (by decide) (by decide)
        refine lv_iconst (v := 0) hx hb dX11_chooses_29 (by decide) ?_
        refine lv_istore (lv' := [(4, .int 0), (0, .ref g0), (1, .int x1), (2, .int x2), (3, .int x3)]) hx hb dX11_chooses_30 hl (by decide) rfl (fun ls hl => ?_)
        have cut_142 : ∀ (n : Nat) (y_143 : Int32) (z_144 : Nat → Int32) (fz_145 : Nat → Nat → Int32) (H : Heap) (locs : List Loc) (ls : Array Slot), 8 - y_143.toInt ≤ (n : Int) → (0 ≤ y_143.toInt ∧ y_143.toInt ≤ 8) → smC v fa z_144 fz_145 → hdE 0 fa fz_145 → (∀ p, p < y_143.toNatClampNeg → csB fz_145 p = csT fa p) → mV z_144 → mA fz_145 → scr v fa z_144 fz_145 → va_P (dC, dI) vwCl (mW g0 pq cp z_144 fz_145) H → va_D A (mW g0 pq cp z_144 fz_145) → va_S A s.heap H locs → (z_144 58).toInt = (z_137 58).toInt → (z_144 59).toInt = (z_137 59).toInt → (z_144 60).toInt = (z_137 60).toInt → lv_has ls 7 [(4, .int y_143), (0, .ref g0), (1, .int x1), (2, .int x2), (3, .int x3)] → W p l e (headSpec wsX11_chooses { frames := 8, cells := 0, slots := 0, locals := 208 }).room s m #[Value.ref g0, Value.int x1, Value.int x2, Value.int x3] below meth c H locs 0 0 (MQ below (va_Qv (fun (u : (Nat → Int32) × (Nat → Nat → Int32)) => mV u.1 ∧ mA u.2 ∧ scr v fa u.1 u.2 ∧ (smC v fa u.1 u.2 ∧ hdE 0 fa u.2 ∧ RS nG MG (csW fa) 0 (pc (csT fa) 0 + 1) (u.1 60).toInt (csB u.2))) (fun u t => va_P (dC, dI) vwCl (mW g0 pq cp u.1 u.2) t.heap ∧ va_K (dC, dI) vwCl (mT cp) t ∧ va_D A (mW g0 pq cp u.1 u.2)) A) #[Value.ref g0, Value.int x1, Value.int x2, Value.int x3] s 0 0 A) (F0 m 32 ls []) := by
          intro n
          induction n using Nat.strongRecOn with
          | ind n ih =>
            intro y_143 z_144 fz_145 H locs ls hm hy_143 hq0_cut_142 hq1_cut_142 hq2_cut_142 hVz_144 hAz_144 hRz_144 hP hD hS g_146 g_147 g_148 hl
            have gm_149 := congrArg Int32.toInt hq0_cut_142.2.1
            have gm_150 := congrArg Int32.toInt hq0_cut_142.1
            refine lv_iload hx hb dX11_chooses_32 (lv_at hl 0 rfl) ?_
            refine lv_iload_n hx hb dX11_chooses_34 rfl (lv_at hl 2 rfl) ?_
            refine lv_icmp_ge (tgt := 58) hx hb dX11_chooses_35 (by decide) (fun c_151 => ?_) (fun c_151 => ?_)
            · have dc_151 := c_le (a := x1.toInt) (b := y_143.toInt) rfl rfl c_151
              exact W.vret hx hb hr (fun t ht hW => ⟨⟨(z_144, fz_145), rfl, ⟨hVz_144, hAz_144, hRz_144, ⟨hq0_cut_142, hq1_cut_142, RS_lf (show 0 = hnd nG by have q := hCS.1; omega) hPR (fun p hp => hq2_cut_142 p (show p < y_143.toInt.toNat by omega)) (by omega) (by dsimp only; omega) (sw_b (n := nG) (W := csW fa) (t := csT fa) (h := 0) (fun p hp => ⟨(hPR.1 p hp).2, (csW_b hCS _ _).2⟩)).1 hCS.2.2.1 hRS⟩⟩, ⟨by rw [ht]; exact hP, va_K.moved hW.alike hK, hD⟩⟩, hS.F ht⟩) hS.2.2 dX11_chooses_58
            · have dc_151 := c_nle (a := x1.toInt) (b := y_143.toInt) rfl rfl c_151
              exfalso; omega
        have kc_152 : (0 : Int32).toInt = 0 := by decide
        exact cut_142 9 0 z_137 fa _ _ ls (by omega) (by decide) sm_141 hdE.rf (al_0 (by decide)) hVz_137 gA hRz_137 hP hD hS (by omega) (by omega) (by omega) (lv_sub hl [0, 1, 2, 3, 4] rfl)
    · have dc_79 := c_nlt (a := x3.toInt) (b := x_78.toInt) rfl rfl c_79
      exact W.vret hx hb hr (fun t ht hW => ⟨⟨(v, fa), rfl, ⟨gV, gA, scr.rf, ⟨smC.rf, hdE.rf, RS_pr hCS.2.2.1 (show 0 ≤ hnd nG by have q := hCS.1; omega) hPR (by dsimp only; omega) (by dsimp only; omega) hRS⟩⟩, ⟨by rw [ht]; exact hP, va_K.moved hW.alike hK, hD⟩⟩, hS.F ht⟩) hS.2.2 dX11_chooses_15
