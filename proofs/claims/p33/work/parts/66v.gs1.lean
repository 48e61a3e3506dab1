


set_option maxHeartbeats 4000000 in
set_option maxRecDepth 100000 in
theorem c_X11_chooses_7w (l : Launch) (dC : Nat → ClassId) (dI : Nat → Nat → Nat) (sz : Nat) (g0 : Nat) (pq : Nat → Nat) (cp : Nat → ClassId) (v : Nat → Int32) (fa : Nat → Nat → Int32) (gV : mV v) (gA : mA fa) (x1 : Int32) (hx1 : 7 ≤ x1.toInt ∧ x1.toInt ≤ 7) (x2 : Int32) (x3 : Int32) (hx3 : 0 ≤ x3.toInt ∧ x3.toInt ≤ 80000) (hh : x1.toInt ≤ (v 59).toInt) (nG MG : Nat) (hCS : CS nG MG v fa) (hPR : PR nG MG (csW fa) 7 (csT fa)) (hsm : x3.toInt = sw nG (csW fa) (csT fa) 7) (hus : ∀ y : Int32, 0 ≤ y.toInt → y.toInt < 12 → (ubI x2 y ↔ ∃ p, p < 7 ∧ csT fa p = y.toNatClampNeg)) (hRS : RS nG MG (csW fa) 7 (pc (csT fa) 7) (v 60).toInt (csB fa)) : Met l yX11_chooses wsX11_chooses ({ frames := 1, cells := 0, slots := 0, locals := 26 }) (va_Pc [.ref g0, .int x1, .int x2, .int x3] (pcW (dC, dI) (mT cp) (mW g0 pq cp v fa) sz)) (va_Qv (fun (u : (Nat → Int32) × (Nat → Nat → Int32)) => mV u.1 ∧ mA u.2 ∧ scr v fa u.1 u.2 ∧ (smC v fa u.1 u.2 ∧ hdE 7 fa u.2 ∧ RS nG MG (csW fa) 7 (pc (csT fa) 7 + 1) (u.1 60).toInt (csB u.2))) (fun u t => va_P (dC, dI) vwCl (mW g0 pq cp u.1 u.2) t.heap ∧ va_K (dC, dI) vwCl (mT cp) t ∧ va_D (va_A (mW g0 pq cp v fa) sz) (mW g0 pq cp u.1 u.2)) (va_A (mW g0 pq cp v fa) sz)) 0 0 (va_A (mW g0 pq cp v fa) sz) := by
  refine Met.ofW (cc := cX11_chooses) (maxL := 7) (ret := none) (by decide) rfl ?_
  intro p e s m args below meth c s₁ B hml hv
  obtain ⟨rfl, hsz, hP, hK, hD0⟩ := hv
  have hx := B.exec
  have hb := B.bytes
  have hr := B.returns
  have hts := atoms_spec (ws := wsX11_chooses) B.pre
  have hown : s.vm.findClass RX11 = some m.cls := findClass_of_methodNamed B.named
  have hlocks := B.notSynchronized
  subst hsz
  have hD := hD0.self (sz := s.heap.size)
  generalize hAe : va_A (mW g0 pq cp v fa) s.heap.size = A at hD ⊢
  have hA : ∀ q : Nat, s.heap.size ≤ q → A q := fun q h => by rw [← hAe]; exact Or.inr h
  have hS : va_S A s.heap s.heap [] := va_S.rf
  have hP : va_P (dC, dI) vwCl (mW g0 pq cp v fa) s.heap := hP
  have hl := lv_entry ([.ref g0, .int x1, .int x2, .int x3]) (n := 7) (Nat.le_of_ble_eq_true rfl)
  rw [lg_entry_eq]
  generalize (lg_sl ([.ref g0, .int x1, .int x2, .int x3]) ++ List.replicate (7 - (lg_sl ([.ref g0, .int x1, .int x2, .int x3])).length) Slot.unset).toArray = ls at hl ⊢
  have hl : lv_has ls 7 [(0, .ref g0), (1, .int x1), (2, .int x2), (3, .int x3)] := hl
  have iv_1 : 0 ≤ (v 58).toInt ∧ (v 58).toInt ≤ 12 := gV 58
  have iv_2 : 0 ≤ (v 59).toInt ∧ (v 59).toInt ≤ 8 := gV 59
  refine lv_aload_n hx hb dX11_chooses_0 rfl (lv_at hl 0 rfl) ?_
  refine va_get (D := (dC, dI)) (ci := 11) (v := .int (v 60)) (C := RX11) (T := TX11) (N := 63) hx hb hts in_wsX11_chooses_X11 hown hK hP 0 rfl rfl 60 (by decide) (hts (.fieldLink RX11 338 "ShipOfficeModel" "least" "I") iw_X11_chooses_1) (fun _ h9 => h9) rfl dX11_chooses_1 ?_
  refine lv_topi (fun x_3 ex_3 => ?_)
  have gx_3 : x_3.toInt = (v 60).toInt := iv_to ex_3
  clear ex_3
  refine lv_if_lt (tgt := 16) hx hb dX11_chooses_4 (by decide) (fun c_4 => ?_) (fun c_4 => ?_)
  · have dc_4 := c_lt (a := x_3.toInt) (b := 0) rfl (by decide) c_4
    refine lv_iload_n hx hb dX11_chooses_16 rfl (lv_at hl 1 rfl) ?_
    refine lv_aload_n hx hb dX11_chooses_17 rfl (lv_at hl 0 rfl) ?_
    refine va_get (D := (dC, dI)) (ci := 11) (v := .int (v 59)) (C := RX11) (T := TX11) (N := 63) hx hb hts in_wsX11_chooses_X11 hown hK hP 0 rfl rfl 59 (by decide) (hts (.fieldLink RX11 341 "ShipOfficeModel" "hands" "I") iw_X11_chooses_2) (fun _ h9 => h9) rfl dX11_chooses_18 ?_
    refine lv_topi (fun x_5 ex_5 => ?_)
    have hx_5 : 0 ≤ x_5.toInt ∧ x_5.toInt ≤ 8 := iv_of ex_5 (gV 59)
    have gx_5 : x_5.toInt = (v 59).toInt := iv_to ex_5
    clear ex_5
    refine lv_icmp_ne (tgt := 59) hx hb dX11_chooses_21 (by decide) (fun c_6 => ?_) (fun c_6 => ?_)
    · have dc_6 := c_ne (a := x1.toInt) (b := x_5.toInt) rfl rfl c_6
      have cut_7 : ∀ (y_8 : Int32) (z_9 : Nat → Int32) (fz_10 : Nat → Nat → Int32) (H : Heap) (locs : List Loc) (ls : Array Slot), (0 ≤ y_8.toInt ∧ y_8.toInt ≤ 12) → (v = z_9 ∧ fa = fz_10) → y_8.toNatClampNeg = frs nG 7 (csT fa) → mV z_9 → mA fz_10 → scr v fa z_9 fz_10 → va_P (dC, dI) vwCl (mW g0 pq cp z_9 fz_10) H → va_D A (mW g0 pq cp z_9 fz_10) → va_S A s.heap H locs → (z_9 58).toInt = (v 58).toInt → (z_9 59).toInt = (v 59).toInt → (z_9 60).toInt = (v 60).toInt → lv_has ls 7 [(4, .int y_8), (0, .ref g0), (1, .int x1), (2, .int x2), (3, .int x3)] → W p l e (headSpec wsX11_chooses { frames := 1, cells := 0, slots := 0, locals := 26 }).room s m #[Value.ref g0, Value.int x1, Value.int x2, Value.int x3] below meth c H locs 0 0 (MQ below (va_Qv (fun (u : (Nat → Int32) × (Nat → Nat → Int32)) => mV u.1 ∧ mA u.2 ∧ scr v fa u.1 u.2 ∧ (smC v fa u.1 u.2 ∧ hdE 7 fa u.2 ∧ RS nG MG (csW fa) 7 (pc (csT fa) 7 + 1) (u.1 60).toInt (csB u.2))) (fun u t => va_P (dC, dI) vwCl (mW g0 pq cp u.1 u.2) t.heap ∧ va_K (dC, dI) vwCl (mT cp) t ∧ va_D A (mW g0 pq cp u.1 u.2)) A) #[Value.ref g0, Value.int x1, Value.int x2, Value.int x3] s 0 0 A) (F0 m 96 ls []) := by
        intro y_8 z_9 fz_10 H locs ls hy_8 hq0_cut_7 hq1_cut_7 hVz_9 hAz_9 hRz_9 hP hD hS g_11 g_12 g_13 hl
        obtain ⟨rfl, rfl⟩ := hq0_cut_7
        refine lv_iload hx hb dX11_chooses_96 (lv_at hl 0 rfl) ?_
        refine lv_istore (lv' := [(5, .int y_8), (4, .int y_8), (0, .ref g0), (1, .int x1), (2, .int x2), (3, .int x3)]) hx hb dX11_chooses_98 hl (by decide) rfl (fun ls hl => ?_)
        have cut_14 : ∀ (n : Nat) (y_15 : Int32) (z_16 : Nat → Int32) (fz_17 : Nat → Nat → Int32) (H : Heap) (locs : List Loc) (ls : Array Slot), 12 - y_15.toInt ≤ (n : Int) → (0 ≤ y_15.toInt ∧ y_15.toInt ≤ 12) → smC v fa z_16 fz_17 → hdE 7 fa fz_17 → RS nG MG (csW fa) 8 (16 * pc (csT fa) 7 + y_15.toNatClampNeg) (z_16 60).toInt (csB fz_17) → frs nG 7 (csT fa) ≤ y_15.toNatClampNeg → y_15.toInt ≤ (MG : Int) → mV z_16 → mA fz_17 → scr v fa z_16 fz_17 → va_P (dC, dI) vwCl (mW g0 pq cp z_16 fz_17) H → va_D A (mW g0 pq cp z_16 fz_17) → va_S A s.heap H locs → lv_has ls 7 [(5, .int y_15), (0, .ref g0), (1, .int x1), (2, .int x2), (3, .int x3)] → W p l e (headSpec wsX11_chooses { frames := 1, cells := 0, slots := 0, locals := 26 }).room s m #[Value.ref g0, Value.int x1, Value.int x2, Value.int x3] below meth c H locs 0 0 (MQ below (va_Qv (fun (u : (Nat → Int32) × (Nat → Nat → Int32)) => mV u.1 ∧ mA u.2 ∧ scr v fa u.1 u.2 ∧ (smC v fa u.1 u.2 ∧ hdE 7 fa u.2 ∧ RS nG MG (csW fa) 7 (pc (csT fa) 7 + 1) (u.1 60).toInt (csB u.2))) (fun u t => va_P (dC, dI) vwCl (mW g0 pq cp u.1 u.2) t.heap ∧ va_K (dC, dI) vwCl (mT cp) t ∧ va_D A (mW g0 pq cp u.1 u.2)) A) #[Value.ref g0, Value.int x1, Value.int x2, Value.int x3] s 0 0 A) (F0 m 100 ls []) := by
          intro n
          induction n using Nat.strongRecOn with
          | ind n ih =>
            intro y_15 z_16 fz_17 H locs ls hm hy_15 hq0_cut_14 hq1_cut_14 hq2_cut_14 hq3_cut_14 hq4_cut_14 hVz_16 hAz_16 hRz_16 hP hD hS hl
            have gm_18 := congrArg Int32.toInt hq0_cut_14.2.1
            have gm_19 := congrArg Int32.toInt hq0_cut_14.1
            have tn_20 : ((y_15.toNatClampNeg : Nat) : Int) = y_15.toInt := tn_i (by omega)
            refine lv_iload hx hb dX11_chooses_100 (lv_at hl 0 rfl) ?_
            refine lv_aload_n hx hb dX11_chooses_102 rfl (lv_at hl 1 rfl) ?_
            refine va_get (D := (dC, dI)) (ci := 11) (v := .int (z_16 58)) (C := RX11) (T := TX11) (N := 63) hx hb hts in_wsX11_chooses_X11 hown hK hP 0 rfl rfl 58 (by decide) (hts (.fieldLink RX11 344 "ShipOfficeModel" "someMany" "I") iw_X11_chooses_6) (fun _ h9 => h9) rfl dX11_chooses_103 ?_
            refine lv_topi (fun x_21 ex_21 => ?_)
            have hx_21 : 0 ≤ x_21.toInt ∧ x_21.toInt ≤ 12 := iv_of ex_21 (hVz_16 58)
            have gx_21 : x_21.toInt = (z_16 58).toInt := iv_to ex_21
            clear ex_21
            refine lv_icmp_ge (tgt := 181) hx hb dX11_chooses_106 (by decide) (fun c_22 => ?_) (fun c_22 => ?_)
            · have dc_22 := c_le (a := x_21.toInt) (b := y_15.toInt) rfl rfl c_22
              exact W.vret hx hb hr (fun t ht hW => ⟨⟨(z_16, fz_17), rfl, ⟨hVz_16, hAz_16, hRz_16, ⟨hq0_cut_14, hq1_cut_14, RS_lp hCS.2.2.1 (show 7 < hnd nG by have q := hCS.1; omega) (show y_15.toInt.toNat = MG by have q := hCS.2.1; omega) hq2_cut_14⟩⟩, ⟨by rw [ht]; exact hP, va_K.moved hW.alike hK, hD⟩⟩, hS.F ht⟩) hS.2.2 dX11_chooses_181
            · have dc_22 := c_nle (a := x_21.toInt) (b := y_15.toInt) rfl rfl c_22
              have cut_23 : ∀ (z_24 : Nat → Int32) (fz_25 : Nat → Nat → Int32) (H : Heap) (locs : List Loc) (ls : Array Slot), smC v fa z_24 fz_25 → hdE 7 fa fz_25 → RS nG MG (csW fa) 8 (16 * pc (csT fa) 7 + (y_15.toNatClampNeg + 1)) (z_24 60).toInt (csB fz_25) → mV z_24 → mA fz_25 → scr v fa z_24 fz_25 → va_P (dC, dI) vwCl (mW g0 pq cp z_24 fz_25) H → va_D A (mW g0 pq cp z_24 fz_25) → va_S A s.heap H locs → lv_has ls 7 [(5, .int y_15), (0, .ref g0), (1, .int x1), (2, .int x2), (3, .int x3)] → W p l e (headSpec wsX11_chooses { frames := 1, cells := 0, slots := 0, locals := 26 }).room s m #[Value.ref g0, Value.int x1, Value.int x2, Value.int x3] below meth c H locs 0 0 (MQ below (va_Qv (fun (u : (Nat → Int32) × (Nat → Nat → Int32)) => mV u.1 ∧ mA u.2 ∧ scr v fa u.1 u.2 ∧ (smC v fa u.1 u.2 ∧ hdE 7 fa u.2 ∧ RS nG MG (csW fa) 7 (pc (csT fa) 7 + 1) (u.1 60).toInt (csB u.2))) (fun u t => va_P (dC, dI) vwCl (mW g0 pq cp u.1 u.2) t.heap ∧ va_K (dC, dI) vwCl (mT cp) t ∧ va_D A (mW g0 pq cp u.1 u.2)) A) #[Value.ref g0, Value.int x1, Value.int x2, Value.int x3] s 0 0 A) (F0 m 175 ls []) := by
                intro  z_24 fz_25 H locs ls hq0_cut_23 hq1_cut_23 hq2_cut_23 hVz_24 hAz_24 hRz_24 hP hD hS hl
                have gm_26 := congrArg Int32.toInt hq0_cut_23.2.1
                have gm_27 := congrArg Int32.toInt hq0_cut_23.1
                obtain ⟨x_28, ex_28⟩ : ∃ zq : Int32, y_15 + 1 = zq := ⟨_, rfl⟩
                have hx_28 : x_28.toInt = y_15.toInt + 1 := (iv_to ex_28).symm.trans (ad_i rfl (by decide) (by omega) (by omega))
                refine lv_iinc (v := x_28) (lv' := [(5, .int x_28), (0, .ref g0), (1, .int x1), (2, .int x2), (3, .int x3)]) hx hb dX11_chooses_175 hl (k := 0) rfl ex_28 (by decide) rfl (fun ls hl => ?_)
                clear ex_28
                refine lv_goto (tgt := 100) hx hb dX11_chooses_178 (by decide) ?_
                exact ih (n - 1) (by omega) x_28 z_24 fz_25 _ _ ls (by omega) (by omega) hq0_cut_23 hq1_cut_23 (by rw [show x_28.toNatClampNeg = y_15.toNatClampNeg + 1 from (show x_28.toInt.toNat = y_15.toInt.toNat + 1 by omega)]; exact hq2_cut_23) (by rw [show x_28.toNatClampNeg = y_15.toNatClampNeg + 1 from (show x_28.toInt.toNat = y_15.toInt.toNat + 1 by omega)]; exact Nat.le_succ_of_le hq3_cut_14) (by have q := hCS.2.1; omega) hVz_24 hAz_24 hRz_24 hP hD hS (lv_sub hl [0, 1, 2, 3, 4] rfl)
              refine lv_aload_n hx hb dX11_chooses_109 rfl (lv_at hl 1 rfl) ?_
              refine va_get (D := (dC, dI)) (ci := 11) (v := .ref (pq 5)) (C := RX11) (T := TX11) (N := 63) hx hb hts in_wsX11_chooses_X11 hown hK hP 0 rfl rfl 5 (by decide) (hts (.fieldLink RX11 25 "ShipOfficeModel" "asks" "[I") iw_X11_chooses_7) (fun _ h9 => h9) rfl dX11_chooses_110 ?_
              refine lv_iconst (v := 4) hx hb dX11_chooses_113 (by decide) ?_
              refine lv_aload_n hx hb dX11_chooses_114 rfl (lv_at hl 1 rfl) ?_
              refine va_get (D := (dC, dI)) (ci := 11) (v := .ref (pq 54)) (C := RX11) (T := TX11) (N := 63) hx hb hts in_wsX11_chooses_X11 hown hK hP 0 rfl rfl 54 (by decide) (hts (.fieldLink RX11 137 "ShipOfficeModel" "some" "[I") iw_X11_chooses_8) (fun _ h9 => h9) rfl dX11_chooses_115 ?_
              refine lv_iload hx hb dX11_chooses_118 (lv_at hl 0 rfl) ?_
              refine va_iald hx hb hK hP 43 42 rfl rfl (vp_in_iff.mpr (by omega)) dX11_chooses_120 ?_
              refine lv_topi (fun x_29 ex_29 => ?_)
              have hx_29 : 0 ≤ x_29.toInt ∧ x_29.toInt ≤ 39 := iv_of ex_29 (hAz_16 54 _)
              have gx_29 : x_29.toInt = (fz_17 54 (y_15 : Int32).toNatClampNeg).toInt := iv_to ex_29
              clear ex_29
              refine lv_imul hx hb dX11_chooses_121 ?_
              refine lv_topi (fun x_30 ex_30 => ?_)
              have hx_30 : x_30.toInt = 4 * x_29.toInt := (iv_to ex_30).trans (mu_i (by decide) rfl (by omega) (by omega))
              refine lv_aload_n hx hb dX11_chooses_122 rfl (lv_at hl 1 rfl) ?_
              refine va_get (D := (dC, dI)) (ci := 11) (v := .ref (pq 55)) (C := RX11) (T := TX11) (N := 63) hx hb hts in_wsX11_chooses_X11 hown hK hP 0 rfl rfl 55 (by decide) (hts (.fieldLink RX11 140 "ShipOfficeModel" "handRank" "[I") iw_X11_chooses_5) (fun _ h9 => h9) rfl dX11_chooses_123 ?_
              refine lv_iload_n hx hb dX11_chooses_126 rfl (lv_at hl 2 rfl) ?_
              refine va_iald hx hb hK hP 44 43 rfl rfl (vp_in_iff.mpr (by omega)) dX11_chooses_127 ?_
              refine lv_topi (fun x_31 ex_31 => ?_)
              have hx_31 : 0 ≤ x_31.toInt ∧ x_31.toInt ≤ 3 := iv_of ex_31 (hAz_16 55 _)
              have gx_31 : x_31.toInt = (fz_17 55 (x1 : Int32).toNatClampNeg).toInt := iv_to ex_31
              clear ex_31
              rw [show fz_17 55 = fa 55 from hq0_cut_14.2.2.1] at gx_31
              rw [show (x1 : Int32).toNatClampNeg = 7 from (show x1.toInt.toNat = 7 by omega), hCS.2.2.2.1 7 (by have q := hCS.1; omega)] at gx_31
              refine lv_iadd hx hb dX11_chooses_128 ?_
              refine lv_topi (fun x_32 ex_32 => ?_)
              have hx_32 : x_32.toInt = x_30.toInt + x_31.toInt := (iv_to ex_32).trans (ad_i rfl rfl (by omega) (by omega))
              refine va_iald hx hb hK hP 6 5 rfl rfl (vp_in_iff.mpr (by omega)) dX11_chooses_129 ?_
              refine lv_topi (fun x_33 ex_33 => ?_)
              have gx_33 : x_33.toInt = (fz_17 5 (x_32 : Int32).toNatClampNeg).toInt := iv_to ex_33
              clear ex_33
              have gwx_33 : x_33.toInt = csW fa y_15.toNatClampNeg (rkp nG 7) := by rw [← csW_e hq0_cut_14]; unfold csW; rw [← show (x_32 : Int32).toNatClampNeg = 4 * (fz_17 54 y_15.toNatClampNeg).toNatClampNeg + rkp nG 7 from (show x_32.toInt.toNat = 4 * (fz_17 54 y_15.toNatClampNeg).toInt.toNat + rkp nG 7 by omega)]; exact gx_33
              have gbx_33 : 0 ≤ x_33.toInt ∧ x_33.toInt ≤ 9999 := by rw [gwx_33]; exact csW_b hCS _ _
              refine lv_istore (lv' := [(6, .int x_33), (5, .int y_15), (0, .ref g0), (1, .int x1), (2, .int x2), (3, .int x3)]) hx hb dX11_chooses_130 hl (by decide) rfl (fun ls hl => ?_)
              refine lv_iload hx hb dX11_chooses_132 (lv_at hl 0 rfl) ?_
              refine lv_if_eq (tgt := 175) hx hb dX11_chooses_134 (by decide) (fun c_34 => ?_) (fun c_34 => ?_)
              · have dc_34 := c_eq (a := x_33.toInt) (b := 0) rfl (by decide) c_34
                exact cut_23  z_16 fz_17 _ _ ls hq0_cut_14 hq1_cut_14 (RS_sk hCS.2.2.1 (show 7 < hnd nG by have q := hCS.1; omega) hPR (show y_15.toInt.toNat < MG by have q := hCS.2.1; omega) (sk_w (by omega) (show 7 < hnd nG by have q := hCS.1; omega)) hq2_cut_14) hVz_16 hAz_16 hRz_16 hP hD hS (lv_sub hl [1, 2, 3, 4, 5] rfl)
              · have dc_34 := c_ne (a := x_33.toInt) (b := 0) rfl (by decide) c_34
                refine lv_iload_n hx hb dX11_chooses_137 rfl (lv_at hl 4 rfl) ?_
                refine lv_iload hx hb dX11_chooses_138 (lv_at hl 1 rfl) ?_
                refine lv_ishr hx hb dX11_chooses_140 ?_
                refine lv_topi (fun x_35 ex_35 => ?_)
                refine lv_iconst (v := 1) hx hb dX11_chooses_141 (by decide) ?_
                refine lv_iand hx hb dX11_chooses_142 ?_
                refine lv_topi (fun x_36 ex_36 => ?_)
                refine lv_iconst (v := 1) hx hb dX11_chooses_143 (by decide) ?_
                refine lv_icmp_ne (tgt := 150) hx hb dX11_chooses_144 (by decide) (fun c_37 => ?_) (fun c_37 => ?_)
                · have dc_37 := c_ne (a := x_36.toInt) (b := 1) rfl (by decide) c_37
                  have nu_38 : ¬ ubI x2 y_15 := fun q => c_37 (by unfold ubI at q; rw [← ex_35, ← ex_36] at q; exact q)
                  refine lv_aload_n hx hb dX11_chooses_150 rfl (lv_at hl 2 rfl) ?_
                  refine va_get (D := (dC, dI)) (ci := 11) (v := .ref (pq 56)) (C := RX11) (T := TX11) (N := 63) hx hb hts in_wsX11_chooses_X11 hown hK hP 0 rfl rfl 56 (by decide) (hts (.fieldLink RX11 143 "ShipOfficeModel" "hand" "[I") iw_X11_chooses_4) (fun _ h9 => h9) rfl dX11_chooses_151 ?_
                  refine lv_iload_n hx hb dX11_chooses_154 rfl (lv_at hl 3 rfl) ?_
                  refine lv_iload hx hb dX11_chooses_155 (lv_at hl 1 rfl) ?_
                  refine va_iast hx hb hK hP hD hS 45 44 rfl rfl (vp_in_iff.mpr (by omega)) dX11_chooses_157 (fun H locs hP hD hS => ?_)
                  have hP : va_P (dC, dI) vwCl (mW g0 pq cp z_16 (upF fz_17 56 (x1 : Int32).toNatClampNeg y_15)) H := hP
                  have hD : va_D A (mW g0 pq cp z_16 (upF fz_17 56 (x1 : Int32).toNatClampNeg y_15)) := hD
                  obtain ⟨fz_39, efz_39⟩ : ∃ zq, zq = (upF fz_17 56 (x1 : Int32).toNatClampNeg y_15) := ⟨_, rfl⟩
                  rw [← efz_39] at hP hD
                  have hAfz_39 : mA fz_39 := by rw [efz_39]; exact mA_upF (lo := 0) (hi := 11) hAz_16 rfl rfl (by omega)
                  have hRfz_39 : scr v fa z_16 fz_39 := by rw [efz_39]; exact scr.uF hRz_16 rfl
                  have g_40 : (fz_39 5 (x_32 : Int32).toNatClampNeg).toInt = (fz_17 5 (x_32 : Int32).toNatClampNeg).toInt := by rw [efz_39]; exact uF_ne (by decide)
                  have g_41 : (fz_39 54 (y_15 : Int32).toNatClampNeg).toInt = (fz_17 54 (y_15 : Int32).toNatClampNeg).toInt := by rw [efz_39]; exact uF_ne (by decide)
                  have g_42 : (fz_39 55 (x1 : Int32).toNatClampNeg).toInt = (fz_17 55 (x1 : Int32).toNatClampNeg).toInt := by rw [efz_39]; exact uF_ne (by decide)
                  have q0_43 : fz_39 0 = fa 0 := by rw [efz_39]; exact (if_neg (by decide)).trans (hRz_16.2 0 rfl)
                  refine lv_aload_n hx hb dX11_chooses_158 rfl (lv_at hl 2 rfl) ?_
                  refine lv_iload_n hx hb dX11_chooses_159 rfl (lv_at hl 3 rfl) ?_
                  refine lv_iconst (v := 1) hx hb dX11_chooses_160 (by decide) ?_
                  refine lv_iadd hx hb dX11_chooses_161 ?_
                  refine lv_topi (fun x_44 ex_44 => ?_)
                  have hx_44 : x_44.toInt = x1.toInt + 1 := (iv_to ex_44).trans (ad_i rfl (by decide) (by omega) (by omega))
                  refine lv_iload_n hx hb dX11_chooses_162 rfl (lv_at hl 4 rfl) ?_
                  refine lv_iconst (v := 1) hx hb dX11_chooses_163 (by decide) ?_
                  refine lv_iload hx hb dX11_chooses_164 (lv_at hl 1 rfl) ?_
                  refine lv_ishl hx hb dX11_chooses_166 ?_
                  refine lv_topi (fun x_45 ex_45 => ?_)
                  refine lv_ior hx hb dX11_chooses_167 ?_
                  refine lv_topi (fun x_46 ex_46 => ?_)
                  refine lv_iload_n hx hb dX11_chooses_168 rfl (lv_at hl 5 rfl) ?_
                  refine lv_iload hx hb dX11_chooses_169 (lv_at hl 0 rfl) ?_
                  refine lv_iadd hx hb dX11_chooses_171 ?_
                  refine lv_topi (fun x_47 ex_47 => ?_)
                  have hx_47 : x_47.toInt = x3.toInt + x_33.toInt := (iv_to ex_47).trans (ad_i rfl rfl (by omega) (by omega))
                  have eo9 : x_46 = x2 ||| (1 <<< (y_15 &&& 31)) := by rw [ex_46, ex_45]
                  obtain ⟨q1, q2, q3, q4, q5, q6, q7, q8⟩ := ch_pre (x2 := x2) (x3 := x3) (y3 := x_47) hCS hq0_cut_14 hq1_cut_14 efz_39 (show (x1 : Int32).toInt.toNat = 7 by omega) ⟨by omega, by omega⟩ (show y_15.toInt.toNat < MG by have q := hCS.2.1; omega) hPR (by omega) nu_38 hq3_cut_14 hsm (by omega) hus hq2_cut_14
                  have qb := sw_b (n := nG) (W := csW fz_39) (t := csT fz_39) (h := 7 + 1) (fun p hp => ⟨(q4.1 p hp).2, (csW_b q3 _ _).2⟩)
                  rw [← eo9] at q6
                  have hFc := va_free (wc := (mW g0 pq cp z_16 fz_39)) hD hS hA (List.range 48) rfl
                  refine va_callv (va_runV (As := [.int x_44, .int x_46, .int x_47]) (rest := []) ⟨hx, hb, hml, hown, hts⟩ (c_X11_chooses_8w l dC dI H.size g0 pq cp z_16 fz_39 hVz_16 hAfz_39 x_44 (by omega) x_46 x_47 (by omega) (by have q := q3.1; omega) nG MG q3 q4 q5 q6 q8) (cwV 3 hts gX11_chooses_X11_chooses rfl rfl rfl (by decide +kernel) ⟨(Nat.le_of_ble_eq_true rfl), (Nat.le_of_ble_eq_true rfl)⟩) (pr_V (r := (RX11, TX11, 63)) hP hK hD 0 11 rfl rfl) rfl rfl hl.1 rfl (lv_room (Nat.le_of_ble_eq_true rfl)) dX11_chooses_172 ⟨(Nat.le_of_ble_eq_true rfl), (Nat.le_of_ble_eq_true rfl)⟩) hS (fun q _ h => hFc q h) hFc (fun u t H locs ht hvm w_48 hB hz1 hk1 hS => ?_)
                  obtain ⟨v_50, fa_51⟩ := u
                  obtain ⟨hP1, hK1, hD1⟩ := hB
                  rw [ht] at hP1
                  have hP : va_P (dC, dI) vwCl (mW g0 pq cp v_50 fa_51) H := hP1
                  have hD : va_D A (mW g0 pq cp v_50 fa_51) := hD1.weaken (fun _ _ _ h => hFc _ h)
                  clear hP1 hK1 hD1 hk1 hz1 hvm ht hFc
                  obtain ⟨hV_52, hA_53, hR_54, hx_55⟩ := w_48
                  dsimp only at hV_52 hA_53 hR_54 hx_55
                  have g_56 : (fa_51 5 (x_32 : Int32).toNatClampNeg).toInt = (fz_39 5 (x_32 : Int32).toNatClampNeg).toInt := congrArg (fun h : Nat → Int32 => Int32.toInt (h (x_32 : Int32).toNatClampNeg)) (hR_54.2 5 rfl)
                  have R_57 := scr.tr hRfz_39 hR_54
                  have q0_58 : fa_51 0 = fa 0 := (hR_54.2 0 rfl).trans q0_43
                  obtain ⟨p1, p2, p3⟩ := hx_55
                  obtain ⟨r1, r2, r3⟩ := ch_post q1 q2 q7 p1 p2 p3
                  exact cut_23  v_50 fa_51 _ _ ls r1 r2 r3 hV_52 hA_53 R_57 hP hD hS (lv_sub hl [1, 2, 3, 4, 5] rfl)
                · have dc_37 := c_eq (a := x_36.toInt) (b := 1) rfl (by decide) c_37
                  have us_59 : ubI x2 y_15 := by unfold ubI; rw [← ex_35, ← ex_36]; exact c_37
                  refine lv_goto (tgt := 175) hx hb dX11_chooses_147 (by decide) ?_
                  exact cut_23  z_16 fz_17 _ _ ls hq0_cut_14 hq1_cut_14 (RS_sk hCS.2.2.1 (show 7 < hnd nG by have q := hCS.1; omega) hPR (show y_15.toInt.toNat < MG by have q := hCS.2.1; omega) (sk_u ((hus y_15 (by omega) (by omega)).mp us_59) (show 7 < hnd nG by have q := hCS.1; omega)) hq2_cut_14) hVz_16 hAz_16 hRz_16 hP hD hS (lv_sub hl [1, 2, 3, 4, 5] rfl)
        exact cut_14 13 y_8 v fa _ _ ls (by omega) (by omega) smC.rf hdE.rf (RS_en hCS.2.2.1 (show 7 < hnd nG by have q := hCS.1; omega) hPR hq1_cut_7 rfl hRS) (Nat.le_of_eq hq1_cut_7.symm) (by have q2 := frs_M hPR; rw [← hq1_cut_7] at q2; have q3 : y_8.toNatClampNeg = y_8.toInt.toNat := rfl; omega) hVz_9 hAz_9 hRz_9 hP hD hS (lv_sub hl [0, 2, 3, 4, 5] rfl)
      refine lv_iload_n hx hb dX11_chooses_59 rfl (lv_at hl 1 rfl) ?_
      refine lv_if_le (tgt := 93) hx hb dX11_chooses_60 (by decide) (fun c_60 => ?_) (fun c_60 => ?_)
      · have dc_60 := c_le (a := x1.toInt) (b := 0) rfl (by decide) c_60
        exfalso; omega
      · have dc_60 := c_nle (a := x1.toInt) (b := 0) rfl (by decide) c_60
        refine lv_aload_n hx hb dX11_chooses_63 rfl (lv_at hl 0 rfl) ?_
        refine va_get (D := (dC, dI)) (ci := 11) (v := .ref (pq 55)) (C := RX11) (T := TX11) (N := 63) hx hb hts in_wsX11_chooses_X11 hown hK hP 0 rfl rfl 55 (by decide) (hts (.fieldLink RX11 140 "ShipOfficeModel" "handRank" "[I") iw_X11_chooses_5) (fun _ h9 => h9) rfl dX11_chooses_64 ?_
        refine lv_iload_n hx hb dX11_chooses_67 rfl (lv_at hl 1 rfl) ?_
        refine lv_iconst (v := 1) hx hb dX11_chooses_68 (by decide) ?_
        refine lv_isub hx hb dX11_chooses_69 ?_
        refine lv_topi (fun x_61 ex_61 => ?_)
        have hx_61 : x_61.toInt = x1.toInt - 1 := (iv_to ex_61).trans (sb_i rfl (by decide) (by omega) (by omega))
        refine va_iald hx hb hK hP 44 43 rfl rfl (vp_in_iff.mpr (by omega)) dX11_chooses_70 ?_
        refine lv_topi (fun x_62 ex_62 => ?_)
        have hx_62 : 0 ≤ x_62.toInt ∧ x_62.toInt ≤ 3 := iv_of ex_62 (gA 55 _)
        have gx_62 : x_62.toInt = (fa 55 (x_61 : Int32).toNatClampNeg).toInt := iv_to ex_62
        clear ex_62
        rw [show (x_61 : Int32).toNatClampNeg = 6 from (show x_61.toInt.toNat = 6 by omega), hCS.2.2.2.1 6 (by have q := hCS.1; omega)] at gx_62
        refine lv_aload_n hx hb dX11_chooses_71 rfl (lv_at hl 0 rfl) ?_
        refine va_get (D := (dC, dI)) (ci := 11) (v := .ref (pq 55)) (C := RX11) (T := TX11) (N := 63) hx hb hts in_wsX11_chooses_X11 hown hK hP 0 rfl rfl 55 (by decide) (hts (.fieldLink RX11 140 "ShipOfficeModel" "handRank" "[I") iw_X11_chooses_5) (fun _ h9 => h9) rfl dX11_chooses_72 ?_
        refine lv_iload_n hx hb dX11_chooses_75 rfl (lv_at hl 1 rfl) ?_
        refine va_iald hx hb hK hP 44 43 rfl rfl (vp_in_iff.mpr (by omega)) dX11_chooses_76 ?_
        refine lv_topi (fun x_63 ex_63 => ?_)
        have hx_63 : 0 ≤ x_63.toInt ∧ x_63.toInt ≤ 3 := iv_of ex_63 (gA 55 _)
        have gx_63 : x_63.toInt = (fa 55 (x1 : Int32).toNatClampNeg).toInt := iv_to ex_63
        clear ex_63
        rw [show (x1 : Int32).toNatClampNeg = 7 from (show x1.toInt.toNat = 7 by omega), hCS.2.2.2.1 7 (by have q := hCS.1; omega)] at gx_63
        refine lv_icmp_ne (tgt := 93) hx hb dX11_chooses_77 (by decide) (fun c_64 => ?_) (fun c_64 => ?_)
        · have dc_64 := c_ne (a := x_62.toInt) (b := x_63.toInt) rfl rfl c_64
          refine lv_iconst (v := 0) hx hb dX11_chooses_93 (by decide) ?_
          refine lv_istore (lv' := [(4, .int 0), (0, .ref g0), (1, .int x1), (2, .int x2), (3, .int x3)]) hx hb dX11_chooses_94 hl (by decide) rfl (fun ls hl => ?_)
          have kc_65 : (0 : Int32).toInt = 0 := by decide
          exact cut_7 0 v fa _ _ ls (by decide) ⟨rfl, rfl⟩ (show (0 : Int32).toNatClampNeg = frs nG 7 (csT fa) by unfold frs; rw [if_neg (fun q => by have q2 : rkp nG 6 = rkp nG 7 := q.2; omega)]; rfl) gV gA scr.rf hP hD hS (by omega) (by omega) (by omega) (lv_sub hl [0, 1, 2, 3, 4] rfl)
        · have dc_64 := c_eq (a := x_62.toInt) (b := x_63.toInt) rfl rfl c_64
          refine lv_aload_n hx hb dX11_chooses_80 rfl (lv_at hl 0 rfl) ?_
          refine va_get (D := (dC, dI)) (ci := 11) (v := .ref (pq 56)) (C := RX11) (T := TX11) (N := 63) hx hb hts in_wsX11_chooses_X11 hown hK hP 0 rfl rfl 56 (by decide) (hts (.fieldLink RX11 143 "ShipOfficeModel" "hand" "[I") iw_X11_chooses_4) (fun _ h9 => h9) rfl dX11_chooses_81 ?_
          refine lv_iload_n hx hb dX11_chooses_84 rfl (lv_at hl 1 rfl) ?_
          refine lv_iconst (v := 1) hx hb dX11_chooses_85 (by decide) ?_
          refine lv_isub hx hb dX11_chooses_86 ?_
          refine lv_topi (fun x_66 ex_66 => ?_)
          have hx_66 : x_66.toInt = x1.toInt - 1 := (iv_to ex_66).trans (sb_i rfl (by decide) (by omega) (by omega))
          refine va_iald hx hb hK hP 45 44 rfl rfl (vp_in_iff.mpr (by omega)) dX11_chooses_87 ?_
          refine lv_topi (fun x_67 ex_67 => ?_)
          have hx_67 : 0 ≤ x_67.toInt ∧ x_67.toInt ≤ 11 := iv_of ex_67 (gA 56 _)
          have gx_67 : x_67.toInt = (fa 56 (x_66 : Int32).toNatClampNeg).toInt := iv_to ex_67
          clear ex_67
          rw [show (x_66 : Int32).toNatClampNeg = 6 from (show x_66.toInt.toNat = 6 by omega)] at gx_67
          refine lv_iconst (v := 1) hx hb dX11_chooses_88 (by decide) ?_
          refine lv_iadd hx hb dX11_chooses_89 ?_
          refine lv_topi (fun x_68 ex_68 => ?_)
          have hx_68 : x_68.toInt = x_67.toInt + 1 := (iv_to ex_68).trans (ad_i rfl (by decide) (by omega) (by omega))
          refine lv_goto (tgt := 94) hx hb dX11_chooses_90 (by decide) ?_
          refine lv_istore (lv' := [(4, .int x_68), (0, .ref g0), (1, .int x1), (2, .int x2), (3, .int x3)]) hx hb dX11_chooses_94 hl (by decide) rfl (fun ls hl => ?_)
          exact cut_7 x_68 v fa _ _ ls (by omega) ⟨rfl, rfl⟩ (show x_68.toNatClampNeg = frs nG 7 (csT fa) by unfold frs; rw [if_pos ⟨by decide, show rkp nG 6 = rkp nG 7 by omega⟩]; show x_68.toInt.toNat = (fa 56 6).toInt.toNat + 1; omega) gV gA scr.rf hP hD hS (by omega) (by omega) (by omega) (lv_sub hl [0, 1, 2, 3, 4] rfl)
    · have dc_6 := c_eq (a := x1.toInt) (b := x_5.toInt) rfl rfl c_6
      refine lv_aload_n hx hb dX11_chooses_24 rfl (lv_at hl 0 rfl) ?_
      refine lv_iload_n hx hb dX11_chooses_25 rfl (lv_at hl 3 rfl) ?_
      refine va_put (D := (dC, dI)) (ci := 11) (v := .int x3) (ty := .int) (C := RX11) (T := TX11) (N := 63) hx hb hts in_wsX11_chooses_X11 tyX11 tyX11_ok nmX11 hown hK hP hD hS 0 rfl rfl 60 (by decide) (hts (.fieldLink RX11 338 "ShipOfficeModel" "least" "I") iw_X11_chooses_1) (fun _ h9 => h9) rfl (by decide +kernel) rfl rfl (Nat.le_of_ble_eq_true rfl) dX11_chooses_26 (fun H locs hP hD hS => ?_)
      have hP : va_P (dC, dI) vwCl (mW g0 pq cp (upd v 60 x3) fa) H := hP
      have hD : va_D A (mW g0 pq cp (upd v 60 x3) fa) := hD
      obtain ⟨z_69, ez_69⟩ : ∃ zq, zq = (upd v 60 x3) := ⟨_, rfl⟩
      rw [← ez_69] at hP hD
      have hVz_69 : mV z_69 := by rw [ez_69]; exact mV_upd (lo := -2147483648) (hi := 2147483647) gV rfl rfl (iv_all _)
      have hRz_69 : scr v fa z_69 fa := by rw [ez_69]; exact scr.up scr.rf rfl
      have g_70 : (z_69 58).toInt = (v 58).toInt := by rw [ez_69]; exact congrArg Int32.toInt (if_neg (by decide))
      have g_71 : (z_69 59).toInt = (v 59).toInt := by rw [ez_69]; exact congrArg Int32.toInt (if_neg (by decide))
      have g_72 : (z_69 60).toInt = x3.toInt := by rw [ez_69, show upd v 60 x3 60 = x3 from if_pos rfl]
      have sm_73 : smC v fa z_69 fa := by rw [ez_69]; exact smC.up smC.rf (by decide) (by decide)
      refine lv_iconst (v := 0) hx hb dX11_chooses_29 (by decide) ?_
      refine lv_istore (lv' := [(4, .int 0), (0, .ref g0), (1, .int x1), (2, .int x2), (3, .int x3)]) hx hb dX11_chooses_30 hl (by decide) rfl (fun ls hl => ?_)
      have cut_74 : ∀ (n : Nat) (y_75 : Int32) (z_76 : Nat → Int32) (fz_77 : Nat → Nat → Int32) (H : Heap) (locs : List Loc) (ls : Array Slot), 8 - y_75.toInt ≤ (n : Int) → (0 ≤ y_75.toInt ∧ y_75.toInt ≤ 8) → smC v fa z_76 fz_77 → hdE 7 fa fz_77 → (∀ p, p < y_75.toNatClampNeg → csB fz_77 p = csT fa p) → mV z_76 → mA fz_77 → scr v fa z_76 fz_77 → va_P (dC, dI) vwCl (mW g0 pq cp z_76 fz_77) H → va_D A (mW g0 pq cp z_76 fz_77) → va_S A s.heap H locs → (z_76 58).toInt = (z_69 58).toInt → (z_76 59).toInt = (z_69 59).toInt → (z_76 60).toInt = (z_69 60).toInt → lv_has ls 7 [(4, .int y_75), (0, .ref g0), (1, .int x1), (2, .int x2), (3, .int x3)] → W p l e (headSpec wsX11_chooses { frames := 1, cells := 0, slots := 0, locals := 26 }).room s m #[Value.ref g0, Value.int x1, Value.int x2, Value.int x3] below meth c H locs 0 0 (MQ below (va_Qv (fun (u : (Nat → Int32) × (Nat → Nat → Int32)) => mV u.1 ∧ mA u.2 ∧ scr v fa u.1 u.2 ∧ (smC v fa u.1 u.2 ∧ hdE 7 fa u.2 ∧ RS nG MG (csW fa) 7 (pc (csT fa) 7 + 1) (u.1 60).toInt (csB u.2))) (fun u t => va_P (dC, dI) vwCl (mW g0 pq cp u.1 u.2) t.heap ∧ va_K (dC, dI) vwCl (mT cp) t ∧ va_D A (mW g0 pq cp u.1 u.2)) A) #[Value.ref g0, Value.int x1, Value.int x2, Value.int x3] s 0 0 A) (F0 m 32 ls []) := by
        intro n
        induction n using Nat.strongRecOn with
        | ind n ih =>
          intro y_75 z_76 fz_77 H locs ls hm hy_75 hq0_cut_74 hq1_cut_74 hq2_cut_74 hVz_76 hAz_76 hRz_76 hP hD hS g_78 g_79 g_80 hl
          have gm_81 := congrArg Int32.toInt hq0_cut_74.2.1
          have gm_82 := congrArg Int32.toInt hq0_cut_74.1
          refine lv_iload hx hb dX11_chooses_32 (lv_at hl 0 rfl) ?_
          refine lv_iload_n hx hb dX11_chooses_34 rfl (lv_at hl 2 rfl) ?_
          refine lv_icmp_ge (tgt := 58) hx hb dX11_chooses_35 (by decide) (fun c_83 => ?_) (fun c_83 => ?_)
          · have dc_83 := c_le (a := x1.toInt) (b := y_75.toInt) rfl rfl c_83
            exact W.vret hx hb hr (fun t ht hW => ⟨⟨(z_76, fz_77), rfl, ⟨hVz_76, hAz_76, hRz_76, ⟨hq0_cut_74, hq1_cut_74, RS_lf (show 7 = hnd nG by have q := hCS.1; omega) hPR (fun p hp => hq2_cut_74 p (show p < y_75.toInt.toNat by omega)) (by omega) (by dsimp only; omega) (sw_b (n := nG) (W := csW fa) (t := csT fa) (h := 7) (fun p hp => ⟨(hPR.1 p hp).2, (csW_b hCS _ _).2⟩)).1 hCS.2.2.1 hRS⟩⟩, ⟨by rw [ht]; exact hP, va_K.moved hW.alike hK, hD⟩⟩, hS.F ht⟩) hS.2.2 dX11_chooses_58
          · have dc_83 := c_nle (a := x1.toInt) (b := y_75.toInt) rfl rfl c_83
            refine lv_aload_n hx hb dX11_chooses_38 rfl (lv_at hl 1 rfl) ?_
            refine va_get (D := (dC, dI)) (ci := 11) (v := .ref (pq 57)) (C := RX11) (T := TX11) (N := 63) hx hb hts in_wsX11_chooses_X11 hown hK hP 0 rfl rfl 57 (by decide) (hts (.fieldLink RX11 146 "ShipOfficeModel" "best" "[I") iw_X11_chooses_3) (fun _ h9 => h9) rfl dX11_chooses_39 ?_
            refine lv_iload hx hb dX11_chooses_42 (lv_at hl 0 rfl) ?_
            refine lv_aload_n hx hb dX11_chooses_44 rfl (lv_at hl 1 rfl) ?_
            refine va_get (D := (dC, dI)) (ci := 11) (v := .ref (pq 56)) (C := RX11) (T := TX11) (N := 63) hx hb hts in_wsX11_chooses_X11 hown hK hP 0 rfl rfl 56 (by decide) (hts (.fieldLink RX11 143 "ShipOfficeModel" "hand" "[I") iw_X11_chooses_4) (fun _ h9 => h9) rfl dX11_chooses_45 ?_
            refine lv_iload hx hb dX11_chooses_48 (lv_at hl 0 rfl) ?_
            refine va_iald hx hb hK hP 45 44 rfl rfl (vp_in_iff.mpr (by omega)) dX11_chooses_50 ?_
            refine lv_topi (fun x_84 ex_84 => ?_)
            have hx_84 : 0 ≤ x_84.toInt ∧ x_84.toInt ≤ 11 := iv_of ex_84 (hAz_76 56 _)
            have gx_84 : x_84.toInt = (fz_77 56 (y_75 : Int32).toNatClampNeg).toInt := iv_to ex_84
            clear ex_84
            refine va_iast hx hb hK hP hD hS 46 45 rfl rfl (vp_in_iff.mpr (by omega)) dX11_chooses_51 (fun H locs hP hD hS => ?_)
            have hP : va_P (dC, dI) vwCl (mW g0 pq cp z_76 (upF fz_77 57 (y_75 : Int32).toNatClampNeg x_84)) H := hP
            have hD : va_D A (mW g0 pq cp z_76 (upF fz_77 57 (y_75 : Int32).toNatClampNeg x_84)) := hD
            obtain ⟨fz_85, efz_85⟩ : ∃ zq, zq = (upF fz_77 57 (y_75 : Int32).toNatClampNeg x_84) := ⟨_, rfl⟩
            rw [← efz_85] at hP hD
            have hAfz_85 : mA fz_85 := by rw [efz_85]; exact mA_upF (lo := 0) (hi := 11) hAz_76 rfl rfl (by omega)
            have hRfz_85 : scr v fa z_76 fz_85 := by rw [efz_85]; exact scr.uF hRz_76 rfl
            have g_86 : (fz_85 56 (y_75 : Int32).toNatClampNeg).toInt = (fz_77 56 (y_75 : Int32).toNatClampNeg).toInt := by rw [efz_85]; exact uF_ne (by decide)
            have q0_87 : fz_85 0 = fa 0 := by rw [efz_85]; exact (if_neg (by decide)).trans (hRz_76.2 0 rfl)
            have sm_88 : smC v fa z_76 fz_85 := by rw [efz_85]; exact smC.uF hq0_cut_74 (by decide) (by decide) (by decide)
            have hd_89 : hdE 7 fa fz_85 := by rw [efz_85]; exact hdE.uF hq1_cut_74 (Or.inl (by decide))
            obtain ⟨x_90, ex_90⟩ : ∃ zq : Int32, y_75 + 1 = zq := ⟨_, rfl⟩
            have hx_90 : x_90.toInt = y_75.toInt + 1 := (iv_to ex_90).symm.trans (ad_i rfl (by decide) (by omega) (by omega))
            refine lv_iinc (v := x_90) (lv' := [(4, .int x_90), (0, .ref g0), (1, .int x1), (2, .int x2), (3, .int x3)]) hx hb dX11_chooses_52 hl (k := 0) rfl ex_90 (by decide) rfl (fun ls hl => ?_)
            clear ex_90
            refine lv_goto (tgt := 32) hx hb dX11_chooses_55 (by decide) ?_
            exact ih (n - 1) (by omega) x_90 z_76 fz_85 _ _ ls (by omega) (by omega) sm_88 hd_89 (cb_s hq2_cut_74 efz_85 (by omega) hq1_cut_74 (show y_75.toInt.toNat < 7 by omega) (by omega) (by omega)) hVz_76 hAfz_85 hRfz_85 hP hD hS (by omega) (by omega) (by omega) (lv_sub hl [0, 1, 2, 3, 4] rfl)
      have kc_91 : (0 : Int32).toInt = 0 := by decide
      exact cut_74 9 0 z_69 fa _ _ ls (by omega) (by decide) sm_73 hdE.rf (al_0 (by decide)) hVz_69 gA hRz_69 hP hD hS (by omega) (by omega) (by omega) (lv_sub hl [0, 1, 2, 3, 4] rfl)
  · have dc_4 := c_nlt (a := x_3.toInt) (b := 0) rfl (by decide) c_4
    refine lv_iload_n hx hb dX11_chooses_7 rfl (lv_at hl 3 rfl) ?_
    refine lv_aload_n hx hb dX11_chooses_8 rfl (lv_at hl 0 rfl) ?_
    refine va_get (D := (dC, dI)) (ci := 11) (v := .int (v 60)) (C := RX11) (T := TX11) (N := 63) hx hb hts in_wsX11_chooses_X11 hown hK hP 0 rfl rfl 60 (by decide) (hts (.fieldLink RX11 338 "ShipOfficeModel" "least" "I") iw_X11_chooses_1) (fun _ h9 => h9) rfl dX11_chooses_9 ?_
    refine lv_topi (fun x_92 ex_92 => ?_)
    have gx_92 : x_92.toInt = (v 60).toInt := iv_to ex_92
    clear ex_92
    refine lv_icmp_lt (tgt := 16) hx hb dX11_chooses_12 (by decide) (fun c_93 => ?_) (fun c_93 => ?_)
    · have dc_93 := c_lt (a := x3.toInt) (b := x_92.toInt) rfl rfl c_93
      refine lv_iload_n hx hb dX11_chooses_16 rfl (lv_at hl 1 rfl) ?_
      refine lv_aload_n hx hb dX11_chooses_17 rfl (lv_at hl 0 rfl) ?_
      refine va_get (D := (dC, dI)) (ci := 11) (v := .int (v 59)) (C := RX11) (T := TX11) (N := 63) hx hb hts in_wsX11_chooses_X11 hown hK hP 0 rfl rfl 59 (by decide) (hts (.fieldLink RX11 341 "ShipOfficeModel" "hands" "I") iw_X11_chooses_2) (fun _ h9 => h9) rfl dX11_chooses_18 ?_
      refine lv_topi (fun x_94 ex_94 => ?_)
      have hx_94 : 0 ≤ x_94.toInt ∧ x_94.toInt ≤ 8 := iv_of ex_94 (gV 59)
      have gx_94 : x_94.toInt = (v 59).toInt := iv_to ex_94
      clear ex_94
      refine lv_icmp_ne (tgt := 59) hx hb dX11_chooses_21 (by decide) (fun c_95 => ?_) (fun c_95 => ?_)
      · have dc_95 := c_ne (a := x1.toInt) (b := x_94.toInt) rfl rfl c_95
        have cut_96 : ∀ (y_97 : Int32) (z_98 : Nat → Int32) (fz_99 : Nat → Nat → Int32) (H : Heap) (locs : List Loc) (ls : Array Slot), (0 ≤ y_97.toInt ∧ y_97.toInt ≤ 12) → (v = z_98 ∧ fa = fz_99) → y_97.toNatClampNeg = frs nG 7 (csT fa) → mV z_98 → mA fz_99 → scr v fa z_98 fz_99 → va_P (dC, dI) vwCl (mW g0 pq cp z_98 fz_99) H → va_D A (mW g0 pq cp z_98 fz_99) → va_S A s.heap H locs → (z_98 58).toInt = (v 58).toInt → (z_98 59).toInt = (v 59).toInt → (z_98 60).toInt = (v 60).toInt → lv_has ls 7 [(4, .int y_97), (0, .ref g0), (1, .int x1), (2, .int x2), (3, .int x3)] → W p l e (headSpec wsX11_chooses { frames := 1, cells := 0, slots := 0, locals := 26 }).room s m #[Value.ref g0, Value.int x1, Value.int x2, Value.int x3] below meth c H locs 0 0 (MQ below (va_Qv (fun (u : (Nat → Int32) × (Nat → Nat → Int32)) => mV u.1 ∧ mA u.2 ∧ scr v fa u.1 u.2 ∧ (smC v fa u.1 u.2 ∧ hdE 7 fa u.2 ∧ RS nG MG (csW fa) 7 (pc (csT fa) 7 + 1) (u.1 60).toInt (csB u.2))) (fun u t => va_P (dC, dI) vwCl (mW g0 pq cp u.1 u.2) t.heap ∧ va_K (dC, dI) vwCl (mT cp) t ∧ va_D A (mW g0 pq cp u.1 u.2)) A) #[Value.ref g0, Value.int x1, Value.int x2, Value.int x3] s 0 0 A) (F0 m 96 ls []) := by
          intro y_97 z_98 fz_99 H locs ls hy_97 hq0_cut_96 hq1_cut_96 hVz_98 hAz_98 hRz_98 hP hD hS g_100 g_101 g_102 hl
          obtain ⟨rfl, rfl⟩ := hq0_cut_96
          refine lv_iload hx hb dX11_chooses_96 (lv_at hl 0 rfl) ?_
          refine lv_istore (lv' := [(5, .int y_97), (4, .int y_97), (0, .ref g0), (1, .int x1), (2, .int x2), (3, .int x3)]) hx hb dX11_chooses_98 hl (by decide) rfl (fun ls hl => ?_)
          have cut_103 : ∀ (n : Nat) (y_104 : Int32) (z_105 : Nat → Int32) (fz_106 : Nat → Nat → Int32) (H : Heap) (locs : List Loc) (ls : Array Slot), 12 - y_104.toInt ≤ (n : Int) → (0 ≤ y_104.toInt ∧ y_104.toInt ≤ 12) → smC v fa z_105 fz_106 → hdE 7 fa fz_106 → RS nG MG (csW fa) 8 (16 * pc (csT fa) 7 + y_104.toNatClampNeg) (z_105 60).toInt (csB fz_106) → frs nG 7 (csT fa) ≤ y_104.toNatClampNeg → y_104.toInt ≤ (MG : Int) → mV z_105 → mA fz_106 → scr v fa z_105 fz_106 → va_P (dC, dI) vwCl (mW g0 pq cp z_105 fz_106) H → va_D A (mW g0 pq cp z_105 fz_106) → va_S A s.heap H locs → lv_has ls 7 [(5, .int y_104), (0, .ref g0), (1, .int x1), (2, .int x2), (3, .int x3)] → W p l e (headSpec wsX11_chooses { frames := 1, cells := 0, slots := 0, locals := 26 }).room s m #[Value.ref g0, Value.int x1, Value.int x2, Value.int x3] below meth c H locs 0 0 (MQ below (va_Qv (fun (u : (Nat → Int32) × (Nat → Nat → Int32)) => mV u.1 ∧ mA u.2 ∧ scr v fa u.1 u.2 ∧ (smC v fa u.1 u.2 ∧ hdE 7 fa u.2 ∧ RS nG MG (csW fa) 7 (pc (csT fa) 7 + 1) (u.1 60).toInt (csB u.2))) (fun u t => va_P (dC, dI) vwCl (mW g0 pq cp u.1 u.2) t.heap ∧ va_K (dC, dI) vwCl (mT cp) t ∧ va_D A (mW g0 pq cp u.1 u.2)) A) #[Value.ref g0, Value.int x1, Value.int x2, Value.int x3] s 0 0 A) (F0 m 100 ls []) := by
            intro n
            induction n using Nat.strongRecOn with
            | ind n ih =>
              intro y_104 z_105 fz_106 H locs ls hm hy_104 hq0_cut_103 hq1_cut_103 hq2_cut_103 hq3_cut_103 hq4_cut_103 hVz_105 hAz_105 hRz_105 hP hD hS hl
              have gm_107 := congrArg Int32.toInt hq0_cut_103.2.1
              have gm_108 := congrArg Int32.toInt hq0_cut_103.1
              have tn_109 : ((y_104.toNatClampNeg : Nat) : Int) = y_104.toInt := tn_i (by omega)
              refine lv_iload hx hb dX11_chooses_100 (lv_at hl 0 rfl) ?_
              refine lv_aload_n hx hb dX11_chooses_102 rfl (lv_at hl 1 rfl) ?_
              refine va_get (D := (dC, dI)) (ci := 11) (v := .int (z_105 58)) (C := RX11) (T := TX11) (N := 63) hx hb hts in_wsX11_chooses_X11 hown hK hP 0 rfl rfl 58 (by decide) (hts (.fieldLink RX11 344 "ShipOfficeModel" "someMany" "I") iw_X11_chooses_6) (fun _ h9 => h9) rfl dX11_chooses_103 ?_
              refine lv_topi (fun x_110 ex_110 => ?_)
              have hx_110 : 0 ≤ x_110.toInt ∧ x_110.toInt ≤ 12 := iv_of ex_110 (hVz_105 58)
              have gx_110 : x_110.toInt = (z_105 58).toInt := iv_to ex_110
              clear ex_110
              refine lv_icmp_ge (tgt := 181) hx hb dX11_chooses_106 (by decide) (fun c_111 => ?_) (fun c_111 => ?_)
              · have dc_111 := c_le (a := x_110.toInt) (b := y_104.toInt) rfl rfl c_111
                exact W.vret hx hb hr (fun t ht hW => ⟨⟨(z_105, fz_106), rfl, ⟨hVz_105, hAz_105, hRz_105, ⟨hq0_cut_103, hq1_cut_103, RS_lp hCS.2.2.1 (show 7 < hnd nG by have q := hCS.1; omega) (show y_104.toInt.toNat = MG by have q := hCS.2.1; omega) hq2_cut_103⟩⟩, ⟨by rw [ht]; exact hP, va_K.moved hW.alike hK, hD⟩⟩, hS.F ht⟩) hS.2.2 dX11_chooses_181
              · have dc_111 := c_nle (a := x_110.toInt) (b := y_104.toInt) rfl rfl c_111
                have cut_112 : ∀ (z_113 : Nat → Int32) (fz_114 : Nat → Nat → Int32) (H : Heap) (locs : List Loc) (ls : Array Slot), smC v fa z_113 fz_114 → hdE 7 fa fz_114 → RS nG MG (csW fa) 8 (16 * pc (csT fa) 7 + (y_104.toNatClampNeg + 1)) (z_113 60).toInt (csB fz_114) → mV z_113 → mA fz_114 → scr v fa z_113 fz_114 → va_P (dC, dI) vwCl (mW g0 pq cp z_113 fz_114) H → va_D A (mW g0 pq cp z_113 fz_114) → va_S A s.heap H locs → lv_has ls 7 [(5, .int y_104), (0, .ref g0), (1, .int x1), (2, .int x2), (3, .int x3)] → W p l e (headSpec wsX11_chooses { frames := 1, cells := 0, slots := 0, locals := 26 }).room s m #[Value.ref g0, Value.int x1, Value.int x2, Value.int x3] below meth c H locs 0 0 (MQ below (va_Qv (fun (u : (Nat → Int32) × (Nat → Nat → Int32)) => mV u.1 ∧ mA u.2 ∧ scr v fa u.1 u.2 ∧ (smC v fa u.1 u.2 ∧ hdE 7 fa u.2 ∧ RS nG MG (csW fa) 7 (pc (csT fa) 7 + 1) (u.1 60).toInt (csB u.2))) (fun u t => va_P (dC, dI) vwCl (mW g0 pq cp u.1 u.2) t.heap ∧ va_K (dC, dI) vwCl (mT cp) t ∧ va_D A (mW g0 pq cp u.1 u.2)) A) #[Value.ref g0, Value.int x1, Value.int x2, Value.int x3] s 0 0 A) (F0 m 175 ls []) := by
                  intro  z_113 fz_114 H locs ls hq0_cut_112 hq1_cut_112 hq2_cut_112 hVz_113 hAz_113 hRz_113 hP hD hS hl
                  have gm_115 := congrArg Int32.toInt hq0_cut_112.2.1
                  have gm_116 := congrArg Int32.toInt hq0_cut_112.1
                  obtain ⟨x_117, ex_117⟩ : ∃ zq : Int32, y_104 + 1 = zq := ⟨_, rfl⟩
                  have hx_117 : x_117.toInt = y_104.toInt + 1 := (iv_to ex_117).symm.trans (ad_i rfl (by decide) (by omega) (by omega))
                  refine lv_iinc (v := x_117) (lv' := [(5, .int x_117), (0, .ref g0), (1, .int x1), (2, .int x2), (3, .int x3)]) hx hb dX11_chooses_175 hl (k := 0) rfl ex_117 (by decide) rfl (fun ls hl => ?_)
                  clear ex_117
                  refine lv_goto (tgt := 100) hx hb dX11_chooses_178 (by decide) ?_
                  exact ih (n - 1) (by omega) x_117 z_113 fz_114 _ _ ls (by omega) (by omega) hq0_cut_112 hq1_cut_112 (by rw [show x_117.toNatClampNeg = y_104.toNatClampNeg + 1 from (show x_117.toInt.toNat = y_104.toInt.toNat + 1 by omega)]; exact hq2_cut_112) (by rw [show x_117.toNatClampNeg = y_104.toNatClampNeg + 1 from (show x_117.toInt.toNat = y_104.toInt.toNat + 1 by omega)]; exact Nat.le_succ_of_le hq3_cut_103) (by have q := hCS.2.1; omega) hVz_113 hAz_113 hRz_113 hP hD hS (lv_sub hl [0, 1, 2, 3, 4] rfl)
                refine lv_aload_n hx hb dX11_chooses_109 rfl (lv_at hl 1 rfl) ?_
                refine va_get (D := (dC, dI)) (ci := 11) (v := .ref (pq 5)) (C := RX11) (T := TX11) (N := 63) hx hb hts in_wsX11_chooses_X11 hown hK hP 0 rfl rfl 5 (by decide) (hts (.fieldLink RX11 25 "ShipOfficeModel" "asks" "[I") iw_X11_chooses_7) (fun _ h9 => h9) rfl dX11_chooses_110 ?_
                refine lv_iconst (v := 4) hx hb dX11_chooses_113 (by decide) ?_
                refine lv_aload_n hx hb dX11_chooses_114 rfl (lv_at hl 1 rfl) ?_
                refine va_get (D := (dC, dI)) (ci := 11) (v := .ref (pq 54)) (C := RX11) (T := TX11) (N := 63) hx hb hts in_wsX11_chooses_X11 hown hK hP 0 rfl rfl 54 (by decide) (hts (.fieldLink RX11 137 "ShipOfficeModel" "some" "[I") iw_X11_chooses_8) (fun _ h9 => h9) rfl dX11_chooses_115 ?_
                refine lv_iload hx hb dX11_chooses_118 (lv_at hl 0 rfl) ?_
                refine va_iald hx hb hK hP 43 42 rfl rfl (vp_in_iff.mpr (by omega)) dX11_chooses_120 ?_
                refine lv_topi (fun x_118 ex_118 => ?_)
                have hx_118 : 0 ≤ x_118.toInt ∧ x_118.toInt ≤ 39 := iv_of ex_118 (hAz_105 54 _)
                have gx_118 : x_118.toInt = (fz_106 54 (y_104 : Int32).toNatClampNeg).toInt := iv_to ex_118
                clear ex_118
                refine lv_imul hx hb dX11_chooses_121 ?_
                refine lv_topi (fun x_119 ex_119 => ?_)
                have hx_119 : x_119.toInt = 4 * x_118.toInt := (iv_to ex_119).trans (mu_i (by decide) rfl (by omega) (by omega))
                refine lv_aload_n hx hb dX11_chooses_122 rfl (lv_at hl 1 rfl) ?_
                refine va_get (D := (dC, dI)) (ci := 11) (v := .ref (pq 55)) (C := RX11) (T := TX11) (N := 63) hx hb hts in_wsX11_chooses_X11 hown hK hP 0 rfl rfl 55 (by decide) (hts (.fieldLink RX11 140 "ShipOfficeModel" "handRank" "[I") iw_X11_chooses_5) (fun _ h9 => h9) rfl dX11_chooses_123 ?_
                refine lv_iload_n hx hb dX11_chooses_126 rfl (lv_at hl 2 rfl) ?_
                refine va_iald hx hb hK hP 44 43 rfl rfl (vp_in_iff.mpr (by omega)) dX11_chooses_127 ?_
                refine lv_topi (fun x_120 ex_120 => ?_)
                have hx_120 : 0 ≤ x_120.toInt ∧ x_120.toInt ≤ 3 := iv_of ex_120 (hAz_105 55 _)
                have gx_120 : x_120.toInt = (fz_106 55 (x1 : Int32).toNatClampNeg).toInt := iv_to ex_120
                clear ex_120
                rw [show fz_106 55 = fa 55 from hq0_cut_103.2.2.1] at gx_120
                rw [show (x1 : Int32).toNatClampNeg = 7 from (show x1.toInt.toNat = 7 by omega), hCS.2.2.2.1 7 (by have q := hCS.1; omega)] at gx_120
                refine lv_iadd hx hb dX11_chooses_128 ?_
                refine lv_topi (fun x_121 ex_121 => ?_)
                have hx_121 : x_121.toInt = x_119.toInt + x_120.toInt := (iv_to ex_121).trans (ad_i rfl rfl (by omega) (by omega))
                refine va_iald hx hb hK hP 6 5 rfl rfl (vp_in_iff.mpr (by omega)) dX11_chooses_129 ?_
                refine lv_topi (fun x_122 ex_122 => ?_)
                have gx_122 : x_122.toInt = (fz_106 5 (x_121 : Int32).toNatClampNeg).toInt := iv_to ex_122
                clear ex_122
                have gwx_122 : x_122.toInt = csW fa y_104.toNatClampNeg (rkp nG 7) := by rw [← csW_e hq0_cut_103]; unfold csW; rw [← show (x_121 : Int32).toNatClampNeg = 4 * (fz_106 54 y_104.toNatClampNeg).toNatClampNeg + rkp nG 7 from (show x_121.toInt.toNat = 4 * (fz_106 54 y_104.toNatClampNeg).toInt.toNat + rkp nG 7 by omega)]; exact gx_122
                have gbx_122 : 0 ≤ x_122.toInt ∧ x_122.toInt ≤ 9999 := by rw [gwx_122]; exact csW_b hCS _ _
                refine lv_istore (lv' := [(6, .int x_122), (5, .int y_104), (0, .ref g0), (1, .int x1), (2, .int x2), (3, .int x3)]) hx hb dX11_chooses_130 hl (by decide) rfl (fun ls hl => ?_)
                refine lv_iload hx hb dX11_chooses_132 (lv_at hl 0 rfl) ?_
                refine lv_if_eq (tgt := 175) hx hb dX11_chooses_134 (by decide) (fun c_123 => ?_) (fun c_123 => ?_)
                · have dc_123 := c_eq (a := x_122.toInt) (b := 0) rfl (by decide) c_123
                  exact cut_112  z_105 fz_106 _ _ ls hq0_cut_103 hq1_cut_103 (RS_sk hCS.2.2.1 (show 7 < hnd nG by have q := hCS.1; omega) hPR (show y_104.toInt.toNat < MG by have q := hCS.2.1; omega) (sk_w (by omega) (show 7 < hnd nG by have q := hCS.1; omega)) hq2_cut_103) hVz_105 hAz_105 hRz_105 hP hD hS (lv_sub hl [1, 2, 3, 4, 5] rfl)
                · have dc_123 := c_ne (a := x_122.toInt) (b := 0) rfl (by decide) c_123
                  refine lv_iload_n hx hb dX11_chooses_137 rfl (lv_at hl 4 rfl) ?_
                  refine lv_iload hx hb dX11_chooses_138 (lv_at hl 1 rfl) ?_
                  refine lv_ishr hx hb dX11_chooses_140 ?_
                  refine lv_topi (fun x_124 ex_124 => ?_)
                  refine lv_iconst (v := 1) hx hb dX11_chooses_141 (by decide) ?_
                  refine lv_iand hx hb dX11_chooses_142 ?_
                  refine lv_topi (fun x_125 ex_125 => ?_)
                  refine lv_iconst (v := 1) hx hb dX11_chooses_143 (by decide) ?_
                  refine lv_icmp_ne (tgt := 150) hx hb dX11_chooses_144 (by decide) (fun c_126 => ?_) (fun c_126 => ?_)
                  · have dc_126 := c_ne (a := x_125.toInt) (b := 1) rfl (by decide) c_126
                    have nu_127 : ¬ ubI x2 y_104 := fun q => c_126 (by unfold ubI at q; rw [← ex_124, ← ex_125] at q; exact q)
                    refine lv_aload_n hx hb dX11_chooses_150 rfl (lv_at hl 2 rfl) ?_
                    refine va_get (D := (dC, dI)) (ci := 11) (v := .ref (pq 56)) (C := RX11) (T := TX11) (N := 63) hx hb hts in_wsX11_chooses_X11 hown hK hP 0 rfl rfl 56 (by decide) (hts (.fieldLink RX11 143 "ShipOfficeModel" "hand" "[I") iw_X11_chooses_4) (fun _ h9 => h9) rfl dX11_chooses_151 ?_
                    refine lv_iload_n hx hb dX11_chooses_154 rfl (lv_at hl 3 rfl) ?_
                    refine lv_iload hx hb dX11_chooses_155 (lv_at hl 1 rfl) ?_
                    refine va_iast hx hb hK hP hD hS 45 44 rfl rfl (vp_in_iff.mpr (by omega)) dX11_chooses_157 (fun H locs hP hD hS => ?_)
                    have hP : va_P (dC, dI) vwCl (mW g0 pq cp z_105 (upF fz_106 56 (x1 : Int32).toNatClampNeg y_104)) H := hP
                    have hD : va_D A (mW g0 pq cp z_105 (upF fz_106 56 (x1 : Int32).toNatClampNeg y_104)) := hD
                    obtain ⟨fz_128, efz_128⟩ : ∃ zq, zq = (upF fz_106 56 (x1 : Int32).toNatClampNeg y_104) := ⟨_, rfl⟩
                    rw [← efz_128] at hP hD
                    have hAfz_128 : mA fz_128 := by rw [efz_128]; exact mA_upF (lo := 0) (hi := 11) hAz_105 rfl rfl (by omega)
                    have hRfz_128 : scr v fa z_105 fz_128 := by rw [efz_128]; exact scr.uF hRz_105 rfl
                    have g_129 : (fz_128 5 (x_121 : Int32).toNatClampNeg).toInt = (fz_106 5 (x_121 : Int32).toNatClampNeg).toInt := by rw [efz_128]; exact uF_ne (by decide)
                    have g_130 : (fz_128 54 (y_104 : Int32).toNatClampNeg).toInt = (fz_106 54 (y_104 : Int32).toNatClampNeg).toInt := by rw [efz_128]; exact uF_ne (by decide)
                    have g_131 : (fz_128 55 (x1 : Int32).toNatClampNeg).toInt = (fz_106 55 (x1 : Int32).toNatClampNeg).toInt := by rw [efz_128]; exact uF_ne (by decide)
                    have q0_132 : fz_128 0 = fa 0 := by rw [efz_128]; exact (if_neg (by decide)).trans (hRz_105.2 0 rfl)
                    refine lv_aload_n hx hb dX11_chooses_158 rfl (lv_at hl 2 rfl) ?_
                    refine lv_iload_n hx hb dX11_chooses_159 rfl (lv_at hl 3 rfl) ?_
                    refine lv_iconst (v := 1) hx hb dX11_chooses_160 (by decide) ?_
                    refine lv_iadd hx hb dX11_chooses_161 ?_
                    refine lv_topi (fun x_133 ex_133 => ?_)
                    have hx_133 : x_133.toInt = x1.toInt + 1 := (iv_to ex_133).trans (ad_i rfl (by decide) (by omega) (by omega))
                    refine lv_iload_n hx hb dX11_chooses_162 rfl (lv_at hl 4 rfl) ?_
                    refine lv_iconst (v := 1) hx hb dX11_chooses_163 (by decide) ?_
                    refine lv_iload hx hb dX11_chooses_164 (lv_at hl 1 rfl) ?_
                    refine lv_ishl hx hb dX11_chooses_166 ?_
                    refine lv_topi (fun x_134 ex_134 => ?_)
                    refine lv_ior hx hb dX11_chooses_167 ?_
                    refine lv_topi (fun x_135 ex_135 => ?_)
                    refine lv_iload_n hx hb dX11_chooses_168 rfl (lv_at hl 5 rfl) ?_
                    refine lv_iload hx hb dX11_chooses_169 (lv_at hl 0 rfl) ?_
                    refine lv_iadd hx hb dX11_chooses_171 ?_
                    refine lv_topi (fun x_136 ex_136 => ?_)
                    have hx_136 : x_136.toInt = x3.toInt + x_122.toInt := (iv_to ex_136).trans (ad_i rfl rfl (by omega) (by omega))
                    have eo9 : x_135 = x2 ||| (1 <<< (y_104 &&& 31)) := by rw [ex_135, ex_134]
                    obtain ⟨q1, q2, q3, q4, q5, q6, q7, q8⟩ := ch_pre (x2 := x2) (x3 := x3) (y3 := x_136) hCS hq0_cut_103 hq1_cut_103 efz_128 (show (x1 : Int32).toInt.toNat = 7 by omega) ⟨by omega, by omega⟩ (show y_104.toInt.toNat < MG by have q := hCS.2.1; omega) hPR (by omega) nu_127 hq3_cut_103 hsm (by omega) hus hq2_cut_103
                    have qb := sw_b (n := nG) (W := csW fz_128) (t := csT fz_128) (h := 7 + 1) (fun p hp => ⟨(q4.1 p hp).2, (csW_b q3 _ _).2⟩)
                    rw [← eo9] at q6
                    have hFc := va_free (wc := (mW g0 pq cp z_105 fz_128)) hD hS hA (List.range 48) rfl
                    refine va_callv (va_runV (As := [.int x_133, .int x_135, .int x_136]) (rest := []) ⟨hx, hb, hml, hown, hts⟩ (c_X11_chooses_8w l dC dI H.size g0 pq cp z_105 fz_128 hVz_105 hAfz_128 x_133 (by omega) x_135 x_136 (by omega) (by have q := q3.1; omega) nG MG q3 q4 q5 q6 q8) (cwV 3 hts gX11_chooses_X11_chooses rfl rfl rfl (by decide +kernel) ⟨(Nat.le_of_ble_eq_true rfl), (Nat.le_of_ble_eq_true rfl)⟩) (pr_V (r := (RX11, TX11, 63)) hP hK hD 0 11 rfl rfl) rfl rfl hl.1 rfl (lv_room (Nat.le_of_ble_eq_true rfl)) dX11_chooses_172 ⟨(Nat.le_of_ble_eq_true rfl), (Nat.le_of_ble_eq_true rfl)⟩) hS (fun q _ h => hFc q h) hFc (fun u t H locs ht hvm w_137 hB hz1 hk1 hS => ?_)
                    obtain ⟨v_139, fa_140⟩ := u
                    obtain ⟨hP1, hK1, hD1⟩ := hB
                    rw [ht] at hP1
                    have hP : va_P (dC, dI) vwCl (mW g0 pq cp v_139 fa_140) H := hP1
                    have hD : va_D A (mW g0 pq cp v_139 fa_140) := hD1.weaken (fun _ _ _ h => hFc _ h)
                    clear hP1 hK1 hD1 hk1 hz1 hvm ht hFc
                    obtain ⟨hV_141, hA_142, hR_143, hx_144⟩ := w_137
                    dsimp only at hV_141 hA_142 hR_143 hx_144
                    have g_145 : (fa_140 5 (x_121 : Int32).toNatClampNeg).toInt = (fz_128 5 (x_121 : Int32).toNatClampNeg).toInt := congrArg (fun h : Nat → Int32 => Int32.toInt (h (x_121 : Int32).toNatClampNeg)) (hR_143.2 5 rfl)
                    have R_146 := scr.tr hRfz_128 hR_143
                    have q0_147 : fa_140 0 = fa 0 := (hR_143.2 0 rfl).trans q0_132
                    obtain ⟨p1, p2, p3⟩ := hx_144
                    obtain ⟨r1, r2, r3⟩ := ch_post q1 q2 q7 p1 p2 p3
                    exact cut_112  v_139 fa_140 _ _ ls r1 r2 r3 hV_141 hA_142 R_146 hP hD hS (lv_sub hl [1, 2, 3, 4, 5] rfl)
                  · have dc_126 := c_eq (a := x_125.toInt) (b := 1) rfl (by decide) c_126
                    have us_148 : ubI x2 y_104 := by unfold ubI; rw [← ex_124, ← ex_125]; exact c_126
                    refine lv_goto (tgt := 175) hx hb dX11_chooses_147 (by decide) ?_
                    exact cut_112  z_105 fz_106 _ _ ls hq0_cut_103 hq1_cut_103 (RS_sk hCS.2.2.1 (show 7 < hnd nG by have q := hCS.1; omega) hPR (show y_104.toInt.toNat < MG by have q := hCS.2.1; omega) (sk_u ((hus y_104 (by omega) (by omega)).mp us_148) (show 7 < hnd nG by have q := hCS.1; omega)) hq2_cut_103) hVz_105 hAz_105 hRz_105 hP hD hS (lv_sub hl [1, 2, 3, 4, 5] rfl)
          exact cut_103 13 y_97 v fa _ _ ls (by omega) (by omega) smC.rf hdE.rf (RS_en hCS.2.2.1 (show 7 < hnd nG by have q := hCS.1; omega) hPR hq1_cut_96 rfl hRS) (Nat.le_of_eq hq1_cut_96.symm) (by have q2 := frs_M hPR; rw [← hq1_cut_96] at q2; have q3 : y_97.toNatClampNeg = y_97.toInt.toNat := rfl; omega) hVz_98 hAz_98 hRz_98 hP hD hS (lv_sub hl [0, 2, 3, 4, 5] rfl)
        refine lv_iload_n hx hb dX11_chooses_59 rfl (lv_at hl 1 rfl) ?_
        refine lv_if_le (tgt := 93) hx hb dX11_chooses_60 (by decide) (fun c_149 => ?_) (fun c_149 => ?_)
        · have dc_149 := c_le (a := x1.toInt) (b := 0) rfl (by decide) c_149
          exfalso; omega
        · have dc_149 := c_nle (a := x1.toInt) (b := 0) rfl (by decide) c_149
          refine lv_aload_n hx hb dX11_chooses_63 rfl (lv_at hl 0 rfl) ?_
          refine va_get (D := (dC, dI)) (ci := 11) (v := .ref (pq 55)) (C := RX11) (T := TX11) (N := 63) hx hb hts in_wsX11_chooses_X11 hown hK hP 0 rfl rfl 55 (by decide) (hts (.fieldLink RX11 140 "ShipOfficeModel" "handRank" "[I") iw_X11_chooses_5) (fun _ h9 => h9) rfl dX11_chooses_64 ?_
          refine lv_iload_n hx hb dX11_chooses_67 rfl (lv_at hl 1 rfl) ?_
          refine lv_iconst (v := 1) hx hb dX11_chooses_68 (by decide) ?_
          refine lv_isub hx hb dX11_chooses_69 ?_
          refine lv_topi (fun x_150 ex_150 => ?_)
          have hx_150 : x_150.toInt = x1.toInt - 1 := (iv_to ex_150).trans (sb_i rfl (by decide) (by omega) (by omega))
          refine va_iald hx hb hK hP 44 43 rfl rfl (vp_in_iff.mpr (by omega)) dX11_chooses_70 ?_
          refine lv_topi (fun x_151 ex_151 => ?_)
          have hx_151 : 0 ≤ x_151.toInt ∧ x_151.toInt ≤ 3 := iv_of ex_151 (gA 55 _)
          have gx_151 : x_151.toInt = (fa 55 (x_150 : Int32).toNatClampNeg).toInt := iv_to ex_151
          clear ex_151
          rw [show (x_150 : Int32).toNatClampNeg = 6 from (show x_150.toInt.toNat = 6 by omega), hCS.2.2.2.1 6 (by have q := hCS.1; omega)] at gx_151
          refine lv_aload_n hx hb dX11_chooses_71 rfl (lv_at hl 0 rfl) ?_
          refine va_get (D := (dC, dI)) (ci := 11) (v := .ref (pq 55)) (C := RX11) (T := TX11) (N := 63) hx hb hts in_wsX11_chooses_X11 hown hK hP 0 rfl rfl 55 (by decide) (hts (.fieldLink RX11 140 "ShipOfficeModel" "handRank" "[I") iw_X11_chooses_5) (fun _ h9 => h9) rfl dX11_chooses_72 ?_
          refine lv_iload_n hx hb dX11_chooses_75 rfl (lv_at hl 1 rfl) ?_
          refine va_iald hx hb hK hP 44 43 rfl rfl (vp_in_iff.mpr (by omega)) dX11_chooses_76 ?_
          refine lv_topi (fun x_152 ex_152 => ?_)
          have hx_152 : 0 ≤ x_152.toInt ∧ x_152.toInt ≤ 3 := iv_of ex_152 (gA 55 _)
          have gx_152 : x_152.toInt = (fa 55 (x1 : Int32).toNatClampNeg).toInt := iv_to ex_152
          clear ex_152
          rw [show (x1 : Int32).toNatClampNeg = 7 from (show x1.toInt.toNat = 7 by omega), hCS.2.2.2.1 7 (by have q := hCS.1; omega)] at gx_152
          refine lv_icmp_ne (tgt := 93) hx hb dX11_chooses_77 (by decide) (fun c_153 => ?_) (fun c_153 => ?_)
          · have dc_153 := c_ne (a := x_151.toInt) (b := x_152.toInt) rfl rfl c_153
            refine lv_iconst (v := 0) hx hb dX11_chooses_93 (by decide) ?_
            refine lv_istore (lv' := [(4, .int 0), (0, .ref g0), (1, .int x1), (2, .int x2), (3, .int x3)]) hx hb dX11_chooses_94 hl (by decide) rfl (fun ls hl => ?_)
            have kc_154 : (0 : Int32).toInt = 0 := by decide
            exact cut_96 0 v fa _ _ ls (by decide) ⟨rfl, rfl⟩ (show (0 : Int32).toNatClampNeg = frs nG 7 (csT fa) by unfold frs; rw [if_neg (fun q => by have q2 : rkp nG 6 = rkp nG 7 := q.2; omega)]; rfl) gV gA scr.rf hP hD hS (by omega) (by omega) (by omega) (lv_sub hl [0, 1, 2, 3, 4] rfl)
          · have dc_153 := c_eq (a := x_151.toInt) (b := x_152.toInt) rfl rfl c_153
            refine lv_aload_n hx hb dX11_chooses_80 rfl (lv_at hl 0 rfl) ?_
            refine va_get (D := (dC, dI)) (ci := 11) (v := .ref (pq 56)) (C := RX11) (T := TX11) (N := 63) hx hb hts in_wsX11_chooses_X11 hown hK hP 0 rfl rfl 56 (by decide) (hts (.fieldLink RX11 143 "ShipOfficeModel" "hand" "[I") iw_X11_chooses_4) (fun _ h9 => h9) rfl dX11_chooses_81 ?_
            refine lv_iload_n hx hb dX11_chooses_84 rfl (lv_at hl 1 rfl) ?_
            refine lv_iconst (v := 1) hx hb dX11_chooses_85 (by decide) ?_
            refine lv_isub hx hb dX11_chooses_86 ?_
            refine lv_topi (fun x_155 ex_155 => ?_)
            have hx_155 : x_155.toInt = x1.toInt - 1 := (iv_to ex_155).trans (sb_i rfl (by decide) (by omega) (by omega))
            refine va_iald hx hb hK hP 45 44 rfl rfl (vp_in_iff.mpr (by omega)) dX11_chooses_87 ?_
            refine lv_topi (fun x_156 ex_156 => ?_)
            have hx_156 : 0 ≤ x_156.toInt ∧ x_156.toInt ≤ 11 := iv_of ex_156 (gA 56 _)
            have gx_156 : x_156.toInt = (fa 56 (x_155 : Int32).toNatClampNeg).toInt := iv_to ex_156
            clear ex_156
            rw [show (x_155 : Int32).toNatClampNeg = 6 from (show x_155.toInt.toNat = 6 by omega)] at gx_156
            refine lv_iconst (v := 1) hx hb dX11_chooses_88 (by decide) ?_
            refine lv_iadd hx hb dX11_chooses_89 ?_
            refine lv_topi (fun x_157 ex_157 => ?_)
            have hx_157 : x_157.toInt = x_156.toInt + 1 := (iv_to ex_157).trans (ad_i rfl (by decide) (by omega) (by omega))
            refine lv_goto (tgt := 94) hx hb dX11_chooses_90 (by decide) ?_
            refine lv_istore (lv' := [(4, .int x_157), (0, .ref g0), (1, .int x1), (2, .int x2), (3, .int x3)]) hx hb dX11_chooses_94 hl (by decide) rfl (fun ls hl => ?_)
            exact cut_96 x_157 v fa _ _ ls (by omega) ⟨rfl, rfl⟩ (show x_157.toNatClampNeg = frs nG 7 (csT fa) by unfold frs; rw [if_pos ⟨by decide, show rkp nG 6 = rkp nG 7 by omega⟩]; show x_157.toInt.toNat = (fa 56 6).toInt.toNat + 1; omega) gV gA scr.rf hP hD hS (by omega) (by omega) (by omega) (lv_sub hl [0, 1, 2, 3, 4] rfl)
      · have dc_95 := c_eq (a := x1.toInt) (b := x_94.toInt) rfl rfl c_95
        refine lv_aload_n hx hb dX11_chooses_24 rfl (lv_at hl 0 rfl) ?_
        refine lv_iload_n hx hb dX11_chooses_25 rfl (lv_at hl 3 rfl) ?_
        refine va_put (D := (dC, dI)) (ci := 11) (v := .int x3) (ty := .int) (C := RX11) (T := TX11) (N := 63) hx hb hts in_wsX11_chooses_X11 tyX11 tyX11_ok nmX11 hown hK hP hD hS 0 rfl rfl 60 (by decide) (hts (.fieldLink RX11 338 "ShipOfficeModel" "least" "I") iw_X11_chooses_1) (fun _ h9 => h9) rfl (by decide +kernel) rfl rfl (Nat.le_of_ble_eq_true rfl) dX11_chooses_26 (fun H locs hP hD hS => ?_)
        have hP : va_P (dC, dI) vwCl (mW g0 pq cp (upd v 60 x3) fa) H := hP
        have hD : va_D A (mW g0 pq cp (upd v 60 x3) fa) := hD
        obtain ⟨z_158, ez_158⟩ : ∃ zq, zq = (upd v 60 x3) := ⟨_, rfl⟩
        rw [← ez_158] at hP hD
        have hVz_158 : mV z_158 := by rw [ez_158]; exact mV_upd (lo := -2147483648) (hi := 2147483647) gV rfl rfl (iv_all _)
        have hRz_158 : scr v fa z_158 fa := by rw [ez_158]; exact scr.up scr.rf rfl
        have g_159 : (z_158 58).toInt = (v 58).toInt := by rw [ez_158]; exact congrArg Int32.toInt (if_neg (by decide))
        have g_160 : (z_158 59).toInt = (v 59).toInt := by rw [ez_158]; exact congrArg Int32.toInt (if_neg (by decide))
        have g_161 : (z_158 60).toInt = x3.toInt := by rw [ez_158, show upd v 60 x3 60 = x3 from if_pos rfl]
        have sm_162 : smC v fa z_158 fa := by rw [ez_158]; exact smC.up smC.rf (by decide) (by decide)
        refine lv_iconst (v := 0) hx hb dX11_chooses_29 (by decide) ?_
        refine lv_istore (lv' := [(4, .int 0), (0, .ref g0), (1, .int x1), (2, .int x2), (3, .int x3)]) hx hb dX11_chooses_30 hl (by decide) rfl (fun ls hl => ?_)
        have cut_163 : ∀ (n : Nat) (y_164 : Int32) (z_165 : Nat → Int32) (fz_166 : Nat → Nat → Int32) (H : Heap) (locs : List Loc) (ls : Array Slot), 8 - y_164.toInt ≤ (n : Int) → (0 ≤ y_164.toInt ∧ y_164.toInt ≤ 8) → smC v fa z_165 fz_166 → hdE 7 fa fz_166 → (∀ p, p < y_164.toNatClampNeg → csB fz_166 p = csT fa p) → mV z_165 → mA fz_166 → scr v fa z_165 fz_166 → va_P (dC, dI) vwCl (mW g0 pq cp z_165 fz_166) H → va_D A (mW g0 pq cp z_165 fz_166) → va_S A s.heap H locs → (z_165 58).toInt = (z_158 58).toInt → (z_165 59).toInt = (z_158 59).toInt → (z_165 60).toInt = (z_158 60).toInt → lv_has ls 7 [(4, .int y_164), (0, .ref g0), (1, .int x1), (2, .int x2), (3, .int x3)] → W p l e (headSpec wsX11_chooses { frames := 1, cells := 0, slots := 0, locals := 26 }).room s m #[Value.ref g0, Value.int x1, Value.int x2, Value.int x3] below meth c H locs 0 0 (MQ below (va_Qv (fun (u : (Nat → Int32) × (Nat → Nat → Int32)) => mV u.1 ∧ mA u.2 ∧ scr v fa u.1 u.2 ∧ (smC v fa u.1 u.2 ∧ hdE 7 fa u.2 ∧ RS nG MG (csW fa) 7 (pc (csT fa) 7 + 1) (u.1 60).toInt (csB u.2))) (fun u t => va_P (dC, dI) vwCl (mW g0 pq cp u.1 u.2) t.heap ∧ va_K (dC, dI) vwCl (mT cp) t ∧ va_D A (mW g0 pq cp u.1 u.2)) A) #[Value.ref g0, Value.int x1, Value.int x2, Value.int x3] s 0 0 A) (F0 m 32 ls []) := by
          intro n
          induction n using Nat.strongRecOn with
          | ind n ih =>
            intro y_164 z_165 fz_166 H locs ls hm hy_164 hq0_cut_163 hq1_cut_163 hq2_cut_163 hVz_165 hAz_165 hRz_165 hP hD hS g_167 g_168 g_169 hl
            have gm_170 := congrArg Int32.toInt hq0_cut_163.2.1
            have gm_171 := congrArg Int32.toInt hq0_cut_163.1
            refine lv_iload hx hb dX11_chooses_32 (lv_at hl 0 rfl) ?_
            refine lv_iload_n hx hb dX11_chooses_34 rfl (lv_at hl 2 rfl) ?_
            refine lv_icmp_ge (tgt := 58) hx hb dX11_chooses_35 (by decide) (fun c_172 => ?_) (fun c_172 => ?_)
            · have dc_172 := c_le (a := x1.toInt) (b := y_164.toInt) rfl rfl c_172
              exact W.vret hx hb hr (fun t ht hW => ⟨⟨(z_165, fz_166), rfl, ⟨hVz_165, hAz_165, hRz_165, ⟨hq0_cut_163, hq1_cut_163, RS_lf (show 7 = hnd nG by have q := hCS.1; omega) hPR (fun p hp => hq2_cut_163 p (show p < y_164.toInt.toNat by omega)) (by omega) (by dsimp only; omega) (sw_b (n := nG) (W := csW fa) (t := csT fa) (h := 7) (fun p hp => ⟨(hPR.1 p hp).2, (csW_b hCS _ _).2⟩)).1 hCS.2.2.1 hRS⟩⟩, ⟨by rw [ht]; exact hP, va_K.moved hW.alike hK, hD⟩⟩, hS.F ht⟩) hS.2.2 dX11_chooses_58
            · have dc_172 := c_nle (a := x1.toInt) (b := y_164.toInt) rfl rfl c_172
              refine lv_aload_n hx hb dX11_chooses_38 rfl (lv_at hl 1 rfl) ?_
              refine va_get (D := (dC, dI)) (ci := 11) (v := .ref (pq 57)) (C := RX11) (T := TX11) (N := 63) hx hb hts in_wsX11_chooses_X11 hown hK hP 0 rfl rfl 57 (by decide) (hts (.fieldLink RX11 146 "ShipOfficeModel" "best" "[I") iw_X11_chooses_3) (fun _ h9 => h9) rfl dX11_chooses_39 ?_
              refine lv_iload hx hb dX11_chooses_42 (lv_at hl 0 rfl) ?_
              refine lv_aload_n hx hb dX11_chooses_44 rfl (lv_at hl 1 rfl) ?_
              refine va_get (D := (dC, dI)) (ci := 11) (v := .ref (pq 56)) (C := RX11) (T := TX11) (N := 63) hx hb hts in_wsX11_chooses_X11 hown hK hP 0 rfl rfl 56 (by decide) (hts (.fieldLink RX11 143 "ShipOfficeModel" "hand" "[I") iw_X11_chooses_4) (fun _ h9 => h9) rfl dX11_chooses_45 ?_
              refine lv_iload hx hb dX11_chooses_48 (lv_at hl 0 rfl) ?_
              refine va_iald hx hb hK hP 45 44 rfl rfl (vp_in_iff.mpr (by omega)) dX11_chooses_50 ?_
              refine lv_topi (fun x_173 ex_173 => ?_)
              have hx_173 : 0 ≤ x_173.toInt ∧ x_173.toInt ≤ 11 := iv_of ex_173 (hAz_165 56 _)
              have gx_173 : x_173.toInt = (fz_166 56 (y_164 : Int32).toNatClampNeg).toInt := iv_to ex_173
              clear ex_173
              refine va_iast hx hb hK hP hD hS 46 45 rfl rfl (vp_in_iff.mpr (by omega)) dX11_chooses_51 (fun H locs hP hD hS => ?_)
              have hP : va_P (dC, dI) vwCl (mW g0 pq cp z_165 (upF fz_166 57 (y_164 : Int32).toNatClampNeg x_173)) H := hP
              have hD : va_D A (mW g0 pq cp z_165 (upF fz_166 57 (y_164 : Int32).toNatClampNeg x_173)) := hD
              obtain ⟨fz_174, efz_174⟩ : ∃ zq, zq = (upF fz_166 57 (y_164 : Int32).toNatClampNeg x_173) := ⟨_, rfl⟩
              rw [← efz_174] at hP hD
              have hAfz_174 : mA fz_174 := by rw [efz_174]; exact mA_upF (lo := 0) (hi := 11) hAz_165 rfl rfl (by omega)
              have hRfz_174 : scr v fa z_165 fz_174 := by rw [efz_174]; exact scr.uF hRz_165 rfl
              have g_175 : (fz_174 56 (y_164 : Int32).toNatClampNeg).toInt = (fz_166 56 (y_164 : Int32).toNatClampNeg).toInt := by rw [efz_174]; exact uF_ne (by decide)
              have q0_176 : fz_174 0 = fa 0 := by rw [efz_174]; exact (if_neg (by decide)).trans (hRz_165.2 0 rfl)
              have sm_177 : smC v fa z_165 fz_174 := by rw [efz_174]; exact smC.uF hq0_cut_163 (by decide) (by decide) (by decide)
              have hd_178 : hdE 7 fa fz_174 := by rw [efz_174]; exact hdE.uF hq1_cut_163 (Or.inl (by decide))
              obtain ⟨x_179, ex_179⟩ : ∃ zq : Int32, y_164 + 1 = zq := ⟨_, rfl⟩
              have hx_179 : x_179.toInt = y_164.toInt + 1 := (iv_to ex_179).symm.trans (ad_i rfl (by decide) (by omega) (by omega))
              refine lv_iinc (v := x_179) (lv' := [(4, .int x_179), (0, .ref g0), (1, .int x1), (2, .int x2), (3, .int x3)]) hx hb dX11_chooses_52 hl (k := 0) rfl ex_179 (by decide) rfl (fun ls hl => ?_)
              clear ex_179
              refine lv_goto (tgt := 32) hx hb dX11_chooses_55 (by decide) ?_
              exact ih (n - 1) (by omega) x_179 z_165 fz_174 _ _ ls (by omega) (by omega) sm_177 hd_178 (cb_s hq2_cut_163 efz_174 (by omega) hq1_cut_163 (show y_164.toInt.toNat < 7 by omega) (by omega) (by omega)) hVz_165 hAfz_174 hRfz_174 hP hD hS (by omega) (by omega) (by omega) (lv_sub hl [0, 1, 2, 3, 4] rfl)
        have kc_180 : (0 : Int32).toInt = 0 := by decide
        exact cut_163 9 0 z_158 fa _ _ ls (by omega) (by decide) sm_162 hdE.rf (al_0 (by decide)) hVz_158 gA hRz_158 hP hD hS (by omega) (by omega) (by omega) (lv_sub hl [0, 1, 2, 3, 4] rfl)
    · have dc_93 := c_nlt (a := x3.toInt) (b := x_92.toInt) rfl rfl c_93
      exact W.vret hx hb hr (fun t ht hW => ⟨⟨(v, fa), rfl, ⟨gV, gA, scr.rf, ⟨smC.rf, hdE.rf, RS_pr hCS.2.2.1 (show 7 ≤ hnd nG by have q := hCS.1; omega) hPR (by dsimp only; omega) (by dsimp only; omega) hRS⟩⟩, ⟨by rw [ht]; exact hP, va_K.moved hW.alike hK, hD⟩⟩, hS.F ht⟩) hS.2.2 dX11_chooses_15
