


set_option maxHeartbeats 4000000 in
set_option maxRecDepth 100000 in
theorem c_X11_chooses_5 (l : Launch) (dC : Nat → ClassId) (dI : Nat → Nat → Nat) (sz : Nat) (g0 : Nat) (pq : Nat → Nat) (cp : Nat → ClassId) (v : Nat → Int32) (fa : Nat → Nat → Int32) (gV : mV v) (gA : mA fa) (x1 : Int32) (hx1 : 5 ≤ x1.toInt ∧ x1.toInt ≤ 5) (x2 : Int32) (x3 : Int32) (hh : x1.toInt ≤ (v 59).toInt) : Met l yX11_chooses wsX11_chooses ({ frames := 3, cells := 0, slots := 0, locals := 78 }) (va_Pc [.ref g0, .int x1, .int x2, .int x3] (pcW (dC, dI) (mT cp) (mW g0 pq cp v fa) sz)) (va_Qv (fun (u : (Nat → Int32) × (Nat → Nat → Int32)) => mV u.1 ∧ mA u.2 ∧ scr v fa u.1 u.2 ∧ ((u.1 59).toInt = (v 59).toInt)) (fun u t => va_P (dC, dI) vwCl (mW g0 pq cp u.1 u.2) t.heap ∧ va_K (dC, dI) vwCl (mT cp) t ∧ va_D (va_A (mW g0 pq cp v fa) sz) (mW g0 pq cp u.1 u.2)) (va_A (mW g0 pq cp v fa) sz)) 0 0 (va_A (mW g0 pq cp v fa) sz) := by
  refine Met.ofW (cc := cX11_chooses) (maxL := 7) (ret := none) (by decide +kernel) rfl ?_
  intro p e s m args below meth c s₁ B hml hv
  obtain ⟨rfl, hsz, hP, hK, hD0⟩ := hv
  have hx := B.exec
  have hb := B.bytes
  have hr := B.returns
  have hts := atoms_spec (ws := wsX11_chooses) B.pre
  have hown : s.vm.findClass RX11 = some m.cls := findClass_of_methodNamed B.named
  have hlocks := B.notSynchronized
  subst hsz
  have hD := hD0.self (sz := s.heap.size)
  generalize hAe : va_A (mW g0 pq cp v fa) s.heap.size = A at hD ⊢
  have hA : ∀ q : Nat, s.heap.size ≤ q → A q := fun q h => by rw [← hAe]; exact Or.inr h
  have hS : va_S A s.heap s.heap [] := va_S.rf
  have hP : va_P (dC, dI) vwCl (mW g0 pq cp v fa) s.heap := hP
  have hl := lv_entry ([.ref g0, .int x1, .int x2, .int x3]) (n := 7) (Nat.le_of_ble_eq_true rfl)
  rw [lg_entry_eq]
  generalize (lg_sl ([.ref g0, .int x1, .int x2, .int x3]) ++ List.replicate (7 - (lg_sl ([.ref g0, .int x1, .int x2, .int x3])).length) Slot.unset).toArray = ls at hl ⊢
  have hl : lv_has ls 7 [(0, .ref g0), (1, .int x1), (2, .int x2), (3, .int x3)] := hl
  refine lv_aload_n hx hb dX11_chooses_0 rfl (lv_at hl 0 rfl) ?_
  refine va_get (D := (dC, dI)) (ci := 11) (v := .int (v 60)) (C := RX11) (T := TX11) (N := 63) hx hb hts in_wsX11_chooses_X11 hown hK hP 0 rfl rfl 60 (by decide +kernel) (hts (.fieldLink RX11 338 "ShipOfficeModel" "least" "I") iw_X11_chooses_1) (fun _ h9 => h9) rfl dX11_chooses_1 ?_
  refine lv_topi (fun x_1 ex_1 => ?_)
  clear ex_1
  refine lv_if_lt (tgt := 16) hx hb dX11_chooses_4 (by decide +kernel) (fun c_2 => ?_) (fun c_2 => ?_)
  · have dc_2 := c_lt (a := x_1.toInt) (b := 0) rfl (by decide +kernel) c_2
    refine lv_iload_n hx hb dX11_chooses_16 rfl (lv_at hl 1 rfl) ?_
    refine lv_aload_n hx hb dX11_chooses_17 rfl (lv_at hl 0 rfl) ?_
    refine va_get (D := (dC, dI)) (ci := 11) (v := .int (v 59)) (C := RX11) (T := TX11) (N := 63) hx hb hts in_wsX11_chooses_X11 hown hK hP 0 rfl rfl 59 (by decide +kernel) (hts (.fieldLink RX11 341 "ShipOfficeModel" "hands" "I") iw_X11_chooses_2) (fun _ h9 => h9) rfl dX11_chooses_18 ?_
    refine lv_topi (fun x_3 ex_3 => ?_)
    have hx_3 : 0 ≤ x_3.toInt ∧ x_3.toInt ≤ 8 := iv_of ex_3 (gV 59)
    have gx_3 : x_3.toInt = (v 59).toInt := iv_to ex_3
    clear ex_3
    refine lv_icmp_ne (tgt := 59) hx hb dX11_chooses_21 (by decide +kernel) (fun c_4 => ?_) (fun c_4 => ?_)
    · have dc_4 := c_ne (a := x1.toInt) (b := x_3.toInt) rfl rfl c_4
      refine lv_iload_n hx hb dX11_chooses_59 rfl (lv_at hl 1 rfl) ?_
      refine lv_if_le (tgt := 93) hx hb dX11_chooses_60 (by decide +kernel) (fun c_5 => ?_) (fun c_5 => ?_)
      · have dc_5 := c_le (a := x1.toInt) (b := 0) rfl (by decide +kernel) c_5
        exfalso; omega
      · have dc_5 := c_nle (a := x1.toInt) (b := 0) rfl (by decide +kernel) c_5
        refine lv_aload_n hx hb dX11_chooses_63 rfl (lv_at hl 0 rfl) ?_
        refine va_get (D := (dC, dI)) (ci := 11) (v := .ref (pq 55)) (C := RX11) (T := TX11) (N := 63) hx hb hts in_wsX11_chooses_X11 hown hK hP 0 rfl rfl 55 (by decide +kernel) (hts (.fieldLink RX11 140 "ShipOfficeModel" "handRank" "[I") iw_X11_chooses_5) (fun _ h9 => h9) rfl dX11_chooses_64 ?_
        refine lv_iload_n hx hb dX11_chooses_67 rfl (lv_at hl 1 rfl) ?_
        refine lv_iconst (v := 1) hx hb dX11_chooses_68 (by decide +kernel) ?_
        refine lv_isub hx hb dX11_chooses_69 ?_
        refine lv_topi (fun x_6 ex_6 => ?_)
        have hx_6 : x_6.toInt = x1.toInt - 1 := (iv_to ex_6).trans (sb_i rfl (by decide +kernel) (by omega) (by omega))
        clear ex_6
        refine va_iald hx hb hK hP 44 43 rfl rfl (vp_in_iff.mpr (by omega)) dX11_chooses_70 ?_
        refine lv_topi (fun x_7 ex_7 => ?_)
        have hx_7 : 0 ≤ x_7.toInt ∧ x_7.toInt ≤ 3 := iv_of ex_7 (gA 55 _)
        clear ex_7
        refine lv_aload_n hx hb dX11_chooses_71 rfl (lv_at hl 0 rfl) ?_
        refine va_get (D := (dC, dI)) (ci := 11) (v := .ref (pq 55)) (C := RX11) (T := TX11) (N := 63) hx hb hts in_wsX11_chooses_X11 hown hK hP 0 rfl rfl 55 (by decide +kernel) (hts (.fieldLink RX11 140 "ShipOfficeModel" "handRank" "[I") iw_X11_chooses_5) (fun _ h9 => h9) rfl dX11_chooses_72 ?_
        refine lv_iload_n hx hb dX11_chooses_75 rfl (lv_at hl 1 rfl) ?_
        refine va_iald hx hb hK hP 44 43 rfl rfl (vp_in_iff.mpr (by omega)) dX11_chooses_76 ?_
        refine lv_topi (fun x_8 ex_8 => ?_)
        have hx_8 : 0 ≤ x_8.toInt ∧ x_8.toInt ≤ 3 := iv_of ex_8 (gA 55 _)
        clear ex_8
        refine lv_icmp_ne (tgt := 93) hx hb dX11_chooses_77 (by decide +kernel) (fun c_9 => ?_) (fun c_9 => ?_)
        · have dc_9 := c_ne (a := x_7.toInt) (b := x_8.toInt) rfl rfl c_9
          refine lv_iconst (v := 0) hx hb dX11_chooses_93 (by decide +kernel) ?_
          refine lv_istore (lv' := [(4, .int 0), (0, .ref g0), (1, .int x1), (2, .int x2), (3, .int x3)]) hx hb dX11_chooses_94 hl (by decide +kernel) rfl (fun ls hl => ?_)
          refine lv_iload hx hb dX11_chooses_96 (lv_at hl 0 rfl) ?_
          refine lv_istore (lv' := [(5, .int 0), (4, .int 0), (0, .ref g0), (1, .int x1), (2, .int x2), (3, .int x3)]) hx hb dX11_chooses_98 hl (by decide +kernel) rfl (fun ls hl => ?_)
          have cut_10 : ∀ (n : Nat) (y_11 : Int32) (z_12 : Nat → Int32) (fz_13 : Nat → Nat → Int32) (H : Heap) (locs : List Loc) (ls : Array Slot), 12 - y_11.toInt ≤ (n : Int) → (0 ≤ y_11.toInt ∧ y_11.toInt ≤ 12) → mV z_12 → mA fz_13 → scr v fa z_12 fz_13 → va_P (dC, dI) vwCl (mW g0 pq cp z_12 fz_13) H → va_D A (mW g0 pq cp z_12 fz_13) → va_S A s.heap H locs → (z_12 59).toInt = (v 59).toInt → lv_has ls 7 [(5, .int y_11), (4, .int 0), (0, .ref g0), (1, .int x1), (2, .int x2), (3, .int x3)] → W p l e (headSpec wsX11_chooses { frames := 3, cells := 0, slots := 0, locals := 78 }).room s m #[Value.ref g0, Value.int x1, Value.int x2, Value.int x3] below meth c H locs 0 0 (MQ below (va_Qv (fun (u : (Nat → Int32) × (Nat → Nat → Int32)) => mV u.1 ∧ mA u.2 ∧ scr v fa u.1 u.2 ∧ ((u.1 59).toInt = (v 59).toInt)) (fun u t => va_P (dC, dI) vwCl (mW g0 pq cp u.1 u.2) t.heap ∧ va_K (dC, dI) vwCl (mT cp) t ∧ va_D A (mW g0 pq cp u.1 u.2)) A) #[Value.ref g0, Value.int x1, Value.int x2, Value.int x3] s 0 0 A) (F0 m 100 ls []) := by
            intro n
            induction n using Nat.strongRecOn with
            | ind n ih =>
              intro y_11 z_12 fz_13 H locs ls hm hy_11 hVz_12 hAz_12 hRz_12 hP hD hS g_14 hl
              refine lv_iload hx hb dX11_chooses_100 (lv_at hl 0 rfl) ?_
              refine lv_aload_n hx hb dX11_chooses_102 rfl (lv_at hl 2 rfl) ?_
              refine va_get (D := (dC, dI)) (ci := 11) (v := .int (z_12 58)) (C := RX11) (T := TX11) (N := 63) hx hb hts in_wsX11_chooses_X11 hown hK hP 0 rfl rfl 58 (by decide +kernel) (hts (.fieldLink RX11 344 "ShipOfficeModel" "someMany" "I") iw_X11_chooses_6) (fun _ h9 => h9) rfl dX11_chooses_103 ?_
              refine lv_topi (fun x_15 ex_15 => ?_)
              have hx_15 : 0 ≤ x_15.toInt ∧ x_15.toInt ≤ 12 := iv_of ex_15 (hVz_12 58)
              clear ex_15
              refine lv_icmp_ge (tgt := 181) hx hb dX11_chooses_106 (by decide +kernel) (fun c_16 => ?_) (fun c_16 => ?_)
              · have dc_16 := c_le (a := x_15.toInt) (b := y_11.toInt) rfl rfl c_16
                exact W.vret hx hb hr (fun t ht hW => ⟨⟨(z_12, fz_13), rfl, ⟨hVz_12, hAz_12, hRz_12, (by dsimp only; omega)⟩, ⟨by rw [ht]; exact hP, va_K.moved hW.alike hK, hD⟩⟩, hS.F ht⟩) hS.2.2 dX11_chooses_181
              · have dc_16 := c_nle (a := x_15.toInt) (b := y_11.toInt) rfl rfl c_16
                have cut_17 : ∀ (z_18 : Nat → Int32) (fz_19 : Nat → Nat → Int32) (H : Heap) (locs : List Loc) (ls : Array Slot), mV z_18 → mA fz_19 → scr v fa z_18 fz_19 → va_P (dC, dI) vwCl (mW g0 pq cp z_18 fz_19) H → va_D A (mW g0 pq cp z_18 fz_19) → va_S A s.heap H locs → (z_18 59).toInt = (z_12 59).toInt → lv_has ls 7 [(5, .int y_11), (4, .int 0), (0, .ref g0), (1, .int x1), (2, .int x2), (3, .int x3)] → W p l e (headSpec wsX11_chooses { frames := 3, cells := 0, slots := 0, locals := 78 }).room s m #[Value.ref g0, Value.int x1, Value.int x2, Value.int x3] below meth c H locs 0 0 (MQ below (va_Qv (fun (u : (Nat → Int32) × (Nat → Nat → Int32)) => mV u.1 ∧ mA u.2 ∧ scr v fa u.1 u.2 ∧ ((u.1 59).toInt = (v 59).toInt)) (fun u t => va_P (dC, dI) vwCl (mW g0 pq cp u.1 u.2) t.heap ∧ va_K (dC, dI) vwCl (mT cp) t ∧ va_D A (mW g0 pq cp u.1 u.2)) A) #[Value.ref g0, Value.int x1, Value.int x2, Value.int x3] s 0 0 A) (F0 m 175 ls []) := by
                  intro  z_18 fz_19 H locs ls hVz_18 hAz_18 hRz_18 hP hD hS g_20 hl
                  obtain ⟨x_21, ex_21⟩ : ∃ zq : Int32, y_11 + 1 = zq := ⟨_, rfl⟩
                  have hx_21 : x_21.toInt = y_11.toInt + 1 := (iv_to ex_21).symm.trans (ad_i rfl (by decide +kernel) (by omega) (by omega))
                  refine lv_iinc (v := x_21) (lv' := [(5, .int x_21), (4, .int 0), (0, .ref g0), (1, .int x1), (2, .int x2), (3, .int x3)]) hx hb dX11_chooses_175 hl (k := 0) rfl ex_21 (by decide +kernel) rfl (fun ls hl => ?_)
                  clear ex_21
                  refine lv_goto (tgt := 100) hx hb dX11_chooses_178 (by decide +kernel) ?_
                  exact ih (n - 1) (by omega) x_21 z_18 fz_19 _ _ ls (by omega) (by omega) hVz_18 hAz_18 hRz_18 hP hD hS (by omega) (lv_sub hl [0, 1, 2, 3, 4, 5] rfl)
                refine lv_aload_n hx hb dX11_chooses_109 rfl (lv_at hl 2 rfl) ?_
                refine va_get (D := (dC, dI)) (ci := 11) (v := .ref (pq 5)) (C := RX11) (T := TX11) (N := 63) hx hb hts in_wsX11_chooses_X11 hown hK hP 0 rfl rfl 5 (by decide +kernel) (hts (.fieldLink RX11 25 "ShipOfficeModel" "asks" "[I") iw_X11_chooses_7) (fun _ h9 => h9) rfl dX11_chooses_110 ?_
                refine lv_iconst (v := 4) hx hb dX11_chooses_113 (by decide +kernel) ?_
                refine lv_aload_n hx hb dX11_chooses_114 rfl (lv_at hl 2 rfl) ?_
                refine va_get (D := (dC, dI)) (ci := 11) (v := .ref (pq 54)) (C := RX11) (T := TX11) (N := 63) hx hb hts in_wsX11_chooses_X11 hown hK hP 0 rfl rfl 54 (by decide +kernel) (hts (.fieldLink RX11 137 "ShipOfficeModel" "some" "[I") iw_X11_chooses_8) (fun _ h9 => h9) rfl dX11_chooses_115 ?_
                refine lv_iload hx hb dX11_chooses_118 (lv_at hl 0 rfl) ?_
                refine va_iald hx hb hK hP 43 42 rfl rfl (vp_in_iff.mpr (by omega)) dX11_chooses_120 ?_
                refine lv_topi (fun x_22 ex_22 => ?_)
                have hx_22 : 0 ≤ x_22.toInt ∧ x_22.toInt ≤ 39 := iv_of ex_22 (hAz_12 54 _)
                clear ex_22
                refine lv_imul hx hb dX11_chooses_121 ?_
                refine lv_topi (fun x_23 ex_23 => ?_)
                have hx_23 : x_23.toInt = 4 * x_22.toInt := (iv_to ex_23).trans (mu_i (by decide +kernel) rfl (by omega) (by omega))
                clear ex_23
                refine lv_aload_n hx hb dX11_chooses_122 rfl (lv_at hl 2 rfl) ?_
                refine va_get (D := (dC, dI)) (ci := 11) (v := .ref (pq 55)) (C := RX11) (T := TX11) (N := 63) hx hb hts in_wsX11_chooses_X11 hown hK hP 0 rfl rfl 55 (by decide +kernel) (hts (.fieldLink RX11 140 "ShipOfficeModel" "handRank" "[I") iw_X11_chooses_5) (fun _ h9 => h9) rfl dX11_chooses_123 ?_
                refine lv_iload_n hx hb dX11_chooses_126 rfl (lv_at hl 3 rfl) ?_
                refine va_iald hx hb hK hP 44 43 rfl rfl (vp_in_iff.mpr (by omega)) dX11_chooses_127 ?_
                refine lv_topi (fun x_24 ex_24 => ?_)
                have hx_24 : 0 ≤ x_24.toInt ∧ x_24.toInt ≤ 3 := iv_of ex_24 (hAz_12 55 _)
                clear ex_24
                refine lv_iadd hx hb dX11_chooses_128 ?_
                refine lv_topi (fun x_25 ex_25 => ?_)
                have hx_25 : x_25.toInt = x_23.toInt + x_24.toInt := (iv_to ex_25).trans (ad_i rfl rfl (by omega) (by omega))
                clear ex_25
                refine va_iald hx hb hK hP 6 5 rfl rfl (vp_in_iff.mpr (by omega)) dX11_chooses_129 ?_
                refine lv_topi (fun x_26 ex_26 => ?_)
                clear ex_26
                refine lv_istore (lv' := [(6, .int x_26), (5, .int y_11), (4, .int 0), (0, .ref g0), (1, .int x1), (2, .int x2), (3, .int x3)]) hx hb dX11_chooses_130 hl (by decide +kernel) rfl (fun ls hl => ?_)
                refine lv_iload hx hb dX11_chooses_132 (lv_at hl 0 rfl) ?_
                refine lv_if_eq (tgt := 175) hx hb dX11_chooses_134 (by decide +kernel) (fun c_27 => ?_) (fun c_27 => ?_)
                · have dc_27 := c_eq (a := x_26.toInt) (b := 0) rfl (by decide +kernel) c_27
                  exact cut_17  z_12 fz_13 _ _ ls  hVz_12 hAz_12 hRz_12 hP hD hS (by omega) (lv_sub hl [1, 2, 3, 4, 5, 6] rfl)
                · have dc_27 := c_ne (a := x_26.toInt) (b := 0) rfl (by decide +kernel) c_27
                  refine lv_iload_n hx hb dX11_chooses_137 rfl (lv_at hl 5 rfl) ?_
                  refine lv_iload hx hb dX11_chooses_138 (lv_at hl 1 rfl) ?_
                  refine lv_ishr hx hb dX11_chooses_140 ?_
                  refine lv_topi (fun x_28 ex_28 => ?_)
                  clear ex_28
                  refine lv_iconst (v := 1) hx hb dX11_chooses_141 (by decide +kernel) ?_
                  refine lv_iand hx hb dX11_chooses_142 ?_
                  refine lv_topi (fun x_29 ex_29 => ?_)
                  clear ex_29
                  refine lv_iconst (v := 1) hx hb dX11_chooses_143 (by decide +kernel) ?_
                  refine lv_icmp_ne (tgt := 150) hx hb dX11_chooses_144 (by decide +kernel) (fun c_30 => ?_) (fun c_30 => ?_)
                  · have dc_30 := c_ne (a := x_29.toInt) (b := 1) rfl (by decide +kernel) c_30
                    refine lv_aload_n hx hb dX11_chooses_150 rfl (lv_at hl 3 rfl) ?_
                    refine va_get (D := (dC, dI)) (ci := 11) (v := .ref (pq 56)) (C := RX11) (T := TX11) (N := 63) hx hb hts in_wsX11_chooses_X11 hown hK hP 0 rfl rfl 56 (by decide +kernel) (hts (.fieldLink RX11 143 "ShipOfficeModel" "hand" "[I") iw_X11_chooses_4) (fun _ h9 => h9) rfl dX11_chooses_151 ?_
                    refine lv_iload_n hx hb dX11_chooses_154 rfl (lv_at hl 4 rfl) ?_
                    refine lv_iload hx hb dX11_chooses_155 (lv_at hl 1 rfl) ?_
                    refine va_iast hx hb hK hP hD hS 45 44 rfl rfl (vp_in_iff.mpr (by omega)) dX11_chooses_157 (fun H locs hP hD hS => ?_)
                    have hP : va_P (dC, dI) vwCl (mW g0 pq cp z_12 (upF fz_13 56 (x1 : Int32).toNatClampNeg y_11)) H := hP
                    have hD : va_D A (mW g0 pq cp z_12 (upF fz_13 56 (x1 : Int32).toNatClampNeg y_11)) := hD
                    obtain ⟨fz_31, efz_31⟩ : ∃ zq, zq = (upF fz_13 56 (x1 : Int32).toNatClampNeg y_11) := ⟨_, rfl⟩
                    rw [← efz_31] at hP hD
                    have hAfz_31 : mA fz_31 := by rw [efz_31]; exact mA_upF (lo := 0) (hi := 11) hAz_12 rfl rfl (by omega)
                    have hRfz_31 : scr v fa z_12 fz_31 := by rw [efz_31]; exact scr.uF hRz_12 rfl
                    refine lv_aload_n hx hb dX11_chooses_158 rfl (lv_at hl 3 rfl) ?_
                    refine lv_iload_n hx hb dX11_chooses_159 rfl (lv_at hl 4 rfl) ?_
                    refine lv_iconst (v := 1) hx hb dX11_chooses_160 (by decide +kernel) ?_
                    refine lv_iadd hx hb dX11_chooses_161 ?_
                    refine lv_topi (fun x_32 ex_32 => ?_)
                    have hx_32 : x_32.toInt = x1.toInt + 1 := (iv_to ex_32).trans (ad_i rfl (by decide +kernel) (by omega) (by omega))
                    clear ex_32
                    refine lv_iload_n hx hb dX11_chooses_162 rfl (lv_at hl 5 rfl) ?_
                    refine lv_iconst (v := 1) hx hb dX11_chooses_163 (by decide +kernel) ?_
                    refine lv_iload hx hb dX11_chooses_164 (lv_at hl 1 rfl) ?_
                    refine lv_ishl hx hb dX11_chooses_166 ?_
                    refine lv_topi (fun x_33 ex_33 => ?_)
                    clear ex_33
                    refine lv_ior hx hb dX11_chooses_167 ?_
                    refine lv_topi (fun x_34 ex_34 => ?_)
                    clear ex_34
                    refine lv_iload_n hx hb dX11_chooses_168 rfl (lv_at hl 6 rfl) ?_
                    refine lv_iload hx hb dX11_chooses_169 (lv_at hl 0 rfl) ?_
                    refine lv_iadd hx hb dX11_chooses_171 ?_
                    refine lv_topi (fun x_35 ex_35 => ?_)
                    clear ex_35
                    have hFc := va_free (wc := (mW g0 pq cp z_12 fz_31)) hD hS hA (List.range 48) rfl
                    refine va_callv (va_runV (As := [.int x_32, .int x_34, .int x_35]) (rest := []) ⟨hx, hb, hml, hown, hts⟩ (c_X11_chooses_6 l dC dI H.size g0 pq cp z_12 fz_31 hVz_12 hAfz_31 x_32 (by omega) x_34 x_35 (by omega)) (cwV 3 hts gX11_chooses_X11_chooses rfl rfl rfl (by decide +kernel) ⟨(Nat.le_of_ble_eq_true rfl), (Nat.le_of_ble_eq_true rfl)⟩) (pr_V (r := (RX11, TX11, 63)) hP hK hD 0 11 rfl rfl) rfl rfl hl.1 rfl (lv_room (Nat.le_of_ble_eq_true rfl)) dX11_chooses_172 ⟨(Nat.le_of_ble_eq_true rfl), (Nat.le_of_ble_eq_true rfl)⟩) hS (fun q _ h => hFc q h) hFc (fun u t H locs ht hvm w_36 hB hz1 hk1 hS => ?_)
                    obtain ⟨v_38, fa_39⟩ := u
                    obtain ⟨hP1, hK1, hD1⟩ := hB
                    rw [ht] at hP1
                    have hP : va_P (dC, dI) vwCl (mW g0 pq cp v_38 fa_39) H := hP1
                    have hD : va_D A (mW g0 pq cp v_38 fa_39) := hD1.weaken (fun _ _ _ h => hFc _ h)
                    clear hP1 hK1 hD1 hk1 hz1 hvm ht hFc
                    obtain ⟨hV_40, hA_41, hR_42, hx_43⟩ := w_36
                    dsimp only at hV_40 hA_41 hR_42 hx_43
                    have g_44 : (v_38 59).toInt = (z_12 59).toInt := hx_43
                    have R_45 := scr.tr hRfz_31 hR_42
                    exact cut_17  v_38 fa_39 _ _ ls  hV_40 hA_41 R_45 hP hD hS (by omega) (lv_sub hl [1, 2, 3, 4, 5, 6] rfl)
                  · have dc_30 := c_eq (a := x_29.toInt) (b := 1) rfl (by decide +kernel) c_30
                    refine lv_goto (tgt := 175) hx hb dX11_chooses_147 (by decide +kernel) ?_
                    exact cut_17  z_12 fz_13 _ _ ls  hVz_12 hAz_12 hRz_12 hP hD hS (by omega) (lv_sub hl [1, 2, 3, 4, 5, 6] rfl)
          have kc_46 : (0 : Int32).toInt = 0 := by decide
          exact cut_10 13 0 v fa _ _ ls (by omega) (by decide +kernel) gV gA scr.rf hP hD hS (by omega) (lv_sub hl [0, 1, 2, 3, 4, 5] rfl)
        · have dc_9 := c_eq (a := x_7.toInt) (b := x_8.toInt) rfl rfl c_9
          refine lv_aload_n hx hb dX11_chooses_80 rfl (lv_at hl 0 rfl) ?_
          refine va_get (D := (dC, dI)) (ci := 11) (v := .ref (pq 56)) (C := RX11) (T := TX11) (N := 63) hx hb hts in_wsX11_chooses_X11 hown hK hP 0 rfl rfl 56 (by decide +kernel) (hts (.fieldLink RX11 143 "ShipOfficeModel" "hand" "[I") iw_X11_chooses_4) (fun _ h9 => h9) rfl dX11_chooses_81 ?_
          refine lv_iload_n hx hb dX11_chooses_84 rfl (lv_at hl 1 rfl) ?_
          refine lv_iconst (v := 1) hx hb dX11_chooses_85 (by decide +kernel) ?_
          refine lv_isub hx hb dX11_chooses_86 ?_
          refine lv_topi (fun x_47 ex_47 => ?_)
          have hx_47 : x_47.toInt = x1.toInt - 1 := (iv_to ex_47).trans (sb_i rfl (by decide +kernel) (by omega) (by omega))
          clear ex_47
          refine va_iald hx hb hK hP 45 44 rfl rfl (vp_in_iff.mpr (by omega)) dX11_chooses_87 ?_
          refine lv_topi (fun x_48 ex_48 => ?_)
          have hx_48 : 0 ≤ x_48.toInt ∧ x_48.toInt ≤ 11 := iv_of ex_48 (gA 56 _)
          clear ex_48
          refine lv_iconst (v := 1) hx hb dX11_chooses_88 (by decide +kernel) ?_
          refine lv_iadd hx hb dX11_chooses_89 ?_
          refine lv_topi (fun x_49 ex_49 => ?_)
          have hx_49 : x_49.toInt = x_48.toInt + 1 := (iv_to ex_49).trans (ad_i rfl (by decide +kernel) (by omega) (by omega))
          clear ex_49
          refine lv_goto (tgt := 94) hx hb dX11_chooses_90 (by decide +kernel) ?_
          refine lv_istore (lv' := [(4, .int x_49), (0, .ref g0), (1, .int x1), (2, .int x2), (3, .int x3)]) hx hb dX11_chooses_94 hl (by decide +kernel) rfl (fun ls hl => ?_)
          refine lv_iload hx hb dX11_chooses_96 (lv_at hl 0 rfl) ?_
          refine lv_istore (lv' := [(5, .int x_49), (4, .int x_49), (0, .ref g0), (1, .int x1), (2, .int x2), (3, .int x3)]) hx hb dX11_chooses_98 hl (by decide +kernel) rfl (fun ls hl => ?_)
          have cut_50 : ∀ (n : Nat) (y_51 : Int32) (z_52 : Nat → Int32) (fz_53 : Nat → Nat → Int32) (H : Heap) (locs : List Loc) (ls : Array Slot), 12 - y_51.toInt ≤ (n : Int) → (0 ≤ y_51.toInt ∧ y_51.toInt ≤ 12) → mV z_52 → mA fz_53 → scr v fa z_52 fz_53 → va_P (dC, dI) vwCl (mW g0 pq cp z_52 fz_53) H → va_D A (mW g0 pq cp z_52 fz_53) → va_S A s.heap H locs → (z_52 59).toInt = (v 59).toInt → lv_has ls 7 [(5, .int y_51), (4, .int x_49), (0, .ref g0), (1, .int x1), (2, .int x2), (3, .int x3)] → W p l e (headSpec wsX11_chooses { frames := 3, cells := 0, slots := 0, locals := 78 }).room s m #[Value.ref g0, Value.int x1, Value.int x2, Value.int x3] below meth c H locs 0 0 (MQ below (va_Qv (fun (u : (Nat → Int32) × (Nat → Nat → Int32)) => mV u.1 ∧ mA u.2 ∧ scr v fa u.1 u.2 ∧ ((u.1 59).toInt = (v 59).toInt)) (fun u t => va_P (dC, dI) vwCl (mW g0 pq cp u.1 u.2) t.heap ∧ va_K (dC, dI) vwCl (mT cp) t ∧ va_D A (mW g0 pq cp u.1 u.2)) A) #[Value.ref g0, Value.int x1, Value.int x2, Value.int x3] s 0 0 A) (F0 m 100 ls []) := by
            intro n
            induction n using Nat.strongRecOn with
            | ind n ih =>
              intro y_51 z_52 fz_53 H locs ls hm hy_51 hVz_52 hAz_52 hRz_52 hP hD hS g_54 hl
              refine lv_iload hx hb dX11_chooses_100 (lv_at hl 0 rfl) ?_
              refine lv_aload_n hx hb dX11_chooses_102 rfl (lv_at hl 2 rfl) ?_
              refine va_get (D := (dC, dI)) (ci := 11) (v := .int (z_52 58)) (C := RX11) (T := TX11) (N := 63) hx hb hts in_wsX11_chooses_X11 hown hK hP 0 rfl rfl 58 (by decide +kernel) (hts (.fieldLink RX11 344 "ShipOfficeModel" "someMany" "I") iw_X11_chooses_6) (fun _ h9 => h9) rfl dX11_chooses_103 ?_
              refine lv_topi (fun x_55 ex_55 => ?_)
              have hx_55 : 0 ≤ x_55.toInt ∧ x_55.toInt ≤ 12 := iv_of ex_55 (hVz_52 58)
              clear ex_55
              refine lv_icmp_ge (tgt := 181) hx hb dX11_chooses_106 (by decide +kernel) (fun c_56 => ?_) (fun c_56 => ?_)
              · have dc_56 := c_le (a := x_55.toInt) (b := y_51.toInt) rfl rfl c_56
                exact W.vret hx hb hr (fun t ht hW => ⟨⟨(z_52, fz_53), rfl, ⟨hVz_52, hAz_52, hRz_52, (by dsimp only; omega)⟩, ⟨by rw [ht]; exact hP, va_K.moved hW.alike hK, hD⟩⟩, hS.F ht⟩) hS.2.2 dX11_chooses_181
              · have dc_56 := c_nle (a := x_55.toInt) (b := y_51.toInt) rfl rfl c_56
                have cut_57 : ∀ (z_58 : Nat → Int32) (fz_59 : Nat → Nat → Int32) (H : Heap) (locs : List Loc) (ls : Array Slot), mV z_58 → mA fz_59 → scr v fa z_58 fz_59 → va_P (dC, dI) vwCl (mW g0 pq cp z_58 fz_59) H → va_D A (mW g0 pq cp z_58 fz_59) → va_S A s.heap H locs → (z_58 59).toInt = (z_52 59).toInt → lv_has ls 7 [(5, .int y_51), (4, .int x_49), (0, .ref g0), (1, .int x1), (2, .int x2), (3, .int x3)] → W p l e (headSpec wsX11_chooses { frames := 3, cells := 0, slots := 0, locals := 78 }).room s m #[Value.ref g0, Value.int x1, Value.int x2, Value.int x3] below meth c H locs 0 0 (MQ below (va_Qv (fun (u : (Nat → Int32) × (Nat → Nat → Int32)) => mV u.1 ∧ mA u.2 ∧ scr v fa u.1 u.2 ∧ ((u.1 59).toInt = (v 59).toInt)) (fun u t => va_P (dC, dI) vwCl (mW g0 pq cp u.1 u.2) t.heap ∧ va_K (dC, dI) vwCl (mT cp) t ∧ va_D A (mW g0 pq cp u.1 u.2)) A) #[Value.ref g0, Value.int x1, Value.int x2, Value.int x3] s 0 0 A) (F0 m 175 ls []) := by
                  intro  z_58 fz_59 H locs ls hVz_58 hAz_58 hRz_58 hP hD hS g_60 hl
                  obtain ⟨x_61, ex_61⟩ : ∃ zq : Int32, y_51 + 1 = zq := ⟨_, rfl⟩
                  have hx_61 : x_61.toInt = y_51.toInt + 1 := (iv_to ex_61).symm.trans (ad_i rfl (by decide +kernel) (by omega) (by omega))
                  refine lv_iinc (v := x_61) (lv' := [(5, .int x_61), (4, .int x_49), (0, .ref g0), (1, .int x1), (2, .int x2), (3, .int x3)]) hx hb dX11_chooses_175 hl (k := 0) rfl ex_61 (by decide +kernel) rfl (fun ls hl => ?_)
                  clear ex_61
                  refine lv_goto (tgt := 100) hx hb dX11_chooses_178 (by decide +kernel) ?_
                  exact ih (n - 1) (by omega) x_61 z_58 fz_59 _ _ ls (by omega) (by omega) hVz_58 hAz_58 hRz_58 hP hD hS (by omega) (lv_sub hl [0, 1, 2, 3, 4, 5] rfl)
                refine lv_aload_n hx hb dX11_chooses_109 rfl (lv_at hl 2 rfl) ?_
                refine va_get (D := (dC, dI)) (ci := 11) (v := .ref (pq 5)) (C := RX11) (T := TX11) (N := 63) hx hb hts in_wsX11_chooses_X11 hown hK hP 0 rfl rfl 5 (by decide +kernel) (hts (.fieldLink RX11 25 "ShipOfficeModel" "asks" "[I") iw_X11_chooses_7) (fun _ h9 => h9) rfl dX11_chooses_110 ?_
                refine lv_iconst (v := 4) hx hb dX11_chooses_113 (by decide +kernel) ?_
                refine lv_aload_n hx hb dX11_chooses_114 rfl (lv_at hl 2 rfl) ?_
                refine va_get (D := (dC, dI)) (ci := 11) (v := .ref (pq 54)) (C := RX11) (T := TX11) (N := 63) hx hb hts in_wsX11_chooses_X11 hown hK hP 0 rfl rfl 54 (by decide +kernel) (hts (.fieldLink RX11 137 "ShipOfficeModel" "some" "[I") iw_X11_chooses_8) (fun _ h9 => h9) rfl dX11_chooses_115 ?_
                refine lv_iload hx hb dX11_chooses_118 (lv_at hl 0 rfl) ?_
                refine va_iald hx hb hK hP 43 42 rfl rfl (vp_in_iff.mpr (by omega)) dX11_chooses_120 ?_
                refine lv_topi (fun x_62 ex_62 => ?_)
                have hx_62 : 0 ≤ x_62.toInt ∧ x_62.toInt ≤ 39 := iv_of ex_62 (hAz_52 54 _)
                clear ex_62
                refine lv_imul hx hb dX11_chooses_121 ?_
                refine lv_topi (fun x_63 ex_63 => ?_)
                have hx_63 : x_63.toInt = 4 * x_62.toInt := (iv_to ex_63).trans (mu_i (by decide +kernel) rfl (by omega) (by omega))
                clear ex_63
                refine lv_aload_n hx hb dX11_chooses_122 rfl (lv_at hl 2 rfl) ?_
                refine va_get (D := (dC, dI)) (ci := 11) (v := .ref (pq 55)) (C := RX11) (T := TX11) (N := 63) hx hb hts in_wsX11_chooses_X11 hown hK hP 0 rfl rfl 55 (by decide +kernel) (hts (.fieldLink RX11 140 "ShipOfficeModel" "handRank" "[I") iw_X11_chooses_5) (fun _ h9 => h9) rfl dX11_chooses_123 ?_
                refine lv_iload_n hx hb dX11_chooses_126 rfl (lv_at hl 3 rfl) ?_
                refine va_iald hx hb hK hP 44 43 rfl rfl (vp_in_iff.mpr (by omega)) dX11_chooses_127 ?_
                refine lv_topi (fun x_64 ex_64 => ?_)
                have hx_64 : 0 ≤ x_64.toInt ∧ x_64.toInt ≤ 3 := iv_of ex_64 (hAz_52 55 _)
                clear ex_64
                refine lv_iadd hx hb dX11_chooses_128 ?_
                refine lv_topi (fun x_65 ex_65 => ?_)
                have hx_65 : x_65.toInt = x_63.toInt + x_64.toInt := (iv_to ex_65).trans (ad_i rfl rfl (by omega) (by omega))
                clear ex_65
                refine va_iald hx hb hK hP 6 5 rfl rfl (vp_in_iff.mpr (by omega)) dX11_chooses_129 ?_
                refine lv_topi (fun x_66 ex_66 => ?_)
                clear ex_66
                refine lv_istore (lv' := [(6, .int x_66), (5, .int y_51), (4, .int x_49), (0, .ref g0), (1, .int x1), (2, .int x2), (3, .int x3)]) hx hb dX11_chooses_130 hl (by decide +kernel) rfl (fun ls hl => ?_)
                refine lv_iload hx hb dX11_chooses_132 (lv_at hl 0 rfl) ?_
                refine lv_if_eq (tgt := 175) hx hb dX11_chooses_134 (by decide +kernel) (fun c_67 => ?_) (fun c_67 => ?_)
                · have dc_67 := c_eq (a := x_66.toInt) (b := 0) rfl (by decide +kernel) c_67
                  exact cut_57  z_52 fz_53 _ _ ls  hVz_52 hAz_52 hRz_52 hP hD hS (by omega) (lv_sub hl [1, 2, 3, 4, 5, 6] rfl)
                · have dc_67 := c_ne (a := x_66.toInt) (b := 0) rfl (by decide +kernel) c_67
                  refine lv_iload_n hx hb dX11_chooses_137 rfl (lv_at hl 5 rfl) ?_
                  refine lv_iload hx hb dX11_chooses_138 (lv_at hl 1 rfl) ?_
                  refine lv_ishr hx hb dX11_chooses_140 ?_
                  refine lv_topi (fun x_68 ex_68 => ?_)
                  clear ex_68
                  refine lv_iconst (v := 1) hx hb dX11_chooses_141 (by decide +kernel) ?_
                  refine lv_iand hx hb dX11_chooses_142 ?_
                  refine lv_topi (fun x_69 ex_69 => ?_)
                  clear ex_69
                  refine lv_iconst (v := 1) hx hb dX11_chooses_143 (by decide +kernel) ?_
                  refine lv_icmp_ne (tgt := 150) hx hb dX11_chooses_144 (by decide +kernel) (fun c_70 => ?_) (fun c_70 => ?_)
                  · have dc_70 := c_ne (a := x_69.toInt) (b := 1) rfl (by decide +kernel) c_70
                    refine lv_aload_n hx hb dX11_chooses_150 rfl (lv_at hl 3 rfl) ?_
                    refine va_get (D := (dC, dI)) (ci := 11) (v := .ref (pq 56)) (C := RX11) (T := TX11) (N := 63) hx hb hts in_wsX11_chooses_X11 hown hK hP 0 rfl rfl 56 (by decide +kernel) (hts (.fieldLink RX11 143 "ShipOfficeModel" "hand" "[I") iw_X11_chooses_4) (fun _ h9 => h9) rfl dX11_chooses_151 ?_
                    refine lv_iload_n hx hb dX11_chooses_154 rfl (lv_at hl 4 rfl) ?_
                    refine lv_iload hx hb dX11_chooses_155 (lv_at hl 1 rfl) ?_
                    refine va_iast hx hb hK hP hD hS 45 44 rfl rfl (vp_in_iff.mpr (by omega)) dX11_chooses_157 (fun H locs hP hD hS => ?_)
                    have hP : va_P (dC, dI) vwCl (mW g0 pq cp z_52 (upF fz_53 56 (x1 : Int32).toNatClampNeg y_51)) H := hP
                    have hD : va_D A (mW g0 pq cp z_52 (upF fz_53 56 (x1 : Int32).toNatClampNeg y_51)) := hD
                    obtain ⟨fz_71, efz_71⟩ : ∃ zq, zq = (upF fz_53 56 (x1 : Int32).toNatClampNeg y_51) := ⟨_, rfl⟩
                    rw [← efz_71] at hP hD
                    have hAfz_71 : mA fz_71 := by rw [efz_71]; exact mA_upF (lo := 0) (hi := 11) hAz_52 rfl rfl (by omega)
                    have hRfz_71 : scr v fa z_52 fz_71 := by rw [efz_71]; exact scr.uF hRz_52 rfl
                    refine lv_aload_n hx hb dX11_chooses_158 rfl (lv_at hl 3 rfl) ?_
                    refine lv_iload_n hx hb dX11_chooses_159 rfl (lv_at hl 4 rfl) ?_
                    refine lv_iconst (v := 1) hx hb dX11_chooses_160 (by decide +kernel) ?_
                    refine lv_iadd hx hb dX11_chooses_161 ?_
                    refine lv_topi (fun x_72 ex_72 => ?_)
                    have hx_72 : x_72.toInt = x1.toInt + 1 := (iv_to ex_72).trans (ad_i rfl (by decide +kernel) (by omega) (by omega))
                    clear ex_72
                    refine lv_iload_n hx hb dX11_chooses_162 rfl (lv_at hl 5 rfl) ?_
                    refine lv_iconst (v := 1) hx hb dX11_chooses_163 (by decide +kernel) ?_
                    refine lv_iload hx hb dX11_chooses_164 (lv_at hl 1 rfl) ?_
                    refine lv_ishl hx hb dX11_chooses_166 ?_
                    refine lv_topi (fun x_73 ex_73 => ?_)
                    clear ex_73
                    refine lv_ior hx hb dX11_chooses_167 ?_
                    refine lv_topi (fun x_74 ex_74 => ?_)
                    clear ex_74
                    refine lv_iload_n hx hb dX11_chooses_168 rfl (lv_at hl 6 rfl) ?_
                    refine lv_iload hx hb dX11_chooses_169 (lv_at hl 0 rfl) ?_
                    refine lv_iadd hx hb dX11_chooses_171 ?_
                    refine lv_topi (fun x_75 ex_75 => ?_)
                    clear ex_75
                    have hFc := va_free (wc := (mW g0 pq cp z_52 fz_71)) hD hS hA (List.range 48) rfl
                    refine va_callv (va_runV (As := [.int x_72, .int x_74, .int x_75]) (rest := []) ⟨hx, hb, hml, hown, hts⟩ (c_X11_chooses_6 l dC dI H.size g0 pq cp z_52 fz_71 hVz_52 hAfz_71 x_72 (by omega) x_74 x_75 (by omega)) (cwV 3 hts gX11_chooses_X11_chooses rfl rfl rfl (by decide +kernel) ⟨(Nat.le_of_ble_eq_true rfl), (Nat.le_of_ble_eq_true rfl)⟩) (pr_V (r := (RX11, TX11, 63)) hP hK hD 0 11 rfl rfl) rfl rfl hl.1 rfl (lv_room (Nat.le_of_ble_eq_true rfl)) dX11_chooses_172 ⟨(Nat.le_of_ble_eq_true rfl), (Nat.le_of_ble_eq_true rfl)⟩) hS (fun q _ h => hFc q h) hFc (fun u t H locs ht hvm w_76 hB hz1 hk1 hS => ?_)
                    obtain ⟨v_78, fa_79⟩ := u
                    obtain ⟨hP1, hK1, hD1⟩ := hB
                    rw [ht] at hP1
                    have hP : va_P (dC, dI) vwCl (mW g0 pq cp v_78 fa_79) H := hP1
                    have hD : va_D A (mW g0 pq cp v_78 fa_79) := hD1.weaken (fun _ _ _ h => hFc _ h)
                    clear hP1 hK1 hD1 hk1 hz1 hvm ht hFc
                    obtain ⟨hV_80, hA_81, hR_82, hx_83⟩ := w_76
                    dsimp only at hV_80 hA_81 hR_82 hx_83
                    have g_84 : (v_78 59).toInt = (z_52 59).toInt := hx_83
                    have R_85 := scr.tr hRfz_71 hR_82
                    exact cut_57  v_78 fa_79 _ _ ls  hV_80 hA_81 R_85 hP hD hS (by omega) (lv_sub hl [1, 2, 3, 4, 5, 6] rfl)
                  · have dc_70 := c_eq (a := x_69.toInt) (b := 1) rfl (by decide +kernel) c_70
                    refine lv_goto (tgt := 175) hx hb dX11_chooses_147 (by decide +kernel) ?_
                    exact cut_57  z_52 fz_53 _ _ ls  hVz_52 hAz_52 hRz_52 hP hD hS (by omega) (lv_sub hl [1, 2, 3, 4, 5, 6] rfl)
          exact cut_50 13 x_49 v fa _ _ ls (by omega) (by omega) gV gA scr.rf hP hD hS (by omega) (lv_sub hl [0, 1, 2, 3, 4, 5] rfl)
    · have dc_4 := c_eq (a := x1.toInt) (b := x_3.toInt) rfl rfl c_4
      refine lv_aload_n hx hb dX11_chooses_24 rfl (lv_at hl 0 rfl) ?_
      refine lv_iload_n hx hb dX11_chooses_25 rfl (lv_at hl 3 rfl) ?_
      refine va_put (D := (dC, dI)) (ci := 11) (v := .int x3) (ty := .int) (C := RX11) (T := TX11) (N := 63) hx hb hts in_wsX11_chooses_X11 tyX11 tyX11_ok nmX11 hown hK hP hD hS 0 rfl rfl 60 (by decide +kernel) (hts (.fieldLink RX11 338 "ShipOfficeModel" "least" "I") iw_X11_chooses_1) (fun _ h9 => h9) rfl (by decide +kernel) rfl rfl (Nat.le_of_ble_eq_true rfl) dX11_chooses_26 (fun H locs hP hD hS => ?_)
      have hP : va_P (dC, dI) vwCl (mW g0 pq cp (upd v 60 x3) fa) H := hP
      have hD : va_D A (mW g0 pq cp (upd v 60 x3) fa) := hD
      obtain ⟨z_86, ez_86⟩ : ∃ zq, zq = (upd v 60 x3) := ⟨_, rfl⟩
      rw [← ez_86] at hP hD
      have hVz_86 : mV z_86 := by rw [ez_86]; exact mV_upd (lo := -2147483648) (hi := 2147483647) gV rfl rfl (iv_all _)
      have hRz_86 : scr v fa z_86 fa := by rw [ez_86]; exact scr.up scr.rf rfl
      have g_87 : (z_86 59).toInt = (v 59).toInt := by rw [ez_86]; exact congrArg Int32.toInt (if_neg (by decide +kernel))
      refine lv_iconst (v := 0) hx hb dX11_chooses_29 (by decide +kernel) ?_
      refine lv_istore (lv' := [(4, .int 0), (0, .ref g0), (1, .int x1), (2, .int x2), (3, .int x3)]) hx hb dX11_chooses_30 hl (by decide +kernel) rfl (fun ls hl => ?_)
      have cut_88 : ∀ (n : Nat) (y_89 : Int32) (z_90 : Nat → Int32) (fz_91 : Nat → Nat → Int32) (H : Heap) (locs : List Loc) (ls : Array Slot), 8 - y_89.toInt ≤ (n : Int) → (0 ≤ y_89.toInt ∧ y_89.toInt ≤ 8) → mV z_90 → mA fz_91 → scr v fa z_90 fz_91 → va_P (dC, dI) vwCl (mW g0 pq cp z_90 fz_91) H → va_D A (mW g0 pq cp z_90 fz_91) → va_S A s.heap H locs → (z_90 59).toInt = (z_86 59).toInt → lv_has ls 7 [(4, .int y_89), (0, .ref g0), (1, .int x1), (2, .int x2), (3, .int x3)] → W p l e (headSpec wsX11_chooses { frames := 3, cells := 0, slots := 0, locals := 78 }).room s m #[Value.ref g0, Value.int x1, Value.int x2, Value.int x3] below meth c H locs 0 0 (MQ below (va_Qv (fun (u : (Nat → Int32) × (Nat → Nat → Int32)) => mV u.1 ∧ mA u.2 ∧ scr v fa u.1 u.2 ∧ ((u.1 59).toInt = (v 59).toInt)) (fun u t => va_P (dC, dI) vwCl (mW g0 pq cp u.1 u.2) t.heap ∧ va_K (dC, dI) vwCl (mT cp) t ∧ va_D A (mW g0 pq cp u.1 u.2)) A) #[Value.ref g0, Value.int x1, Value.int x2, Value.int x3] s 0 0 A) (F0 m 32 ls []) := by
        intro n
        induction n using Nat.strongRecOn with
        | ind n ih =>
          intro y_89 z_90 fz_91 H locs ls hm hy_89 hVz_90 hAz_90 hRz_90 hP hD hS g_92 hl
          refine lv_iload hx hb dX11_chooses_32 (lv_at hl 0 rfl) ?_
          refine lv_iload_n hx hb dX11_chooses_34 rfl (lv_at hl 2 rfl) ?_
          refine lv_icmp_ge (tgt := 58) hx hb dX11_chooses_35 (by decide +kernel) (fun c_93 => ?_) (fun c_93 => ?_)
          · have dc_93 := c_le (a := x1.toInt) (b := y_89.toInt) rfl rfl c_93
            exact W.vret hx hb hr (fun t ht hW => ⟨⟨(z_90, fz_91), rfl, ⟨hVz_90, hAz_90, hRz_90, (by dsimp only; omega)⟩, ⟨by rw [ht]; exact hP, va_K.moved hW.alike hK, hD⟩⟩, hS.F ht⟩) hS.2.2 dX11_chooses_58
          · have dc_93 := c_nle (a := x1.toInt) (b := y_89.toInt) rfl rfl c_93
            refine lv_aload_n hx hb dX11_chooses_38 rfl (lv_at hl 1 rfl) ?_
            refine va_get (D := (dC, dI)) (ci := 11) (v := .ref (pq 57)) (C := RX11) (T := TX11) (N := 63) hx hb hts in_wsX11_chooses_X11 hown hK hP 0 rfl rfl 57 (by decide +kernel) (hts (.fieldLink RX11 146 "ShipOfficeModel" "best" "[I") iw_X11_chooses_3) (fun _ h9 => h9) rfl dX11_chooses_39 ?_
            refine lv_iload hx hb dX11_chooses_42 (lv_at hl 0 rfl) ?_
            refine lv_aload_n hx hb dX11_chooses_44 rfl (lv_at hl 1 rfl) ?_
            refine va_get (D := (dC, dI)) (ci := 11) (v := .ref (pq 56)) (C := RX11) (T := TX11) (N := 63) hx hb hts in_wsX11_chooses_X11 hown hK hP 0 rfl rfl 56 (by decide +kernel) (hts (.fieldLink RX11 143 "ShipOfficeModel" "hand" "[I") iw_X11_chooses_4) (fun _ h9 => h9) rfl dX11_chooses_45 ?_
            refine lv_iload hx hb dX11_chooses_48 (lv_at hl 0 rfl) ?_
            refine va_iald hx hb hK hP 45 44 rfl rfl (vp_in_iff.mpr (by omega)) dX11_chooses_50 ?_
            refine lv_topi (fun x_94 ex_94 => ?_)
            have hx_94 : 0 ≤ x_94.toInt ∧ x_94.toInt ≤ 11 := iv_of ex_94 (hAz_90 56 _)
            clear ex_94
            refine va_iast hx hb hK hP hD hS 46 45 rfl rfl (vp_in_iff.mpr (by omega)) dX11_chooses_51 (fun H locs hP hD hS => ?_)
            have hP : va_P (dC, dI) vwCl (mW g0 pq cp z_90 (upF fz_91 57 (y_89 : Int32).toNatClampNeg x_94)) H := hP
            have hD : va_D A (mW g0 pq cp z_90 (upF fz_91 57 (y_89 : Int32).toNatClampNeg x_94)) := hD
            obtain ⟨fz_95, efz_95⟩ : ∃ zq, zq = (upF fz_91 57 (y_89 : Int32).toNatClampNeg x_94) := ⟨_, rfl⟩
            rw [← efz_95] at hP hD
            have hAfz_95 : mA fz_95 := by rw [efz_95]; exact mA_upF (lo := 0) (hi := 11) hAz_90 rfl rfl (by omega)
            have hRfz_95 : scr v fa z_90 fz_95 := by rw [efz_95]; exact scr.uF hRz_90 rfl
            obtain ⟨x_96, ex_96⟩ : ∃ zq : Int32, y_89 + 1 = zq := ⟨_, rfl⟩
            have hx_96 : x_96.toInt = y_89.toInt + 1 := (iv_to ex_96).symm.trans (ad_i rfl (by decide +kernel) (by omega) (by omega))
            refine lv_iinc (v := x_96) (lv' := [(4, .int x_96), (0, .ref g0), (1, .int x1), (2, .int x2), (3, .int x3)]) hx hb dX11_chooses_52 hl (k := 0) rfl ex_96 (by decide +kernel) rfl (fun ls hl => ?_)
            clear ex_96
            refine lv_goto (tgt := 32) hx hb dX11_chooses_55 (by decide +kernel) ?_
            exact ih (n - 1) (by omega) x_96 z_90 fz_95 _ _ ls (by omega) (by omega) hVz_90 hAfz_95 hRfz_95 hP hD hS (by omega) (lv_sub hl [0, 1, 2, 3, 4] rfl)
      have kc_97 : (0 : Int32).toInt = 0 := by decide
      exact cut_88 9 0 z_86 fa _ _ ls (by omega) (by decide +kernel) hVz_86 gA hRz_86 hP hD hS (by omega) (lv_sub hl [0, 1, 2, 3, 4] rfl)
  · have dc_2 := c_nlt (a := x_1.toInt) (b := 0) rfl (by decide +kernel) c_2
    refine lv_iload_n hx hb dX11_chooses_7 rfl (lv_at hl 3 rfl) ?_
    refine lv_aload_n hx hb dX11_chooses_8 rfl (lv_at hl 0 rfl) ?_
    refine va_get (D := (dC, dI)) (ci := 11) (v := .int (v 60)) (C := RX11) (T := TX11) (N := 63) hx hb hts in_wsX11_chooses_X11 hown hK hP 0 rfl rfl 60 (by decide +kernel) (hts (.fieldLink RX11 338 "ShipOfficeModel" "least" "I") iw_X11_chooses_1) (fun _ h9 => h9) rfl dX11_chooses_9 ?_
    refine lv_topi (fun x_98 ex_98 => ?_)
    clear ex_98
    refine lv_icmp_lt (tgt := 16) hx hb dX11_chooses_12 (by decide +kernel) (fun c_99 => ?_) (fun c_99 => ?_)
    · have dc_99 := c_lt (a := x3.toInt) (b := x_98.toInt) rfl rfl c_99
      refine lv_iload_n hx hb dX11_chooses_16 rfl (lv_at hl 1 rfl) ?_
      refine lv_aload_n hx hb dX11_chooses_17 rfl (lv_at hl 0 rfl) ?_
      refine va_get (D := (dC, dI)) (ci := 11) (v := .int (v 59)) (C := RX11) (T := TX11) (N := 63) hx hb hts in_wsX11_chooses_X11 hown hK hP 0 rfl rfl 59 (by decide +kernel) (hts (.fieldLink RX11 341 "ShipOfficeModel" "hands" "I") iw_X11_chooses_2) (fun _ h9 => h9) rfl dX11_chooses_18 ?_
      refine lv_topi (fun x_100 ex_100 => ?_)
      have hx_100 : 0 ≤ x_100.toInt ∧ x_100.toInt ≤ 8 := iv_of ex_100 (gV 59)
      have gx_100 : x_100.toInt = (v 59).toInt := iv_to ex_100
      clear ex_100
      refine lv_icmp_ne (tgt := 59) hx hb dX11_chooses_21 (by decide +kernel) (fun c_101 => ?_) (fun c_101 => ?_)
      · have dc_101 := c_ne (a := x1.toInt) (b := x_100.toInt) rfl rfl c_101
        refine lv_iload_n hx hb dX11_chooses_59 rfl (lv_at hl 1 rfl) ?_
        refine lv_if_le (tgt := 93) hx hb dX11_chooses_60 (by decide +kernel) (fun c_102 => ?_) (fun c_102 => ?_)
        · have dc_102 := c_le (a := x1.toInt) (b := 0) rfl (by decide +kernel) c_102
          exfalso; omega
        · have dc_102 := c_nle (a := x1.toInt) (b := 0) rfl (by decide +kernel) c_102
          refine lv_aload_n hx hb dX11_chooses_63 rfl (lv_at hl 0 rfl) ?_
          refine va_get (D := (dC, dI)) (ci := 11) (v := .ref (pq 55)) (C := RX11) (T := TX11) (N := 63) hx hb hts in_wsX11_chooses_X11 hown hK hP 0 rfl rfl 55 (by decide +kernel) (hts (.fieldLink RX11 140 "ShipOfficeModel" "handRank" "[I") iw_X11_chooses_5) (fun _ h9 => h9) rfl dX11_chooses_64 ?_
          refine lv_iload_n hx hb dX11_chooses_67 rfl (lv_at hl 1 rfl) ?_
          refine lv_iconst (v := 1) hx hb dX11_chooses_68 (by decide +kernel) ?_
          refine lv_isub hx hb dX11_chooses_69 ?_
          refine lv_topi (fun x_103 ex_103 => ?_)
          have hx_103 : x_103.toInt = x1.toInt - 1 := (iv_to ex_103).trans (sb_i rfl (by decide +kernel) (by omega) (by omega))
          clear ex_103
          refine va_iald hx hb hK hP 44 43 rfl rfl (vp_in_iff.mpr (by omega)) dX11_chooses_70 ?_
          refine lv_topi (fun x_104 ex_104 => ?_)
          have hx_104 : 0 ≤ x_104.toInt ∧ x_104.toInt ≤ 3 := iv_of ex_104 (gA 55 _)
          clear ex_104
          refine lv_aload_n hx hb dX11_chooses_71 rfl (lv_at hl 0 rfl) ?_
          refine va_get (D := (dC, dI)) (ci := 11) (v := .ref (pq 55)) (C := RX11) (T := TX11) (N := 63) hx hb hts in_wsX11_chooses_X11 hown hK hP 0 rfl rfl 55 (by decide +kernel) (hts (.fieldLink RX11 140 "ShipOfficeModel" "handRank" "[I") iw_X11_chooses_5) (fun _ h9 => h9) rfl dX11_chooses_72 ?_
          refine lv_iload_n hx hb dX11_chooses_75 rfl (lv_at hl 1 rfl) ?_
          refine va_iald hx hb hK hP 44 43 rfl rfl (vp_in_iff.mpr (by omega)) dX11_chooses_76 ?_
          refine lv_topi (fun x_105 ex_105 => ?_)
          have hx_105 : 0 ≤ x_105.toInt ∧ x_105.toInt ≤ 3 := iv_of ex_105 (gA 55 _)
          clear ex_105
          refine lv_icmp_ne (tgt := 93) hx hb dX11_chooses_77 (by decide +kernel) (fun c_106 => ?_) (fun c_106 => ?_)
          · have dc_106 := c_ne (a := x_104.toInt) (b := x_105.toInt) rfl rfl c_106
            refine lv_iconst (v := 0) hx hb dX11_chooses_93 (by decide +kernel) ?_
            refine lv_istore (lv' := [(4, .int 0), (0, .ref g0), (1, .int x1), (2, .int x2), (3, .int x3)]) hx hb dX11_chooses_94 hl (by decide +kernel) rfl (fun ls hl => ?_)
            refine lv_iload hx hb dX11_chooses_96 (lv_at hl 0 rfl) ?_
            refine lv_istore (lv' := [(5, .int 0), (4, .int 0), (0, .ref g0), (1, .int x1), (2, .int x2), (3, .int x3)]) hx hb dX11_chooses_98 hl (by decide +kernel) rfl (fun ls hl => ?_)
            have cut_107 : ∀ (n : Nat) (y_108 : Int32) (z_109 : Nat → Int32) (fz_110 : Nat → Nat → Int32) (H : Heap) (locs : List Loc) (ls : Array Slot), 12 - y_108.toInt ≤ (n : Int) → (0 ≤ y_108.toInt ∧ y_108.toInt ≤ 12) → mV z_109 → mA fz_110 → scr v fa z_109 fz_110 → va_P (dC, dI) vwCl (mW g0 pq cp z_109 fz_110) H → va_D A (mW g0 pq cp z_109 fz_110) → va_S A s.heap H locs → (z_109 59).toInt = (v 59).toInt → lv_has ls 7 [(5, .int y_108), (4, .int 0), (0, .ref g0), (1, .int x1), (2, .int x2), (3, .int x3)] → W p l e (headSpec wsX11_chooses { frames := 3, cells := 0, slots := 0, locals := 78 }).room s m #[Value.ref g0, Value.int x1, Value.int x2, Value.int x3] below meth c H locs 0 0 (MQ below (va_Qv (fun (u : (Nat → Int32) × (Nat → Nat → Int32)) => mV u.1 ∧ mA u.2 ∧ scr v fa u.1 u.2 ∧ ((u.1 59).toInt = (v 59).toInt)) (fun u t => va_P (dC, dI) vwCl (mW g0 pq cp u.1 u.2) t.heap ∧ va_K (dC, dI) vwCl (mT cp) t ∧ va_D A (mW g0 pq cp u.1 u.2)) A) #[Value.ref g0, Value.int x1, Value.int x2, Value.int x3] s 0 0 A) (F0 m 100 ls []) := by
              intro n
              induction n using Nat.strongRecOn with
              | ind n ih =>
                intro y_108 z_109 fz_110 H locs ls hm hy_108 hVz_109 hAz_109 hRz_109 hP hD hS g_111 hl
                refine lv_iload hx hb dX11_chooses_100 (lv_at hl 0 rfl) ?_
                refine lv_aload_n hx hb dX11_chooses_102 rfl (lv_at hl 2 rfl) ?_
                refine va_get (D := (dC, dI)) (ci := 11) (v := .int (z_109 58)) (C := RX11) (T := TX11) (N := 63) hx hb hts in_wsX11_chooses_X11 hown hK hP 0 rfl rfl 58 (by decide +kernel) (hts (.fieldLink RX11 344 "ShipOfficeModel" "someMany" "I") iw_X11_chooses_6) (fun _ h9 => h9) rfl dX11_chooses_103 ?_
                refine lv_topi (fun x_112 ex_112 => ?_)
                have hx_112 : 0 ≤ x_112.toInt ∧ x_112.toInt ≤ 12 := iv_of ex_112 (hVz_109 58)
                clear ex_112
                refine lv_icmp_ge (tgt := 181) hx hb dX11_chooses_106 (by decide +kernel) (fun c_113 => ?_) (fun c_113 => ?_)
                · have dc_113 := c_le (a := x_112.toInt) (b := y_108.toInt) rfl rfl c_113
                  exact W.vret hx hb hr (fun t ht hW => ⟨⟨(z_109, fz_110), rfl, ⟨hVz_109, hAz_109, hRz_109, (by dsimp only; omega)⟩, ⟨by rw [ht]; exact hP, va_K.moved hW.alike hK, hD⟩⟩, hS.F ht⟩) hS.2.2 dX11_chooses_181
                · have dc_113 := c_nle (a := x_112.toInt) (b := y_108.toInt) rfl rfl c_113
                  have cut_114 : ∀ (z_115 : Nat → Int32) (fz_116 : Nat → Nat → Int32) (H : Heap) (locs : List Loc) (ls : Array Slot), mV z_115 → mA fz_116 → scr v fa z_115 fz_116 → va_P (dC, dI) vwCl (mW g0 pq cp z_115 fz_116) H → va_D A (mW g0 pq cp z_115 fz_116) → va_S A s.heap H locs → (z_115 59).toInt = (z_109 59).toInt → lv_has ls 7 [(5, .int y_108), (4, .int 0), (0, .ref g0), (1, .int x1), (2, .int x2), (3, .int x3)] → W p l e (headSpec wsX11_chooses { frames := 3, cells := 0, slots := 0, locals := 78 }).room s m #[Value.ref g0, Value.int x1, Value.int x2, Value.int x3] below meth c H locs 0 0 (MQ below (va_Qv (fun (u : (Nat → Int32) × (Nat → Nat → Int32)) => mV u.1 ∧ mA u.2 ∧ scr v fa u.1 u.2 ∧ ((u.1 59).toInt = (v 59).toInt)) (fun u t => va_P (dC, dI) vwCl (mW g0 pq cp u.1 u.2) t.heap ∧ va_K (dC, dI) vwCl (mT cp) t ∧ va_D A (mW g0 pq cp u.1 u.2)) A) #[Value.ref g0, Value.int x1, Value.int x2, Value.int x3] s 0 0 A) (F0 m 175 ls []) := by
                    intro  z_115 fz_116 H locs ls hVz_115 hAz_115 hRz_115 hP hD hS g_117 hl
                    obtain ⟨x_118, ex_118⟩ : ∃ zq : Int32, y_108 + 1 = zq := ⟨_, rfl⟩
                    have hx_118 : x_118.toInt = y_108.toInt + 1 := (iv_to ex_118).symm.trans (ad_i rfl (by decide +kernel) (by omega) (by omega))
                    refine lv_iinc (v := x_118) (lv' := [(5, .int x_118), (4, .int 0), (0, .ref g0), (1, .int x1), (2, .int x2), (3, .int x3)]) hx hb dX11_chooses_175 hl (k := 0) rfl ex_118 (by decide +kernel) rfl (fun ls hl => ?_)
                    clear ex_118
                    refine lv_goto (tgt := 100) hx hb dX11_chooses_178 (by decide +kernel) ?_
                    exact ih (n - 1) (by omega) x_118 z_115 fz_116 _ _ ls (by omega) (by omega) hVz_115 hAz_115 hRz_115 hP hD hS (by omega) (lv_sub hl [0, 1, 2, 3, 4, 5] rfl)
                  refine lv_aload_n hx hb dX11_chooses_109 rfl (lv_at hl 2 rfl) ?_
                  refine va_get (D := (dC, dI)) (ci := 11) (v := .ref (pq 5)) (C := RX11) (T := TX11) (N := 63) hx hb hts in_wsX11_chooses_X11 hown hK hP 0 rfl rfl 5 (by decide +kernel) (hts (.fieldLink RX11 25 "ShipOfficeModel" "asks" "[I") iw_X11_chooses_7) (fun _ h9 => h9) rfl dX11_chooses_110 ?_
                  refine lv_iconst (v := 4) hx hb dX11_chooses_113 (by decide +kernel) ?_
                  refine lv_aload_n hx hb dX11_chooses_114 rfl (lv_at hl 2 rfl) ?_
                  refine va_get (D := (dC, dI)) (ci := 11) (v := .ref (pq 54)) (C := RX11) (T := TX11) (N := 63) hx hb hts in_wsX11_chooses_X11 hown hK hP 0 rfl rfl 54 (by decide +kernel) (hts (.fieldLink RX11 137 "ShipOfficeModel" "some" "[I") iw_X11_chooses_8) (fun _ h9 => h9) rfl dX11_chooses_115 ?_
                  refine lv_iload hx hb dX11_chooses_118 (lv_at hl 0 rfl) ?_
                  refine va_iald hx hb hK hP 43 42 rfl rfl (vp_in_iff.mpr (by omega)) dX11_chooses_120 ?_
                  refine lv_topi (fun x_119 ex_119 => ?_)
                  have hx_119 : 0 ≤ x_119.toInt ∧ x_119.toInt ≤ 39 := iv_of ex_119 (hAz_109 54 _)
                  clear ex_119
                  refine lv_imul hx hb dX11_chooses_121 ?_
                  refine lv_topi (fun x_120 ex_120 => ?_)
                  have hx_120 : x_120.toInt = 4 * x_119.toInt := (iv_to ex_120).trans (mu_i (by decide +kernel) rfl (by omega) (by omega))
                  clear ex_120
                  refine lv_aload_n hx hb dX11_chooses_122 rfl (lv_at hl 2 rfl) ?_
                  refine va_get (D := (dC, dI)) (ci := 11) (v := .ref (pq 55)) (C := RX11) (T := TX11) (N := 63) hx hb hts in_wsX11_chooses_X11 hown hK hP 0 rfl rfl 55 (by decide +kernel) (hts (.fieldLink RX11 140 "ShipOfficeModel" "handRank" "[I") iw_X11_chooses_5) (fun _ h9 => h9) rfl dX11_chooses_123 ?_
                  refine lv_iload_n hx hb dX11_chooses_126 rfl (lv_at hl 3 rfl) ?_
                  refine va_iald hx hb hK hP 44 43 rfl rfl (vp_in_iff.mpr (by omega)) dX11_chooses_127 ?_
                  refine lv_topi (fun x_121 ex_121 => ?_)
                  have hx_121 : 0 ≤ x_121.toInt ∧ x_121.toInt ≤ 3 := iv_of ex_121 (hAz_109 55 _)
                  clear ex_121
                  refine lv_iadd hx hb dX11_chooses_128 ?_
                  refine lv_topi (fun x_122 ex_122 => ?_)
                  have hx_122 : x_122.toInt = x_120.toInt + x_121.toInt := (iv_to ex_122).trans (ad_i rfl rfl (by omega) (by omega))
                  clear ex_122
                  refine va_iald hx hb hK hP 6 5 rfl rfl (vp_in_iff.mpr (by omega)) dX11_chooses_129 ?_
                  refine lv_topi (fun x_123 ex_123 => ?_)
                  clear ex_123
                  refine lv_istore (lv' := [(6, .int x_123), (5, .int y_108), (4, .int 0), (0, .ref g0), (1, .int x1), (2, .int x2), (3, .int x3)]) hx hb dX11_chooses_130 hl (by decide +kernel) rfl (fun ls hl => ?_)
                  refine lv_iload hx hb dX11_chooses_132 (lv_at hl 0 rfl) ?_
                  refine lv_if_eq (tgt := 175) hx hb dX11_chooses_134 (by decide +kernel) (fun c_124 => ?_) (fun c_124 => ?_)
                  · have dc_124 := c_eq (a := x_123.toInt) (b := 0) rfl (by decide +kernel) c_124
                    exact cut_114  z_109 fz_110 _ _ ls  hVz_109 hAz_109 hRz_109 hP hD hS (by omega) (lv_sub hl [1, 2, 3, 4, 5, 6] rfl)
                  · have dc_124 := c_ne (a := x_123.toInt) (b := 0) rfl (by decide +kernel) c_124
                    refine lv_iload_n hx hb dX11_chooses_137 rfl (lv_at hl 5 rfl) ?_
                    refine lv_iload hx hb dX11_chooses_138 (lv_at hl 1 rfl) ?_
                    refine lv_ishr hx hb dX11_chooses_140 ?_
                    refine lv_topi (fun x_125 ex_125 => ?_)
                    clear ex_125
                    refine lv_iconst (v := 1) hx hb dX11_chooses_141 (by decide +kernel) ?_
                    refine lv_iand hx hb dX11_chooses_142 ?_
                    refine lv_topi (fun x_126 ex_126 => ?_)
                    clear ex_126
                    refine lv_iconst (v := 1) hx hb dX11_chooses_143 (by decide +kernel) ?_
                    refine lv_icmp_ne (tgt := 150) hx hb dX11_chooses_144 (by decide +kernel) (fun c_127 => ?_) (fun c_127 => ?_)
                    · have dc_127 := c_ne (a := x_126.toInt) (b := 1) rfl (by decide +kernel) c_127
                      refine lv_aload_n hx hb dX11_chooses_150 rfl (lv_at hl 3 rfl) ?_
                      refine va_get (D := (dC, dI)) (ci := 11) (v := .ref (pq 56)) (C := RX11) (T := TX11) (N := 63) hx hb hts in_wsX11_chooses_X11 hown hK hP 0 rfl rfl 56 (by decide +kernel) (hts (.fieldLink RX11 143 "ShipOfficeModel" "hand" "[I") iw_X11_chooses_4) (fun _ h9 => h9) rfl dX11_chooses_151 ?_
                      refine lv_iload_n hx hb dX11_chooses_154 rfl (lv_at hl 4 rfl) ?_
                      refine lv_iload hx hb dX11_chooses_155 (lv_at hl 1 rfl) ?_
                      refine va_iast hx hb hK hP hD hS 45 44 rfl rfl (vp_in_iff.mpr (by omega)) dX11_chooses_157 (fun H locs hP hD hS => ?_)
                      have hP : va_P (dC, dI) vwCl (mW g0 pq cp z_109 (upF fz_110 56 (x1 : Int32).toNatClampNeg y_108)) H := hP
                      have hD : va_D A (mW g0 pq cp z_109 (upF fz_110 56 (x1 : Int32).toNatClampNeg y_108)) := hD
                      obtain ⟨fz_128, efz_128⟩ : ∃ zq, zq = (upF fz_110 56 (x1 : Int32).toNatClampNeg y_108) := ⟨_, rfl⟩
                      rw [← efz_128] at hP hD
                      have hAfz_128 : mA fz_128 := by rw [efz_128]; exact mA_upF (lo := 0) (hi := 11) hAz_109 rfl rfl (by omega)
                      have hRfz_128 : scr v fa z_109 fz_128 := by rw [efz_128]; exact scr.uF hRz_109 rfl
                      refine lv_aload_n hx hb dX11_chooses_158 rfl (lv_at hl 3 rfl) ?_
                      refine lv_iload_n hx hb dX11_chooses_159 rfl (lv_at hl 4 rfl) ?_
                      refine lv_iconst (v := 1) hx hb dX11_chooses_160 (by decide +kernel) ?_
                      refine lv_iadd hx hb dX11_chooses_161 ?_
                      refine lv_topi (fun x_129 ex_129 => ?_)
                      have hx_129 : x_129.toInt = x1.toInt + 1 := (iv_to ex_129).trans (ad_i rfl (by decide +kernel) (by omega) (by omega))
                      clear ex_129
                      refine lv_iload_n hx hb dX11_chooses_162 rfl (lv_at hl 5 rfl) ?_
                      refine lv_iconst (v := 1) hx hb dX11_chooses_163 (by decide +kernel) ?_
                      refine lv_iload hx hb dX11_chooses_164 (lv_at hl 1 rfl) ?_
                      refine lv_ishl hx hb dX11_chooses_166 ?_
                      refine lv_topi (fun x_130 ex_130 => ?_)
                      clear ex_130
                      refine lv_ior hx hb dX11_chooses_167 ?_
                      refine lv_topi (fun x_131 ex_131 => ?_)
                      clear ex_131
                      refine lv_iload_n hx hb dX11_chooses_168 rfl (lv_at hl 6 rfl) ?_
                      refine lv_iload hx hb dX11_chooses_169 (lv_at hl 0 rfl) ?_
                      refine lv_iadd hx hb dX11_chooses_171 ?_
                      refine lv_topi (fun x_132 ex_132 => ?_)
                      clear ex_132
                      have hFc := va_free (wc := (mW g0 pq cp z_109 fz_128)) hD hS hA (List.range 48) rfl
                      refine va_callv (va_runV (As := [.int x_129, .int x_131, .int x_132]) (rest := []) ⟨hx, hb, hml, hown, hts⟩ (c_X11_chooses_6 l dC dI H.size g0 pq cp z_109 fz_128 hVz_109 hAfz_128 x_129 (by omega) x_131 x_132 (by omega)) (cwV 3 hts gX11_chooses_X11_chooses rfl rfl rfl (by decide +kernel) ⟨(Nat.le_of_ble_eq_true rfl), (Nat.le_of_ble_eq_true rfl)⟩) (pr_V (r := (RX11, TX11, 63)) hP hK hD 0 11 rfl rfl) rfl rfl hl.1 rfl (lv_room (Nat.le_of_ble_eq_true rfl)) dX11_chooses_172 ⟨(Nat.le_of_ble_eq_true rfl), (Nat.le_of_ble_eq_true rfl)⟩) hS (fun q _ h => hFc q h) hFc (fun u t H locs ht hvm w_133 hB hz1 hk1 hS => ?_)
                      obtain ⟨v_135, fa_136⟩ := u
                      obtain ⟨hP1, hK1, hD1⟩ := hB
                      rw [ht] at hP1
                      have hP : va_P (dC, dI) vwCl (mW g0 pq cp v_135 fa_136) H := hP1
                      have hD : va_D A (mW g0 pq cp v_135 fa_136) := hD1.weaken (fun _ _ _ h => hFc _ h)
                      clear hP1 hK1 hD1 hk1 hz1 hvm ht hFc
                      obtain ⟨hV_137, hA_138, hR_139, hx_140⟩ := w_133
                      dsimp only at hV_137 hA_138 hR_139 hx_140
                      have g_141 : (v_135 59).toInt = (z_109 59).toInt := hx_140
                      have R_142 := scr.tr hRfz_128 hR_139
                      exact cut_114  v_135 fa_136 _ _ ls  hV_137 hA_138 R_142 hP hD hS (by omega) (lv_sub hl [1, 2, 3, 4, 5, 6] rfl)
                    · have dc_127 := c_eq (a := x_126.toInt) (b := 1) rfl (by decide +kernel) c_127
                      refine lv_goto (tgt := 175) hx hb dX11_chooses_147 (by decide +kernel) ?_
                      exact cut_114  z_109 fz_110 _ _ ls  hVz_109 hAz_109 hRz_109 hP hD hS (by omega) (lv_sub hl [1, 2, 3, 4, 5, 6] rfl)
            have kc_143 : (0 : Int32).toInt = 0 := by decide
            exact cut_107 13 0 v fa _ _ ls (by omega) (by decide +kernel) gV gA scr.rf hP hD hS (by omega) (lv_sub hl [0, 1, 2, 3, 4, 5] rfl)
          · have dc_106 := c_eq (a := x_104.toInt) (b := x_105.toInt) rfl rfl c_106
            refine lv_aload_n hx hb dX11_chooses_80 rfl (lv_at hl 0 rfl) ?_
            refine va_get (D := (dC, dI)) (ci := 11) (v := .ref (pq 56)) (C := RX11) (T := TX11) (N := 63) hx hb hts in_wsX11_chooses_X11 hown hK hP 0 rfl rfl 56 (by decide +kernel) (hts (.fieldLink RX11 143 "ShipOfficeModel" "hand" "[I") iw_X11_chooses_4) (fun _ h9 => h9) rfl dX11_chooses_81 ?_
            refine lv_iload_n hx hb dX11_chooses_84 rfl (lv_at hl 1 rfl) ?_
            refine lv_iconst (v := 1) hx hb dX11_chooses_85 (by decide +kernel) ?_
            refine lv_isub hx hb dX11_chooses_86 ?_
            refine lv_topi (fun x_144 ex_144 => ?_)
            have hx_144 : x_144.toInt = x1.toInt - 1 := (iv_to ex_144).trans (sb_i rfl (by decide +kernel) (by omega) (by omega))
            clear ex_144
            refine va_iald hx hb hK hP 45 44 rfl rfl (vp_in_iff.mpr (by omega)) dX11_chooses_87 ?_
            refine lv_topi (fun x_145 ex_145 => ?_)
            have hx_145 : 0 ≤ x_145.toInt ∧ x_145.toInt ≤ 11 := iv_of ex_145 (gA 56 _)
            clear ex_145
            refine lv_iconst (v := 1) hx hb dX11_chooses_88 (by decide +kernel) ?_
            refine lv_iadd hx hb dX11_chooses_89 ?_
            refine lv_topi (fun x_146 ex_146 => ?_)
            have hx_146 : x_146.toInt = x_145.toInt + 1 := (iv_to ex_146).trans (ad_i rfl (by decide +kernel) (by omega) (by omega))
            clear ex_146
            refine lv_goto (tgt := 94) hx hb dX11_chooses_90 (by decide +kernel) ?_
            refine lv_istore (lv' := [(4, .int x_146), (0, .ref g0), (1, .int x1), (2, .int x2), (3, .int x3)]) hx hb dX11_chooses_94 hl (by decide +kernel) rfl (fun ls hl => ?_)
            refine lv_iload hx hb dX11_chooses_96 (lv_at hl 0 rfl) ?_
            refine lv_istore (lv' := [(5, .int x_146), (4, .int x_146), (0, .ref g0), (1, .int x1), (2, .int x2), (3, .int x3)]) hx hb dX11_chooses_98 hl (by decide +kernel) rfl (fun ls hl => ?_)
            have cut_147 : ∀ (n : Nat) (y_148 : Int32) (z_149 : Nat → Int32) (fz_150 : Nat → Nat → Int32) (H : Heap) (locs : List Loc) (ls : Array Slot), 12 - y_148.toInt ≤ (n : Int) → (0 ≤ y_148.toInt ∧ y_148.toInt ≤ 12) → mV z_149 → mA fz_150 → scr v fa z_149 fz_150 → va_P (dC, dI) vwCl (mW g0 pq cp z_149 fz_150) H → va_D A (mW g0 pq cp z_149 fz_150) → va_S A s.heap H locs → (z_149 59).toInt = (v 59).toInt → lv_has ls 7 [(5, .int y_148), (4, .int x_146), (0, .ref g0), (1, .int x1), (2, .int x2), (3, .int x3)] → W p l e (headSpec wsX11_chooses { frames := 3, cells := 0, slots := 0, locals := 78 }).room s m #[Value.ref g0, Value.int x1, Value.int x2, Value.int x3] below meth c H locs 0 0 (MQ below (va_Qv (fun (u : (Nat → Int32) × (Nat → Nat → Int32)) => mV u.1 ∧ mA u.2 ∧ scr v fa u.1 u.2 ∧ ((u.1 59).toInt = (v 59).toInt)) (fun u t => va_P (dC, dI) vwCl (mW g0 pq cp u.1 u.2) t.heap ∧ va_K (dC, dI) vwCl (mT cp) t ∧ va_D A (mW g0 pq cp u.1 u.2)) A) #[Value.ref g0, Value.int x1, Value.int x2, Value.int x3] s 0 0 A) (F0 m 100 ls []) := by
              intro n
              induction n using Nat.strongRecOn with
              | ind n ih =>
                intro y_148 z_149 fz_150 H locs ls hm hy_148 hVz_149 hAz_149 hRz_149 hP hD hS g_151 hl
                refine lv_iload hx hb dX11_chooses_100 (lv_at hl 0 rfl) ?_
                refine lv_aload_n hx hb dX11_chooses_102 rfl (lv_at hl 2 rfl) ?_
                refine va_get (D := (dC, dI)) (ci := 11) (v := .int (z_149 58)) (C := RX11) (T := TX11) (N := 63) hx hb hts in_wsX11_chooses_X11 hown hK hP 0 rfl rfl 58 (by decide +kernel) (hts (.fieldLink RX11 344 "ShipOfficeModel" "someMany" "I") iw_X11_chooses_6) (fun _ h9 => h9) rfl dX11_chooses_103 ?_
                refine lv_topi (fun x_152 ex_152 => ?_)
                have hx_152 : 0 ≤ x_152.toInt ∧ x_152.toInt ≤ 12 := iv_of ex_152 (hVz_149 58)
                clear ex_152
                refine lv_icmp_ge (tgt := 181) hx hb dX11_chooses_106 (by decide +kernel) (fun c_153 => ?_) (fun c_153 => ?_)
                · have dc_153 := c_le (a := x_152.toInt) (b := y_148.toInt) rfl rfl c_153
                  exact W.vret hx hb hr (fun t ht hW => ⟨⟨(z_149, fz_150), rfl, ⟨hVz_149, hAz_149, hRz_149, (by dsimp only; omega)⟩, ⟨by rw [ht]; exact hP, va_K.moved hW.alike hK, hD⟩⟩, hS.F ht⟩) hS.2.2 dX11_chooses_181
                · have dc_153 := c_nle (a := x_152.toInt) (b := y_148.toInt) rfl rfl c_153
                  have cut_154 : ∀ (z_155 : Nat → Int32) (fz_156 : Nat → Nat → Int32) (H : Heap) (locs : List Loc) (ls : Array Slot), mV z_155 → mA fz_156 → scr v fa z_155 fz_156 → va_P (dC, dI) vwCl (mW g0 pq cp z_155 fz_156) H → va_D A (mW g0 pq cp z_155 fz_156) → va_S A s.heap H locs → (z_155 59).toInt = (z_149 59).toInt → lv_has ls 7 [(5, .int y_148), (4, .int x_146), (0, .ref g0), (1, .int x1), (2, .int x2), (3, .int x3)] → W p l e (headSpec wsX11_chooses { frames := 3, cells := 0, slots := 0, locals := 78 }).room s m #[Value.ref g0, Value.int x1, Value.int x2, Value.int x3] below meth c H locs 0 0 (MQ below (va_Qv (fun (u : (Nat → Int32) × (Nat → Nat → Int32)) => mV u.1 ∧ mA u.2 ∧ scr v fa u.1 u.2 ∧ ((u.1 59).toInt = (v 59).toInt)) (fun u t => va_P (dC, dI) vwCl (mW g0 pq cp u.1 u.2) t.heap ∧ va_K (dC, dI) vwCl (mT cp) t ∧ va_D A (mW g0 pq cp u.1 u.2)) A) #[Value.ref g0, Value.int x1, Value.int x2, Value.int x3] s 0 0 A) (F0 m 175 ls []) := by
                    intro  z_155 fz_156 H locs ls hVz_155 hAz_155 hRz_155 hP hD hS g_157 hl
                    obtain ⟨x_158, ex_158⟩ : ∃ zq : Int32, y_148 + 1 = zq := ⟨_, rfl⟩
                    have hx_158 : x_158.toInt = y_148.toInt + 1 := (iv_to ex_158).symm.trans (ad_i rfl (by decide +kernel) (by omega) (by omega))
                    refine lv_iinc (v := x_158) (lv' := [(5, .int x_158), (4, .int x_146), (0, .ref g0), (1, .int x1), (2, .int x2), (3, .int x3)]) hx hb dX11_chooses_175 hl (k := 0) rfl ex_158 (by decide +kernel) rfl (fun ls hl => ?_)
                    clear ex_158
                    refine lv_goto (tgt := 100) hx hb dX11_chooses_178 (by decide +kernel) ?_
                    exact ih (n - 1) (by omega) x_158 z_155 fz_156 _ _ ls (by omega) (by omega) hVz_155 hAz_155 hRz_155 hP hD hS (by omega) (lv_sub hl [0, 1, 2, 3, 4, 5] rfl)
                  refine lv_aload_n hx hb dX11_chooses_109 rfl (lv_at hl 2 rfl) ?_
                  refine va_get (D := (dC, dI)) (ci := 11) (v := .ref (pq 5)) (C := RX11) (T := TX11) (N := 63) hx hb hts in_wsX11_chooses_X11 hown hK hP 0 rfl rfl 5 (by decide +kernel) (hts (.fieldLink RX11 25 "ShipOfficeModel" "asks" "[I") iw_X11_chooses_7) (fun _ h9 => h9) rfl dX11_chooses_110 ?_
                  refine lv_iconst (v := 4) hx hb dX11_chooses_113 (by decide +kernel) ?_
                  refine lv_aload_n hx hb dX11_chooses_114 rfl (lv_at hl 2 rfl) ?_
                  refine va_get (D := (dC, dI)) (ci := 11) (v := .ref (pq 54)) (C := RX11) (T := TX11) (N := 63) hx hb hts in_wsX11_chooses_X11 hown hK hP 0 rfl rfl 54 (by decide +kernel) (hts (.fieldLink RX11 137 "ShipOfficeModel" "some" "[I") iw_X11_chooses_8) (fun _ h9 => h9) rfl dX11_chooses_115 ?_
                  refine lv_iload hx hb dX11_chooses_118 (lv_at hl 0 rfl) ?_
                  refine va_iald hx hb hK hP 43 42 rfl rfl (vp_in_iff.mpr (by omega)) dX11_chooses_120 ?_
                  refine lv_topi (fun x_159 ex_159 => ?_)
                  have hx_159 : 0 ≤ x_159.toInt ∧ x_159.toInt ≤ 39 := iv_of ex_159 (hAz_149 54 _)
                  clear ex_159
                  refine lv_imul hx hb dX11_chooses_121 ?_
                  refine lv_topi (fun x_160 ex_160 => ?_)
                  have hx_160 : x_160.toInt = 4 * x_159.toInt := (iv_to ex_160).trans (mu_i (by decide +kernel) rfl (by omega) (by omega))
                  clear ex_160
                  refine lv_aload_n hx hb dX11_chooses_122 rfl (lv_at hl 2 rfl) ?_
                  refine va_get (D := (dC, dI)) (ci := 11) (v := .ref (pq 55)) (C := RX11) (T := TX11) (N := 63) hx hb hts in_wsX11_chooses_X11 hown hK hP 0 rfl rfl 55 (by decide +kernel) (hts (.fieldLink RX11 140 "ShipOfficeModel" "handRank" "[I") iw_X11_chooses_5) (fun _ h9 => h9) rfl dX11_chooses_123 ?_
                  refine lv_iload_n hx hb dX11_chooses_126 rfl (lv_at hl 3 rfl) ?_
                  refine va_iald hx hb hK hP 44 43 rfl rfl (vp_in_iff.mpr (by omega)) dX11_chooses_127 ?_
                  refine lv_topi (fun x_161 ex_161 => ?_)
                  have hx_161 : 0 ≤ x_161.toInt ∧ x_161.toInt ≤ 3 := iv_of ex_161 (hAz_149 55 _)
                  clear ex_161
                  refine lv_iadd hx hb dX11_chooses_128 ?_
                  refine lv_topi (fun x_162 ex_162 => ?_)
                  have hx_162 : x_162.toInt = x_160.toInt + x_161.toInt := (iv_to ex_162).trans (ad_i rfl rfl (by omega) (by omega))
                  clear ex_162
                  refine va_iald hx hb hK hP 6 5 rfl rfl (vp_in_iff.mpr (by omega)) dX11_chooses_129 ?_
                  refine lv_topi (fun x_163 ex_163 => ?_)
                  clear ex_163
                  refine lv_istore (lv' := [(6, .int x_163), (5, .int y_148), (4, .int x_146), (0, .ref g0), (1, .int x1), (2, .int x2), (3, .int x3)]) hx hb dX11_chooses_130 hl (by decide +kernel) rfl (fun ls hl => ?_)
                  refine lv_iload hx hb dX11_chooses_132 (lv_at hl 0 rfl) ?_
                  refine lv_if_eq (tgt := 175) hx hb dX11_chooses_134 (by decide +kernel) (fun c_164 => ?_) (fun c_164 => ?_)
                  · have dc_164 := c_eq (a := x_163.toInt) (b := 0) rfl (by decide +kernel) c_164
                    exact cut_154  z_149 fz_150 _ _ ls  hVz_149 hAz_149 hRz_149 hP hD hS (by omega) (lv_sub hl [1, 2, 3, 4, 5, 6] rfl)
                  · have dc_164 := c_ne (a := x_163.toInt) (b := 0) rfl (by decide +kernel) c_164
                    refine lv_iload_n hx hb dX11_chooses_137 rfl (lv_at hl 5 rfl) ?_
                    refine lv_iload hx hb dX11_chooses_138 (lv_at hl 1 rfl) ?_
                    refine lv_ishr hx hb dX11_chooses_140 ?_
                    refine lv_topi (fun x_165 ex_165 => ?_)
                    clear ex_165
                    refine lv_iconst (v := 1) hx hb dX11_chooses_141 (by decide +kernel) ?_
                    refine lv_iand hx hb dX11_chooses_142 ?_
                    refine lv_topi (fun x_166 ex_166 => ?_)
                    clear ex_166
                    refine lv_iconst (v := 1) hx hb dX11_chooses_143 (by decide +kernel) ?_
                    refine lv_icmp_ne (tgt := 150) hx hb dX11_chooses_144 (by decide +kernel) (fun c_167 => ?_) (fun c_167 => ?_)
                    · have dc_167 := c_ne (a := x_166.toInt) (b := 1) rfl (by decide +kernel) c_167
                      refine lv_aload_n hx hb dX11_chooses_150 rfl (lv_at hl 3 rfl) ?_
                      refine va_get (D := (dC, dI)) (ci := 11) (v := .ref (pq 56)) (C := RX11) (T := TX11) (N := 63) hx hb hts in_wsX11_chooses_X11 hown hK hP 0 rfl rfl 56 (by decide +kernel) (hts (.fieldLink RX11 143 "ShipOfficeModel" "hand" "[I") iw_X11_chooses_4) (fun _ h9 => h9) rfl dX11_chooses_151 ?_
                      refine lv_iload_n hx hb dX11_chooses_154 rfl (lv_at hl 4 rfl) ?_
                      refine lv_iload hx hb dX11_chooses_155 (lv_at hl 1 rfl) ?_
                      refine va_iast hx hb hK hP hD hS 45 44 rfl rfl (vp_in_iff.mpr (by omega)) dX11_chooses_157 (fun H locs hP hD hS => ?_)
                      have hP : va_P (dC, dI) vwCl (mW g0 pq cp z_149 (upF fz_150 56 (x1 : Int32).toNatClampNeg y_148)) H := hP
                      have hD : va_D A (mW g0 pq cp z_149 (upF fz_150 56 (x1 : Int32).toNatClampNeg y_148)) := hD
                      obtain ⟨fz_168, efz_168⟩ : ∃ zq, zq = (upF fz_150 56 (x1 : Int32).toNatClampNeg y_148) := ⟨_, rfl⟩
                      rw [← efz_168] at hP hD
                      have hAfz_168 : mA fz_168 := by rw [efz_168]; exact mA_upF (lo := 0) (hi := 11) hAz_149 rfl rfl (by omega)
                      have hRfz_168 : scr v fa z_149 fz_168 := by rw [efz_168]; exact scr.uF hRz_149 rfl
                      refine lv_aload_n hx hb dX11_chooses_158 rfl (lv_at hl 3 rfl) ?_
                      refine lv_iload_n hx hb dX11_chooses_159 rfl (lv_at hl 4 rfl) ?_
                      refine lv_iconst (v := 1) hx hb dX11_chooses_160 (by decide +kernel) ?_
                      refine lv_iadd hx hb dX11_chooses_161 ?_
                      refine lv_topi (fun x_169 ex_169 => ?_)
                      have hx_169 : x_169.toInt = x1.toInt + 1 := (iv_to ex_169).trans (ad_i rfl (by decide +kernel) (by omega) (by omega))
                      clear ex_169
                      refine lv_iload_n hx hb dX11_chooses_162 rfl (lv_at hl 5 rfl) ?_
                      refine lv_iconst (v := 1) hx hb dX11_chooses_163 (by decide +kernel) ?_
                      refine lv_iload hx hb dX11_chooses_164 (lv_at hl 1 rfl) ?_
                      refine lv_ishl hx hb dX11_chooses_166 ?_
                      refine lv_topi (fun x_170 ex_170 => ?_)
                      clear ex_170
                      refine lv_ior hx hb dX11_chooses_167 ?_
                      refine lv_topi (fun x_171 ex_171 => ?_)
                      clear ex_171
                      refine lv_iload_n hx hb dX11_chooses_168 rfl (lv_at hl 6 rfl) ?_
                      refine lv_iload hx hb dX11_chooses_169 (lv_at hl 0 rfl) ?_
                      refine lv_iadd hx hb dX11_chooses_171 ?_
                      refine lv_topi (fun x_172 ex_172 => ?_)
                      clear ex_172
                      have hFc := va_free (wc := (mW g0 pq cp z_149 fz_168)) hD hS hA (List.range 48) rfl
                      refine va_callv (va_runV (As := [.int x_169, .int x_171, .int x_172]) (rest := []) ⟨hx, hb, hml, hown, hts⟩ (c_X11_chooses_6 l dC dI H.size g0 pq cp z_149 fz_168 hVz_149 hAfz_168 x_169 (by omega) x_171 x_172 (by omega)) (cwV 3 hts gX11_chooses_X11_chooses rfl rfl rfl (by decide +kernel) ⟨(Nat.le_of_ble_eq_true rfl), (Nat.le_of_ble_eq_true rfl)⟩) (pr_V (r := (RX11, TX11, 63)) hP hK hD 0 11 rfl rfl) rfl rfl hl.1 rfl (lv_room (Nat.le_of_ble_eq_true rfl)) dX11_chooses_172 ⟨(Nat.le_of_ble_eq_true rfl), (Nat.le_of_ble_eq_true rfl)⟩) hS (fun q _ h => hFc q h) hFc (fun u t H locs ht hvm w_173 hB hz1 hk1 hS => ?_)
                      obtain ⟨v_175, fa_176⟩ := u
                      obtain ⟨hP1, hK1, hD1⟩ := hB
                      rw [ht] at hP1
                      have hP : va_P (dC, dI) vwCl (mW g0 pq cp v_175 fa_176) H := hP1
                      have hD : va_D A (mW g0 pq cp v_175 fa_176) := hD1.weaken (fun _ _ _ h => hFc _ h)
                      clear hP1 hK1 hD1 hk1 hz1 hvm ht hFc
                      obtain ⟨hV_177, hA_178, hR_179, hx_180⟩ := w_173
                      dsimp only at hV_177 hA_178 hR_179 hx_180
                      have g_181 : (v_175 59).toInt = (z_149 59).toInt := hx_180
                      have R_182 := scr.tr hRfz_168 hR_179
                      exact cut_154  v_175 fa_176 _ _ ls  hV_177 hA_178 R_182 hP hD hS (by omega) (lv_sub hl [1, 2, 3, 4, 5, 6] rfl)
                    · have dc_167 := c_eq (a := x_166.toInt) (b := 1) rfl (by decide +kernel) c_167
                      refine lv_goto (tgt := 175) hx hb dX11_chooses_147 (by decide +kernel) ?_
                      exact cut_154  z_149 fz_150 _ _ ls  hVz_149 hAz_149 hRz_149 hP hD hS (by omega) (lv_sub hl [1, 2, 3, 4, 5, 6] rfl)
            exact cut_147 13 x_146 v fa _ _ ls (by omega) (by omega) gV gA scr.rf hP hD hS (by omega) (lv_sub hl [0, 1, 2, 3, 4, 5] rfl)
      · have dc_101 := c_eq (a := x1.toInt) (b := x_100.toInt) rfl rfl c_101
        refine lv_aload_n hx hb dX11_chooses_24 rfl (lv_at hl 0 rfl) ?_
        refine lv_iload_n hx hb dX11_chooses_25 rfl (lv_at hl 3 rfl) ?_
        refine va_put (D := (dC, dI)) (ci := 11) (v := .int x3) (ty := .int) (C := RX11) (T := TX11) (N := 63) hx hb hts in_wsX11_chooses_X11 tyX11 tyX11_ok nmX11 hown hK hP hD hS 0 rfl rfl 60 (by decide +kernel) (hts (.fieldLink RX11 338 "ShipOfficeModel" "least" "I") iw_X11_chooses_1) (fun _ h9 => h9) rfl (by decide +kernel) rfl rfl (Nat.le_of_ble_eq_true rfl) dX11_chooses_26 (fun H locs hP hD hS => ?_)
        have hP : va_P (dC, dI) vwCl (mW g0 pq cp (upd v 60 x3) fa) H := hP
        have hD : va_D A (mW g0 pq cp (upd v 60 x3) fa) := hD
        obtain ⟨z_183, ez_183⟩ : ∃ zq, zq = (upd v 60 x3) := ⟨_, rfl⟩
        rw [← ez_183] at hP hD
        have hVz_183 : mV z_183 := by rw [ez_183]; exact mV_upd (lo := -2147483648) (hi := 2147483647) gV rfl rfl (iv_all _)
        have hRz_183 : scr v fa z_183 fa := by rw [ez_183]; exact scr.up scr.rf rfl
        have g_184 : (z_183 59).toInt = (v 59).toInt := by rw [ez_183]; exact congrArg Int32.toInt (if_neg (by decide +kernel))
        refine lv_iconst (v := 0) hx hb dX11_chooses_29 (by decide +kernel) ?_
        refine lv_istore (lv' := [(4, .int 0), (0, .ref g0), (1, .int x1), (2, .int x2), (3, .int x3)]) hx hb dX11_chooses_30 hl (by decide +kernel) rfl (fun ls hl => ?_)
        have cut_185 : ∀ (n : Nat) (y_186 : Int32) (z_187 : Nat → Int32) (fz_188 : Nat → Nat → Int32) (H : Heap) (locs : List Loc) (ls : Array Slot), 8 - y_186.toInt ≤ (n : Int) → (0 ≤ y_186.toInt ∧ y_186.toInt ≤ 8) → mV z_187 → mA fz_188 → scr v fa z_187 fz_188 → va_P (dC, dI) vwCl (mW g0 pq cp z_187 fz_188) H → va_D A (mW g0 pq cp z_187 fz_188) → va_S A s.heap H locs → (z_187 59).toInt = (z_183 59).toInt → lv_has ls 7 [(4, .int y_186), (0, .ref g0), (1, .int x1), (2, .int x2), (3, .int x3)] → W p l e (headSpec wsX11_chooses { frames := 3, cells := 0, slots := 0, locals := 78 }).room s m #[Value.ref g0, Value.int x1, Value.int x2, Value.int x3] below meth c H locs 0 0 (MQ below (va_Qv (fun (u : (Nat → Int32) × (Nat → Nat → Int32)) => mV u.1 ∧ mA u.2 ∧ scr v fa u.1 u.2 ∧ ((u.1 59).toInt = (v 59).toInt)) (fun u t => va_P (dC, dI) vwCl (mW g0 pq cp u.1 u.2) t.heap ∧ va_K (dC, dI) vwCl (mT cp) t ∧ va_D A (mW g0 pq cp u.1 u.2)) A) #[Value.ref g0, Value.int x1, Value.int x2, Value.int x3] s 0 0 A) (F0 m 32 ls []) := by
          intro n
          induction n using Nat.strongRecOn with
          | ind n ih =>
            intro y_186 z_187 fz_188 H locs ls hm hy_186 hVz_187 hAz_187 hRz_187 hP hD hS g_189 hl
            refine lv_iload hx hb dX11_chooses_32 (lv_at hl 0 rfl) ?_
            refine lv_iload_n hx hb dX11_chooses_34 rfl (lv_at hl 2 rfl) ?_
            refine lv_icmp_ge (tgt := 58) hx hb dX11_chooses_35 (by decide +kernel) (fun c_190 => ?_) (fun c_190 => ?_)
            · have dc_190 := c_le (a := x1.toInt) (b := y_186.toInt) rfl rfl c_190
              exact W.vret hx hb hr (fun t ht hW => ⟨⟨(z_187, fz_188), rfl, ⟨hVz_187, hAz_187, hRz_187, (by dsimp only; omega)⟩, ⟨by rw [ht]; exact hP, va_K.moved hW.alike hK, hD⟩⟩, hS.F ht⟩) hS.2.2 dX11_chooses_58
            · have dc_190 := c_nle (a := x1.toInt) (b := y_186.toInt) rfl rfl c_190
              refine lv_aload_n hx hb dX11_chooses_38 rfl (lv_at hl 1 rfl) ?_
              refine va_get (D := (dC, dI)) (ci := 11) (v := .ref (pq 57)) (C := RX11) (T := TX11) (N := 63) hx hb hts in_wsX11_chooses_X11 hown hK hP 0 rfl rfl 57 (by decide +kernel) (hts (.fieldLink RX11 146 "ShipOfficeModel" "best" "[I") iw_X11_chooses_3) (fun _ h9 => h9) rfl dX11_chooses_39 ?_
              refine lv_iload hx hb dX11_chooses_42 (lv_at hl 0 rfl) ?_
              refine lv_aload_n hx hb dX11_chooses_44 rfl (lv_at hl 1 rfl) ?_
              refine va_get (D := (dC, dI)) (ci := 11) (v := .ref (pq 56)) (C := RX11) (T := TX11) (N := 63) hx hb hts in_wsX11_chooses_X11 hown hK hP 0 rfl rfl 56 (by decide +kernel) (hts (.fieldLink RX11 143 "ShipOfficeModel" "hand" "[I") iw_X11_chooses_4) (fun _ h9 => h9) rfl dX11_chooses_45 ?_
              refine lv_iload hx hb dX11_chooses_48 (lv_at hl 0 rfl) ?_
              refine va_iald hx hb hK hP 45 44 rfl rfl (vp_in_iff.mpr (by omega)) dX11_chooses_50 ?_
              refine lv_topi (fun x_191 ex_191 => ?_)
              have hx_191 : 0 ≤ x_191.toInt ∧ x_191.toInt ≤ 11 := iv_of ex_191 (hAz_187 56 _)
              clear ex_191
              refine va_iast hx hb hK hP hD hS 46 45 rfl rfl (vp_in_iff.mpr (by omega)) dX11_chooses_51 (fun H locs hP hD hS => ?_)
              have hP : va_P (dC, dI) vwCl (mW g0 pq cp z_187 (upF fz_188 57 (y_186 : Int32).toNatClampNeg x_191)) H := hP
              have hD : va_D A (mW g0 pq cp z_187 (upF fz_188 57 (y_186 : Int32).toNatClampNeg x_191)) := hD
              obtain ⟨fz_192, efz_192⟩ : ∃ zq, zq = (upF fz_188 57 (y_186 : Int32).toNatClampNeg x_191) := ⟨_, rfl⟩
              rw [← efz_192] at hP hD
              have hAfz_192 : mA fz_192 := by rw [efz_192]; exact mA_upF (lo := 0) (hi := 11) hAz_187 rfl rfl (by omega)
              have hRfz_192 : scr v fa z_187 fz_192 := by rw [efz_192]; exact scr.uF hRz_187 rfl
              obtain ⟨x_193, ex_193⟩ : ∃ zq : Int32, y_186 + 1 = zq := ⟨_, rfl⟩
              have hx_193 : x_193.toInt = y_186.toInt + 1 := (iv_to ex_193).symm.trans (ad_i rfl (by decide +kernel) (by omega) (by omega))
              refine lv_iinc (v := x_193) (lv' := [(4, .int x_193), (0, .ref g0), (1, .int x1), (2, .int x2), (3, .int x3)]) hx hb dX11_chooses_52 hl (k := 0) rfl ex_193 (by decide +kernel) rfl (fun ls hl => ?_)
              clear ex_193
              refine lv_goto (tgt := 32) hx hb dX11_chooses_55 (by decide +kernel) ?_
              exact ih (n - 1) (by omega) x_193 z_187 fz_192 _ _ ls (by omega) (by omega) hVz_187 hAfz_192 hRfz_192 hP hD hS (by omega) (lv_sub hl [0, 1, 2, 3, 4] rfl)
        have kc_194 : (0 : Int32).toInt = 0 := by decide
        exact cut_185 9 0 z_183 fa _ _ ls (by omega) (by decide +kernel) hVz_183 gA hRz_183 hP hD hS (by omega) (lv_sub hl [0, 1, 2, 3, 4] rfl)
    · have dc_99 := c_nlt (a := x3.toInt) (b := x_98.toInt) rfl rfl c_99
      exact W.vret hx hb hr (fun t ht hW => ⟨⟨(v, fa), rfl, ⟨gV, gA, scr.rf, rfl⟩, ⟨by rw [ht]; exact hP, va_K.moved hW.alike hK, hD⟩⟩, hS.F ht⟩) hS.2.2 dX11_chooses_15
set_option maxHeartbeats 4000000 in
set_option maxRecDepth 100000 in
theorem c_X11_chooses_4 (l : Launch) (dC : Nat → ClassId) (dI : Nat → Nat → Nat) (sz : Nat) (g0 : Nat) (pq : Nat → Nat) (cp : Nat → ClassId) (v : Nat → Int32) (fa : Nat → Nat → Int32) (gV : mV v) (gA : mA fa) (x1 : Int32) (hx1 : 4 ≤ x1.toInt ∧ x1.toInt ≤ 4) (x2 : Int32) (x3 : Int32) (hh : x1.toInt ≤ (v 59).toInt) : Met l yX11_chooses wsX11_chooses ({ frames := 4, cells := 0, slots := 0, locals := 104 }) (va_Pc [.ref g0, .int x1, .int x2, .int x3] (pcW (dC, dI) (mT cp) (mW g0 pq cp v fa) sz)) (va_Qv (fun (u : (Nat → Int32) × (Nat → Nat → Int32)) => mV u.1 ∧ mA u.2 ∧ scr v fa u.1 u.2 ∧ ((u.1 59).toInt = (v 59).toInt)) (fun u t => va_P (dC, dI) vwCl (mW g0 pq cp u.1 u.2) t.heap ∧ va_K (dC, dI) vwCl (mT cp) t ∧ va_D (va_A (mW g0 pq cp v fa) sz) (mW g0 pq cp u.1 u.2)) (va_A (mW g0 pq cp v fa) sz)) 0 0 (va_A (mW g0 pq cp v fa) sz) := by
  refine Met.ofW (cc := cX11_chooses) (maxL := 7) (ret := none) (by decide +kernel) rfl ?_
  intro p e s m args below meth c s₁ B hml hv
  obtain ⟨rfl, hsz, hP, hK, hD0⟩ := hv
  have hx := B.exec
  have hb := B.bytes
  have hr := B.returns
  have hts := atoms_spec (ws := wsX11_chooses) B.pre
  have hown : s.vm.findClass RX11 = some m.cls := findClass_of_methodNamed B.named
  have hlocks := B.notSynchronized
  subst hsz
  have hD := hD0.self (sz := s.heap.size)
  generalize hAe : va_A (mW g0 pq cp v fa) s.heap.size = A at hD ⊢
  have hA : ∀ q : Nat, s.heap.size ≤ q → A q := fun q h => by rw [← hAe]; exact Or.inr h
  have hS : va_S A s.heap s.heap [] := va_S.rf
  have hP : va_P (dC, dI) vwCl (mW g0 pq cp v fa) s.heap := hP
  have hl := lv_entry ([.ref g0, .int x1, .int x2, .int x3]) (n := 7) (Nat.le_of_ble_eq_true rfl)
  rw [lg_entry_eq]
  generalize (lg_sl ([.ref g0, .int x1, .int x2, .int x3]) ++ List.replicate (7 - (lg_sl ([.ref g0, .int x1, .int x2, .int x3])).length) Slot.unset).toArray = ls at hl ⊢
  have hl : lv_has ls 7 [(0, .ref g0), (1, .int x1), (2, .int x2), (3, .int x3)] := hl
  refine lv_aload_n hx hb dX11_chooses_0 rfl (lv_at hl 0 rfl) ?_
  refine va_get (D := (dC, dI)) (ci := 11) (v := .int (v 60)) (C := RX11) (T := TX11) (N := 63) hx hb hts in_wsX11_chooses_X11 hown hK hP 0 rfl rfl 60 (by decide +kernel) (hts (.fieldLink RX11 338 "ShipOfficeModel" "least" "I") iw_X11_chooses_1) (fun _ h9 => h9) rfl dX11_chooses_1 ?_
  refine lv_topi (fun x_1 ex_1 => ?_)
  clear ex_1
  refine lv_if_lt (tgt := 16) hx hb dX11_chooses_4 (by decide +kernel) (fun c_2 => ?_) (fun c_2 => ?_)
  · have dc_2 := c_lt (a := x_1.toInt) (b := 0) rfl (by decide +kernel) c_2
    refine lv_iload_n hx hb dX11_chooses_16 rfl (lv_at hl 1 rfl) ?_
    refine lv_aload_n hx hb dX11_chooses_17 rfl (lv_at hl 0 rfl) ?_
    refine va_get (D := (dC, dI)) (ci := 11) (v := .int (v 59)) (C := RX11) (T := TX11) (N := 63) hx hb hts in_wsX11_chooses_X11 hown hK hP 0 rfl rfl 59 (by decide +kernel) (hts (.fieldLink RX11 341 "ShipOfficeModel" "hands" "I") iw_X11_chooses_2) (fun _ h9 => h9) rfl dX11_chooses_18 ?_
    refine lv_topi (fun x_3 ex_3 => ?_)
    have hx_3 : 0 ≤ x_3.toInt ∧ x_3.toInt ≤ 8 := iv_of ex_3 (gV 59)
    have gx_3 : x_3.toInt = (v 59).toInt := iv_to ex_3
    clear ex_3
    refine lv_icmp_ne (tgt := 59) hx hb dX11_chooses_21 (by decide +kernel) (fun c_4 => ?_) (fun c_4 => ?_)
    · have dc_4 := c_ne (a := x1.toInt) (b := x_3.toInt) rfl rfl c_4
      refine lv_iload_n hx hb dX11_chooses_59 rfl (lv_at hl 1 rfl) ?_
      refine lv_if_le (tgt := 93) hx hb dX11_chooses_60 (by decide +kernel) (fun c_5 => ?_) (fun c_5 => ?_)
      · have dc_5 := c_le (a := x1.toInt) (b := 0) rfl (by decide +kernel) c_5
        exfalso; omega
      · have dc_5 := c_nle (a := x1.toInt) (b := 0) rfl (by decide +kernel) c_5
        refine lv_aload_n hx hb dX11_chooses_63 rfl (lv_at hl 0 rfl) ?_
        refine va_get (D := (dC, dI)) (ci := 11) (v := .ref (pq 55)) (C := RX11) (T := TX11) (N := 63) hx hb hts in_wsX11_chooses_X11 hown hK hP 0 rfl rfl 55 (by decide +kernel) (hts (.fieldLink RX11 140 "ShipOfficeModel" "handRank" "[I") iw_X11_chooses_5) (fun _ h9 => h9) rfl dX11_chooses_64 ?_
        refine lv_iload_n hx hb dX11_chooses_67 rfl (lv_at hl 1 rfl) ?_
        refine lv_iconst (v := 1) hx hb dX11_chooses_68 (by decide +kernel) ?_
        refine lv_isub hx hb dX11_chooses_69 ?_
        refine lv_topi (fun x_6 ex_6 => ?_)
        have hx_6 : x_6.toInt = x1.toInt - 1 := (iv_to ex_6).trans (sb_i rfl (by decide +kernel) (by omega) (by omega))
        clear ex_6
        refine va_iald hx hb hK hP 44 43 rfl rfl (vp_in_iff.mpr (by omega)) dX11_chooses_70 ?_
        refine lv_topi (fun x_7 ex_7 => ?_)
        have hx_7 : 0 ≤ x_7.toInt ∧ x_7.toInt ≤ 3 := iv_of ex_7 (gA 55 _)
        clear ex_7
        refine lv_aload_n hx hb dX11_chooses_71 rfl (lv_at hl 0 rfl) ?_
        refine va_get (D := (dC, dI)) (ci := 11) (v := .ref (pq 55)) (C := RX11) (T := TX11) (N := 63) hx hb hts in_wsX11_chooses_X11 hown hK hP 0 rfl rfl 55 (by decide +kernel) (hts (.fieldLink RX11 140 "ShipOfficeModel" "handRank" "[I") iw_X11_chooses_5) (fun _ h9 => h9) rfl dX11_chooses_72 ?_
        refine lv_iload_n hx hb dX11_chooses_75 rfl (lv_at hl 1 rfl) ?_
        refine va_iald hx hb hK hP 44 43 rfl rfl (vp_in_iff.mpr (by omega)) dX11_chooses_76 ?_
        refine lv_topi (fun x_8 ex_8 => ?_)
        have hx_8 : 0 ≤ x_8.toInt ∧ x_8.toInt ≤ 3 := iv_of ex_8 (gA 55 _)
        clear ex_8
        refine lv_icmp_ne (tgt := 93) hx hb dX11_chooses_77 (by decide +kernel) (fun c_9 => ?_) (fun c_9 => ?_)
        · have dc_9 := c_ne (a := x_7.toInt) (b := x_8.toInt) rfl rfl c_9
          refine lv_iconst (v := 0) hx hb dX11_chooses_93 (by decide +kernel) ?_
          refine lv_istore (lv' := [(4, .int 0), (0, .ref g0), (1, .int x1), (2, .int x2), (3, .int x3)]) hx hb dX11_chooses_94 hl (by decide +kernel) rfl (fun ls hl => ?_)
          refine lv_iload hx hb dX11_chooses_96 (lv_at hl 0 rfl) ?_
          refine lv_istore (lv' := [(5, .int 0), (4, .int 0), (0, .ref g0), (1, .int x1), (2, .int x2), (3, .int x3)]) hx hb dX11_chooses_98 hl (by decide +kernel) rfl (fun ls hl => ?_)
          have cut_10 : ∀ (n : Nat) (y_11 : Int32) (z_12 : Nat → Int32) (fz_13 : Nat → Nat → Int32) (H : Heap) (locs : List Loc) (ls : Array Slot), 12 - y_11.toInt ≤ (n : Int) → (0 ≤ y_11.toInt ∧ y_11.toInt ≤ 12) → mV z_12 → mA fz_13 → scr v fa z_12 fz_13 → va_P (dC, dI) vwCl (mW g0 pq cp z_12 fz_13) H → va_D A (mW g0 pq cp z_12 fz_13) → va_S A s.heap H locs → (z_12 59).toInt = (v 59).toInt → lv_has ls 7 [(5, .int y_11), (4, .int 0), (0, .ref g0), (1, .int x1), (2, .int x2), (3, .int x3)] → W p l e (headSpec wsX11_chooses { frames := 4, cells := 0, slots := 0, locals := 104 }).room s m #[Value.ref g0, Value.int x1, Value.int x2, Value.int x3] below meth c H locs 0 0 (MQ below (va_Qv (fun (u : (Nat → Int32) × (Nat → Nat → Int32)) => mV u.1 ∧ mA u.2 ∧ scr v fa u.1 u.2 ∧ ((u.1 59).toInt = (v 59).toInt)) (fun u t => va_P (dC, dI) vwCl (mW g0 pq cp u.1 u.2) t.heap ∧ va_K (dC, dI) vwCl (mT cp) t ∧ va_D A (mW g0 pq cp u.1 u.2)) A) #[Value.ref g0, Value.int x1, Value.int x2, Value.int x3] s 0 0 A) (F0 m 100 ls []) := by
            intro n
            induction n using Nat.strongRecOn with
            | ind n ih =>
              intro y_11 z_12 fz_13 H locs ls hm hy_11 hVz_12 hAz_12 hRz_12 hP hD hS g_14 hl
              refine lv_iload hx hb dX11_chooses_100 (lv_at hl 0 rfl) ?_
              refine lv_aload_n hx hb dX11_chooses_102 rfl (lv_at hl 2 rfl) ?_
              refine va_get (D := (dC, dI)) (ci := 11) (v := .int (z_12 58)) (C := RX11) (T := TX11) (N := 63) hx hb hts in_wsX11_chooses_X11 hown hK hP 0 rfl rfl 58 (by decide +kernel) (hts (.fieldLink RX11 344 "ShipOfficeModel" "someMany" "I") iw_X11_chooses_6) (fun _ h9 => h9) rfl dX11_chooses_103 ?_
              refine lv_topi (fun x_15 ex_15 => ?_)
              have hx_15 : 0 ≤ x_15.toInt ∧ x_15.toInt ≤ 12 := iv_of ex_15 (hVz_12 58)
              clear ex_15
              refine lv_icmp_ge (tgt := 181) hx hb dX11_chooses_106 (by decide +kernel) (fun c_16 => ?_) (fun c_16 => ?_)
              · have dc_16 := c_le (a := x_15.toInt) (b := y_11.toInt) rfl rfl c_16
                exact W.vret hx hb hr (fun t ht hW => ⟨⟨(z_12, fz_13), rfl, ⟨hVz_12, hAz_12, hRz_12, (by dsimp only; omega)⟩, ⟨by rw [ht]; exact hP, va_K.moved hW.alike hK, hD⟩⟩, hS.F ht⟩) hS.2.2 dX11_chooses_181
              · have dc_16 := c_nle (a := x_15.toInt) (b := y_11.toInt) rfl rfl c_16
                have cut_17 : ∀ (z_18 : Nat → Int32) (fz_19 : Nat → Nat → Int32) (H : Heap) (locs : List Loc) (ls : Array Slot), mV z_18 → mA fz_19 → scr v fa z_18 fz_19 → va_P (dC, dI) vwCl (mW g0 pq cp z_18 fz_19) H → va_D A (mW g0 pq cp z_18 fz_19) → va_S A s.heap H locs → (z_18 59).toInt = (z_12 59).toInt → lv_has ls 7 [(5, .int y_11), (4, .int 0), (0, .ref g0), (1, .int x1), (2, .int x2), (3, .int x3)] → W p l e (headSpec wsX11_chooses { frames := 4, cells := 0, slots := 0, locals := 104 }).room s m #[Value.ref g0, Value.int x1, Value.int x2, Value.int x3] below meth c H locs 0 0 (MQ below (va_Qv (fun (u : (Nat → Int32) × (Nat → Nat → Int32)) => mV u.1 ∧ mA u.2 ∧ scr v fa u.1 u.2 ∧ ((u.1 59).toInt = (v 59).toInt)) (fun u t => va_P (dC, dI) vwCl (mW g0 pq cp u.1 u.2) t.heap ∧ va_K (dC, dI) vwCl (mT cp) t ∧ va_D A (mW g0 pq cp u.1 u.2)) A) #[Value.ref g0, Value.int x1, Value.int x2, Value.int x3] s 0 0 A) (F0 m 175 ls []) := by
                  intro  z_18 fz_19 H locs ls hVz_18 hAz_18 hRz_18 hP hD hS g_20 hl
                  obtain ⟨x_21, ex_21⟩ : ∃ zq : Int32, y_11 + 1 = zq := ⟨_, rfl⟩
                  have hx_21 : x_21.toInt = y_11.toInt + 1 := (iv_to ex_21).symm.trans (ad_i rfl (by decide +kernel) (by omega) (by omega))
                  refine lv_iinc (v := x_21) (lv' := [(5, .int x_21), (4, .int 0), (0, .ref g0), (1, .int x1), (2, .int x2), (3, .int x3)]) hx hb dX11_chooses_175 hl (k := 0) rfl ex_21 (by decide +kernel) rfl (fun ls hl => ?_)
                  clear ex_21
                  refine lv_goto (tgt := 100) hx hb dX11_chooses_178 (by decide +kernel) ?_
                  exact ih (n - 1) (by omega) x_21 z_18 fz_19 _ _ ls (by omega) (by omega) hVz_18 hAz_18 hRz_18 hP hD hS (by omega) (lv_sub hl [0, 1, 2, 3, 4, 5] rfl)
                refine lv_aload_n hx hb dX11_chooses_109 rfl (lv_at hl 2 rfl) ?_
                refine va_get (D := (dC, dI)) (ci := 11) (v := .ref (pq 5)) (C := RX11) (T := TX11) (N := 63) hx hb hts in_wsX11_chooses_X11 hown hK hP 0 rfl rfl 5 (by decide +kernel) (hts (.fieldLink RX11 25 "ShipOfficeModel" "asks" "[I") iw_X11_chooses_7) (fun _ h9 => h9) rfl dX11_chooses_110 ?_
                refine lv_iconst (v := 4) hx hb dX11_chooses_113 (by decide +kernel) ?_
                refine lv_aload_n hx hb dX11_chooses_114 rfl (lv_at hl 2 rfl) ?_
                refine va_get (D := (dC, dI)) (ci := 11) (v := .ref (pq 54)) (C := RX11) (T := TX11) (N := 63) hx hb hts in_wsX11_chooses_X11 hown hK hP 0 rfl rfl 54 (by decide +kernel) (hts (.fieldLink RX11 137 "ShipOfficeModel" "some" "[I") iw_X11_chooses_8) (fun _ h9 => h9) rfl dX11_chooses_115 ?_
                refine lv_iload hx hb dX11_chooses_118 (lv_at hl 0 rfl) ?_
                refine va_iald hx hb hK hP 43 42 rfl rfl (vp_in_iff.mpr (by omega)) dX11_chooses_120 ?_
                refine lv_topi (fun x_22 ex_22 => ?_)
                have hx_22 : 0 ≤ x_22.toInt ∧ x_22.toInt ≤ 39 := iv_of ex_22 (hAz_12 54 _)
                clear ex_22
                refine lv_imul hx hb dX11_chooses_121 ?_
                refine lv_topi (fun x_23 ex_23 => ?_)
                have hx_23 : x_23.toInt = 4 * x_22.toInt := (iv_to ex_23).trans (mu_i (by decide +kernel) rfl (by omega) (by omega))
                clear ex_23
                refine lv_aload_n hx hb dX11_chooses_122 rfl (lv_at hl 2 rfl) ?_
                refine va_get (D := (dC, dI)) (ci := 11) (v := .ref (pq 55)) (C := RX11) (T := TX11) (N := 63) hx hb hts in_wsX11_chooses_X11 hown hK hP 0 rfl rfl 55 (by decide +kernel) (hts (.fieldLink RX11 140 "ShipOfficeModel" "handRank" "[I") iw_X11_chooses_5) (fun _ h9 => h9) rfl dX11_chooses_123 ?_
                refine lv_iload_n hx hb dX11_chooses_126 rfl (lv_at hl 3 rfl) ?_
                refine va_iald hx hb hK hP 44 43 rfl rfl (vp_in_iff.mpr (by omega)) dX11_chooses_127 ?_
                refine lv_topi (fun x_24 ex_24 => ?_)
                have hx_24 : 0 ≤ x_24.toInt ∧ x_24.toInt ≤ 3 := iv_of ex_24 (hAz_12 55 _)
                clear ex_24
                refine lv_iadd hx hb dX11_chooses_128 ?_
                refine lv_topi (fun x_25 ex_25 => ?_)
                have hx_25 : x_25.toInt = x_23.toInt + x_24.toInt := (iv_to ex_25).trans (ad_i rfl rfl (by omega) (by omega))
                clear ex_25
                refine va_iald hx hb hK hP 6 5 rfl rfl (vp_in_iff.mpr (by omega)) dX11_chooses_129 ?_
                refine lv_topi (fun x_26 ex_26 => ?_)
                clear ex_26
                refine lv_istore (lv' := [(6, .int x_26), (5, .int y_11), (4, .int 0), (0, .ref g0), (1, .int x1), (2, .int x2), (3, .int x3)]) hx hb dX11_chooses_130 hl (by decide +kernel) rfl (fun ls hl => ?_)
                refine lv_iload hx hb dX11_chooses_132 (lv_at hl 0 rfl) ?_
                refine lv_if_eq (tgt := 175) hx hb dX11_chooses_134 (by decide +kernel) (fun c_27 => ?_) (fun c_27 => ?_)
                · have dc_27 := c_eq (a := x_26.toInt) (b := 0) rfl (by decide +kernel) c_27
                  exact cut_17  z_12 fz_13 _ _ ls  hVz_12 hAz_12 hRz_12 hP hD hS (by omega) (lv_sub hl [1, 2, 3, 4, 5, 6] rfl)
                · have dc_27 := c_ne (a := x_26.toInt) (b := 0) rfl (by decide +kernel) c_27
                  refine lv_iload_n hx hb dX11_chooses_137 rfl (lv_at hl 5 rfl) ?_
                  refine lv_iload hx hb dX11_chooses_138 (lv_at hl 1 rfl) ?_
                  refine lv_ishr hx hb dX11_chooses_140 ?_
                  refine lv_topi (fun x_28 ex_28 => ?_)
                  clear ex_28
                  refine lv_iconst (v := 1) hx hb dX11_chooses_141 (by decide +kernel) ?_
                  refine lv_iand hx hb dX11_chooses_142 ?_
                  refine lv_topi (fun x_29 ex_29 => ?_)
                  clear ex_29
                  refine lv_iconst (v := 1) hx hb dX11_chooses_143 (by decide +kernel) ?_
                  refine lv_icmp_ne (tgt := 150) hx hb dX11_chooses_144 (by decide +kernel) (fun c_30 => ?_) (fun c_30 => ?_)
                  · have dc_30 := c_ne (a := x_29.toInt) (b := 1) rfl (by decide +kernel) c_30
                    refine lv_aload_n hx hb dX11_chooses_150 rfl (lv_at hl 3 rfl) ?_
                    refine va_get (D := (dC, dI)) (ci := 11) (v := .ref (pq 56)) (C := RX11) (T := TX11) (N := 63) hx hb hts in_wsX11_chooses_X11 hown hK hP 0 rfl rfl 56 (by decide +kernel) (hts (.fieldLink RX11 143 "ShipOfficeModel" "hand" "[I") iw_X11_chooses_4) (fun _ h9 => h9) rfl dX11_chooses_151 ?_
                    refine lv_iload_n hx hb dX11_chooses_154 rfl (lv_at hl 4 rfl) ?_
                    refine lv_iload hx hb dX11_chooses_155 (lv_at hl 1 rfl) ?_
                    refine va_iast hx hb hK hP hD hS 45 44 rfl rfl (vp_in_iff.mpr (by omega)) dX11_chooses_157 (fun H locs hP hD hS => ?_)
                    have hP : va_P (dC, dI) vwCl (mW g0 pq cp z_12 (upF fz_13 56 (x1 : Int32).toNatClampNeg y_11)) H := hP
                    have hD : va_D A (mW g0 pq cp z_12 (upF fz_13 56 (x1 : Int32).toNatClampNeg y_11)) := hD
                    obtain ⟨fz_31, efz_31⟩ : ∃ zq, zq = (upF fz_13 56 (x1 : Int32).toNatClampNeg y_11) := ⟨_, rfl⟩
                    rw [← efz_31] at hP hD
                    have hAfz_31 : mA fz_31 := by rw [efz_31]; exact mA_upF (lo := 0) (hi := 11) hAz_12 rfl rfl (by omega)
                    have hRfz_31 : scr v fa z_12 fz_31 := by rw [efz_31]; exact scr.uF hRz_12 rfl
                    refine lv_aload_n hx hb dX11_chooses_158 rfl (lv_at hl 3 rfl) ?_
                    refine lv_iload_n hx hb dX11_chooses_159 rfl (lv_at hl 4 rfl) ?_
                    refine lv_iconst (v := 1) hx hb dX11_chooses_160 (by decide +kernel) ?_
                    refine lv_iadd hx hb dX11_chooses_161 ?_
                    refine lv_topi (fun x_32 ex_32 => ?_)
                    have hx_32 : x_32.toInt = x1.toInt + 1 := (iv_to ex_32).trans (ad_i rfl (by decide +kernel) (by omega) (by omega))
                    clear ex_32
                    refine lv_iload_n hx hb dX11_chooses_162 rfl (lv_at hl 5 rfl) ?_
                    refine lv_iconst (v := 1) hx hb dX11_chooses_163 (by decide +kernel) ?_
                    refine lv_iload hx hb dX11_chooses_164 (lv_at hl 1 rfl) ?_
                    refine lv_ishl hx hb dX11_chooses_166 ?_
                    refine lv_topi (fun x_33 ex_33 => ?_)
                    clear ex_33
                    refine lv_ior hx hb dX11_chooses_167 ?_
                    refine lv_topi (fun x_34 ex_34 => ?_)
                    clear ex_34
                    refine lv_iload_n hx hb dX11_chooses_168 rfl (lv_at hl 6 rfl) ?_
                    refine lv_iload hx hb dX11_chooses_169 (lv_at hl 0 rfl) ?_
                    refine lv_iadd hx hb dX11_chooses_171 ?_
                    refine lv_topi (fun x_35 ex_35 => ?_)
                    clear ex_35
                    have hFc := va_free (wc := (mW g0 pq cp z_12 fz_31)) hD hS hA (List.range 48) rfl
                    refine va_callv (va_runV (As := [.int x_32, .int x_34, .int x_35]) (rest := []) ⟨hx, hb, hml, hown, hts⟩ (c_X11_chooses_5 l dC dI H.size g0 pq cp z_12 fz_31 hVz_12 hAfz_31 x_32 (by omega) x_34 x_35 (by omega)) (cwV 3 hts gX11_chooses_X11_chooses rfl rfl rfl (by decide +kernel) ⟨(Nat.le_of_ble_eq_true rfl), (Nat.le_of_ble_eq_true rfl)⟩) (pr_V (r := (RX11, TX11, 63)) hP hK hD 0 11 rfl rfl) rfl rfl hl.1 rfl (lv_room (Nat.le_of_ble_eq_true rfl)) dX11_chooses_172 ⟨(Nat.le_of_ble_eq_true rfl), (Nat.le_of_ble_eq_true rfl)⟩) hS (fun q _ h => hFc q h) hFc (fun u t H locs ht hvm w_36 hB hz1 hk1 hS => ?_)
                    obtain ⟨v_38, fa_39⟩ := u
                    obtain ⟨hP1, hK1, hD1⟩ := hB
                    rw [ht] at hP1
                    have hP : va_P (dC, dI) vwCl (mW g0 pq cp v_38 fa_39) H := hP1
                    have hD : va_D A (mW g0 pq cp v_38 fa_39) := hD1.weaken (fun _ _ _ h => hFc _ h)
                    clear hP1 hK1 hD1 hk1 hz1 hvm ht hFc
                    obtain ⟨hV_40, hA_41, hR_42, hx_43⟩ := w_36
                    dsimp only at hV_40 hA_41 hR_42 hx_43
                    have g_44 : (v_38 59).toInt = (z_12 59).toInt := hx_43
                    have R_45 := scr.tr hRfz_31 hR_42
                    exact cut_17  v_38 fa_39 _ _ ls  hV_40 hA_41 R_45 hP hD hS (by omega) (lv_sub hl [1, 2, 3, 4, 5, 6] rfl)
                  · have dc_30 := c_eq (a := x_29.toInt) (b := 1) rfl (by decide +kernel) c_30
                    refine lv_goto (tgt := 175) hx hb dX11_chooses_147 (by decide +kernel) ?_
                    exact cut_17  z_12 fz_13 _ _ ls  hVz_12 hAz_12 hRz_12 hP hD hS (by omega) (lv_sub hl [1, 2, 3, 4, 5, 6] rfl)
          have kc_46 : (0 : Int32).toInt = 0 := by decide
          exact cut_10 13 0 v fa _ _ ls (by omega) (by decide +kernel) gV gA scr.rf hP hD hS (by omega) (lv_sub hl [0, 1, 2, 3, 4, 5] rfl)
        · have dc_9 := c_eq (a := x_7.toInt) (b := x_8.toInt) rfl rfl c_9
          refine lv_aload_n hx hb dX11_chooses_80 rfl (lv_at hl 0 rfl) ?_
          refine va_get (D := (dC, dI)) (ci := 11) (v := .ref (pq 56)) (C := RX11) (T := TX11) (N := 63) hx hb hts in_wsX11_chooses_X11 hown hK hP 0 rfl rfl 56 (by decide +kernel) (hts (.fieldLink RX11 143 "ShipOfficeModel" "hand" "[I") iw_X11_chooses_4) (fun _ h9 => h9) rfl dX11_chooses_81 ?_
          refine lv_iload_n hx hb dX11_chooses_84 rfl (lv_at hl 1 rfl) ?_
          refine lv_iconst (v := 1) hx hb dX11_chooses_85 (by decide +kernel) ?_
          refine lv_isub hx hb dX11_chooses_86 ?_
          refine lv_topi (fun x_47 ex_47 => ?_)
          have hx_47 : x_47.toInt = x1.toInt - 1 := (iv_to ex_47).trans (sb_i rfl (by decide +kernel) (by omega) (by omega))
          clear ex_47
          refine va_iald hx hb hK hP 45 44 rfl rfl (vp_in_iff.mpr (by omega)) dX11_chooses_87 ?_
          refine lv_topi (fun x_48 ex_48 => ?_)
          have hx_48 : 0 ≤ x_48.toInt ∧ x_48.toInt ≤ 11 := iv_of ex_48 (gA 56 _)
          clear ex_48
          refine lv_iconst (v := 1) hx hb dX11_chooses_88 (by decide +kernel) ?_
          refine lv_iadd hx hb dX11_chooses_89 ?_
          refine lv_topi (fun x_49 ex_49 => ?_)
          have hx_49 : x_49.toInt = x_48.toInt + 1 := (iv_to ex_49).trans (ad_i rfl (by decide +kernel) (by omega) (by omega))
          clear ex_49
          refine lv_goto (tgt := 94) hx hb dX11_chooses_90 (by decide +kernel) ?_
          refine lv_istore (lv' := [(4, .int x_49), (0, .ref g0), (1, .int x1), (2, .int x2), (3, .int x3)]) hx hb dX11_chooses_94 hl (by decide +kernel) rfl (fun ls hl => ?_)
          refine lv_iload hx hb dX11_chooses_96 (lv_at hl 0 rfl) ?_
          refine lv_istore (lv' := [(5, .int x_49), (4, .int x_49), (0, .ref g0), (1, .int x1), (2, .int x2), (3, .int x3)]) hx hb dX11_chooses_98 hl (by decide +kernel) rfl (fun ls hl => ?_)
          have cut_50 : ∀ (n : Nat) (y_51 : Int32) (z_52 : Nat → Int32) (fz_53 : Nat → Nat → Int32) (H : Heap) (locs : List Loc) (ls : Array Slot), 12 - y_51.toInt ≤ (n : Int) → (0 ≤ y_51.toInt ∧ y_51.toInt ≤ 12) → mV z_52 → mA fz_53 → scr v fa z_52 fz_53 → va_P (dC, dI) vwCl (mW g0 pq cp z_52 fz_53) H → va_D A (mW g0 pq cp z_52 fz_53) → va_S A s.heap H locs → (z_52 59).toInt = (v 59).toInt → lv_has ls 7 [(5, .int y_51), (4, .int x_49), (0, .ref g0), (1, .int x1), (2, .int x2), (3, .int x3)] → W p l e (headSpec wsX11_chooses { frames := 4, cells := 0, slots := 0, locals := 104 }).room s m #[Value.ref g0, Value.int x1, Value.int x2, Value.int x3] below meth c H locs 0 0 (MQ below (va_Qv (fun (u : (Nat → Int32) × (Nat → Nat → Int32)) => mV u.1 ∧ mA u.2 ∧ scr v fa u.1 u.2 ∧ ((u.1 59).toInt = (v 59).toInt)) (fun u t => va_P (dC, dI) vwCl (mW g0 pq cp u.1 u.2) t.heap ∧ va_K (dC, dI) vwCl (mT cp) t ∧ va_D A (mW g0 pq cp u.1 u.2)) A) #[Value.ref g0, Value.int x1, Value.int x2, Value.int x3] s 0 0 A) (F0 m 100 ls []) := by
            intro n
            induction n using Nat.strongRecOn with
            | ind n ih =>
              intro y_51 z_52 fz_53 H locs ls hm hy_51 hVz_52 hAz_52 hRz_52 hP hD hS g_54 hl
              refine lv_iload hx hb dX11_chooses_100 (lv_at hl 0 rfl) ?_
              refine lv_aload_n hx hb dX11_chooses_102 rfl (lv_at hl 2 rfl) ?_
              refine va_get (D := (dC, dI)) (ci := 11) (v := .int (z_52 58)) (C := RX11) (T := TX11) (N := 63) hx hb hts in_wsX11_chooses_X11 hown hK hP 0 rfl rfl 58 (by decide +kernel) (hts (.fieldLink RX11 344 "ShipOfficeModel" "someMany" "I") iw_X11_chooses_6) (fun _ h9 => h9) rfl dX11_chooses_103 ?_
              refine lv_topi (fun x_55 ex_55 => ?_)
              have hx_55 : 0 ≤ x_55.toInt ∧ x_55.toInt ≤ 12 := iv_of ex_55 (hVz_52 58)
              clear ex_55
              refine lv_icmp_ge (tgt := 181) hx hb dX11_chooses_106 (by decide +kernel) (fun c_56 => ?_) (fun c_56 => ?_)
              · have dc_56 := c_le (a := x_55.toInt) (b := y_51.toInt) rfl rfl c_56
                exact W.vret hx hb hr (fun t ht hW => ⟨⟨(z_52, fz_53), rfl, ⟨hVz_52, hAz_52, hRz_52, (by dsimp only; omega)⟩, ⟨by rw [ht]; exact hP, va_K.moved hW.alike hK, hD⟩⟩, hS.F ht⟩) hS.2.2 dX11_chooses_181
              · have dc_56 := c_nle (a := x_55.toInt) (b := y_51.toInt) rfl rfl c_56
                have cut_57 : ∀ (z_58 : Nat → Int32) (fz_59 : Nat → Nat → Int32) (H : Heap) (locs : List Loc) (ls : Array Slot), mV z_58 → mA fz_59 → scr v fa z_58 fz_59 → va_P (dC, dI) vwCl (mW g0 pq cp z_58 fz_59) H → va_D A (mW g0 pq cp z_58 fz_59) → va_S A s.heap H locs → (z_58 59).toInt = (z_52 59).toInt → lv_has ls 7 [(5, .int y_51), (4, .int x_49), (0, .ref g0), (1, .int x1), (2, .int x2), (3, .int x3)] → W p l e (headSpec wsX11_chooses { frames := 4, cells := 0, slots := 0, locals := 104 }).room s m #[Value.ref g0, Value.int x1, Value.int x2, Value.int x3] below meth c H locs 0 0 (MQ below (va_Qv (fun (u : (Nat → Int32) × (Nat → Nat → Int32)) => mV u.1 ∧ mA u.2 ∧ scr v fa u.1 u.2 ∧ ((u.1 59).toInt = (v 59).toInt)) (fun u t => va_P (dC, dI) vwCl (mW g0 pq cp u.1 u.2) t.heap ∧ va_K (dC, dI) vwCl (mT cp) t ∧ va_D A (mW g0 pq cp u.1 u.2)) A) #[Value.ref g0, Value.int x1, Value.int x2, Value.int x3] s 0 0 A) (F0 m 175 ls []) := by
                  intro  z_58 fz_59 H locs ls hVz_58 hAz_58 hRz_58 hP hD hS g_60 hl
                  obtain ⟨x_61, ex_61⟩ : ∃ zq : Int32, y_51 + 1 = zq := ⟨_, rfl⟩
                  have hx_61 : x_61.toInt = y_51.toInt + 1 := (iv_to ex_61).symm.trans (ad_i rfl (by decide +kernel) (by omega) (by omega))
                  refine lv_iinc (v := x_61) (lv' := [(5, .int x_61), (4, .int x_49), (0, .ref g0), (1, .int x1), (2, .int x2), (3, .int x3)]) hx hb dX11_chooses_175 hl (k := 0) rfl ex_61 (by decide +kernel) rfl (fun ls hl => ?_)
                  clear ex_61
                  refine lv_goto (tgt := 100) hx hb dX11_chooses_178 (by decide +kernel) ?_
                  exact ih (n - 1) (by omega) x_61 z_58 fz_59 _ _ ls (by omega) (by omega) hVz_58 hAz_58 hRz_58 hP hD hS (by omega) (lv_sub hl [0, 1, 2, 3, 4, 5] rfl)
                refine lv_aload_n hx hb dX11_chooses_109 rfl (lv_at hl 2 rfl) ?_
                refine va_get (D := (dC, dI)) (ci := 11) (v := .ref (pq 5)) (C := RX11) (T := TX11) (N := 63) hx hb hts in_wsX11_chooses_X11 hown hK hP 0 rfl rfl 5 (by decide +kernel) (hts (.fieldLink RX11 25 "ShipOfficeModel" "asks" "[I") iw_X11_chooses_7) (fun _ h9 => h9) rfl dX11_chooses_110 ?_
                refine lv_iconst (v := 4) hx hb dX11_chooses_113 (by decide +kernel) ?_
                refine lv_aload_n hx hb dX11_chooses_114 rfl (lv_at hl 2 rfl) ?_
                refine va_get (D := (dC, dI)) (ci := 11) (v := .ref (pq 54)) (C := RX11) (T := TX11) (N := 63) hx hb hts in_wsX11_chooses_X11 hown hK hP 0 rfl rfl 54 (by decide +kernel) (hts (.fieldLink RX11 137 "ShipOfficeModel" "some" "[I") iw_X11_chooses_8) (fun _ h9 => h9) rfl dX11_chooses_115 ?_
                refine lv_iload hx hb dX11_chooses_118 (lv_at hl 0 rfl) ?_
                refine va_iald hx hb hK hP 43 42 rfl rfl (vp_in_iff.mpr (by omega)) dX11_chooses_120 ?_
                refine lv_topi (fun x_62 ex_62 => ?_)
                have hx_62 : 0 ≤ x_62.toInt ∧ x_62.toInt ≤ 39 := iv_of ex_62 (hAz_52 54 _)
                clear ex_62
                refine lv_imul hx hb dX11_chooses_121 ?_
                refine lv_topi (fun x_63 ex_63 => ?_)
                have hx_63 : x_63.toInt = 4 * x_62.toInt := (iv_to ex_63).trans (mu_i (by decide +kernel) rfl (by omega) (by omega))
                clear ex_63
                refine lv_aload_n hx hb dX11_chooses_122 rfl (lv_at hl 2 rfl) ?_
                refine va_get (D := (dC, dI)) (ci := 11) (v := .ref (pq 55)) (C := RX11) (T := TX11) (N := 63) hx hb hts in_wsX11_chooses_X11 hown hK hP 0 rfl rfl 55 (by decide +kernel) (hts (.fieldLink RX11 140 "ShipOfficeModel" "handRank" "[I") iw_X11_chooses_5) (fun _ h9 => h9) rfl dX11_chooses_123 ?_
                refine lv_iload_n hx hb dX11_chooses_126 rfl (lv_at hl 3 rfl) ?_
                refine va_iald hx hb hK hP 44 43 rfl rfl (vp_in_iff.mpr (by omega)) dX11_chooses_127 ?_
                refine lv_topi (fun x_64 ex_64 => ?_)
                have hx_64 : 0 ≤ x_64.toInt ∧ x_64.toInt ≤ 3 := iv_of ex_64 (hAz_52 55 _)
                clear ex_64
                refine lv_iadd hx hb dX11_chooses_128 ?_
                refine lv_topi (fun x_65 ex_65 => ?_)
                have hx_65 : x_65.toInt = x_63.toInt + x_64.toInt := (iv_to ex_65).trans (ad_i rfl rfl (by omega) (by omega))
                clear ex_65
                refine va_iald hx hb hK hP 6 5 rfl rfl (vp_in_iff.mpr (by omega)) dX11_chooses_129 ?_
                refine lv_topi (fun x_66 ex_66 => ?_)
                clear ex_66
                refine lv_istore (lv' := [(6, .int x_66), (5, .int y_51), (4, .int x_49), (0, .ref g0), (1, .int x1), (2, .int x2), (3, .int x3)]) hx hb dX11_chooses_130 hl (by decide +kernel) rfl (fun ls hl => ?_)
                refine lv_iload hx hb dX11_chooses_132 (lv_at hl 0 rfl) ?_
                refine lv_if_eq (tgt := 175) hx hb dX11_chooses_134 (by decide +kernel) (fun c_67 => ?_) (fun c_67 => ?_)
                · have dc_67 := c_eq (a := x_66.toInt) (b := 0) rfl (by decide +kernel) c_67
                  exact cut_57  z_52 fz_53 _ _ ls  hVz_52 hAz_52 hRz_52 hP hD hS (by omega) (lv_sub hl [1, 2, 3, 4, 5, 6] rfl)
                · have dc_67 := c_ne (a := x_66.toInt) (b := 0) rfl (by decide +kernel) c_67
                  refine lv_iload_n hx hb dX11_chooses_137 rfl (lv_at hl 5 rfl) ?_
                  refine lv_iload hx hb dX11_chooses_138 (lv_at hl 1 rfl) ?_
                  refine lv_ishr hx hb dX11_chooses_140 ?_
                  refine lv_topi (fun x_68 ex_68 => ?_)
                  clear ex_68
                  refine lv_iconst (v := 1) hx hb dX11_chooses_141 (by decide +kernel) ?_
                  refine lv_iand hx hb dX11_chooses_142 ?_
                  refine lv_topi (fun x_69 ex_69 => ?_)
                  clear ex_69
                  refine lv_iconst (v := 1) hx hb dX11_chooses_143 (by decide +kernel) ?_
                  refine lv_icmp_ne (tgt := 150) hx hb dX11_chooses_144 (by decide +kernel) (fun c_70 => ?_) (fun c_70 => ?_)
                  · have dc_70 := c_ne (a := x_69.toInt) (b := 1) rfl (by decide +kernel) c_70
                    refine lv_aload_n hx hb dX11_chooses_150 rfl (lv_at hl 3 rfl) ?_
                    refine va_get (D := (dC, dI)) (ci := 11) (v := .ref (pq 56)) (C := RX11) (T := TX11) (N := 63) hx hb hts in_wsX11_chooses_X11 hown hK hP 0 rfl rfl 56 (by decide +kernel) (hts (.fieldLink RX11 143 "ShipOfficeModel" "hand" "[I") iw_X11_chooses_4) (fun _ h9 => h9) rfl dX11_chooses_151 ?_
                    refine lv_iload_n hx hb dX11_chooses_154 rfl (lv_at hl 4 rfl) ?_
                    refine lv_iload hx hb dX11_chooses_155 (lv_at hl 1 rfl) ?_
                    refine va_iast hx hb hK hP hD hS 45 44 rfl rfl (vp_in_iff.mpr (by omega)) dX11_chooses_157 (fun H locs hP hD hS => ?_)
                    have hP : va_P (dC, dI) vwCl (mW g0 pq cp z_52 (upF fz_53 56 (x1 : Int32).toNatClampNeg y_51)) H := hP
                    have hD : va_D A (mW g0 pq cp z_52 (upF fz_53 56 (x1 : Int32).toNatClampNeg y_51)) := hD
                    obtain ⟨fz_71, efz_71⟩ : ∃ zq, zq = (upF fz_53 56 (x1 : Int32).toNatClampNeg y_51) := ⟨_, rfl⟩
                    rw [← efz_71] at hP hD
                    have hAfz_71 : mA fz_71 := by rw [efz_71]; exact mA_upF (lo := 0) (hi := 11) hAz_52 rfl rfl (by omega)
                    have hRfz_71 : scr v fa z_52 fz_71 := by rw [efz_71]; exact scr.uF hRz_52 rfl
                    refine lv_aload_n hx hb dX11_chooses_158 rfl (lv_at hl 3 rfl) ?_
                    refine lv_iload_n hx hb dX11_chooses_159 rfl (lv_at hl 4 rfl) ?_
                    refine lv_iconst (v := 1) hx hb dX11_chooses_160 (by decide +kernel) ?_
                    refine lv_iadd hx hb dX11_chooses_161 ?_
                    refine lv_topi (fun x_72 ex_72 => ?_)
                    have hx_72 : x_72.toInt = x1.toInt + 1 := (iv_to ex_72).trans (ad_i rfl (by decide +kernel) (by omega) (by omega))
                    clear ex_72
                    refine lv_iload_n hx hb dX11_chooses_162 rfl (lv_at hl 5 rfl) ?_
                    refine lv_iconst (v := 1) hx hb dX11_chooses_163 (by decide +kernel) ?_
                    refine lv_iload hx hb dX11_chooses_164 (lv_at hl 1 rfl) ?_
                    refine lv_ishl hx hb dX11_chooses_166 ?_
                    refine lv_topi (fun x_73 ex_73 => ?_)
                    clear ex_73
                    refine lv_ior hx hb dX11_chooses_167 ?_
                    refine lv_topi (fun x_74 ex_74 => ?_)
                    clear ex_74
                    refine lv_iload_n hx hb dX11_chooses_168 rfl (lv_at hl 6 rfl) ?_
                    refine lv_iload hx hb dX11_chooses_169 (lv_at hl 0 rfl) ?_
                    refine lv_iadd hx hb dX11_chooses_171 ?_
                    refine lv_topi (fun x_75 ex_75 => ?_)
                    clear ex_75
                    have hFc := va_free (wc := (mW g0 pq cp z_52 fz_71)) hD hS hA (List.range 48) rfl
                    refine va_callv (va_runV (As := [.int x_72, .int x_74, .int x_75]) (rest := []) ⟨hx, hb, hml, hown, hts⟩ (c_X11_chooses_5 l dC dI H.size g0 pq cp z_52 fz_71 hVz_52 hAfz_71 x_72 (by omega) x_74 x_75 (by omega)) (cwV 3 hts gX11_chooses_X11_chooses rfl rfl rfl (by decide +kernel) ⟨(Nat.le_of_ble_eq_true rfl), (Nat.le_of_ble_eq_true rfl)⟩) (pr_V (r := (RX11, TX11, 63)) hP hK hD 0 11 rfl rfl) rfl rfl hl.1 rfl (lv_room (Nat.le_of_ble_eq_true rfl)) dX11_chooses_172 ⟨(Nat.le_of_ble_eq_true rfl), (Nat.le_of_ble_eq_true rfl)⟩) hS (fun q _ h => hFc q h) hFc (fun u t H locs ht hvm w_76 hB hz1 hk1 hS => ?_)
                    obtain ⟨v_78, fa_79⟩ := u
                    obtain ⟨hP1, hK1, hD1⟩ := hB
                    rw [ht] at hP1
                    have hP : va_P (dC, dI) vwCl (mW g0 pq cp v_78 fa_79) H := hP1
                    have hD : va_D A (mW g0 pq cp v_78 fa_79) := hD1.weaken (fun _ _ _ h => hFc _ h)
                    clear hP1 hK1 hD1 hk1 hz1 hvm ht hFc
                    obtain ⟨hV_80, hA_81, hR_82, hx_83⟩ := w_76
                    dsimp only at hV_80 hA_81 hR_82 hx_83
                    have g_84 : (v_78 59).toInt = (z_52 59).toInt := hx_83
                    have R_85 := scr.tr hRfz_71 hR_82
                    exact cut_57  v_78 fa_79 _ _ ls  hV_80 hA_81 R_85 hP hD hS (by omega) (lv_sub hl [1, 2, 3, 4, 5, 6] rfl)
                  · have dc_70 := c_eq (a := x_69.toInt) (b := 1) rfl (by decide +kernel) c_70
                    refine lv_goto (tgt := 175) hx hb dX11_chooses_147 (by decide +kernel) ?_
                    exact cut_57  z_52 fz_53 _ _ ls  hVz_52 hAz_52 hRz_52 hP hD hS (by omega) (lv_sub hl [1, 2, 3, 4, 5, 6] rfl)
          exact cut_50 13 x_49 v fa _ _ ls (by omega) (by omega) gV gA scr.rf hP hD hS (by omega) (lv_sub hl [0, 1, 2, 3, 4, 5] rfl)
    · have dc_4 := c_eq (a := x1.toInt) (b := x_3.toInt) rfl rfl c_4
      refine lv_aload_n hx hb dX11_chooses_24 rfl (lv_at hl 0 rfl) ?_
      refine lv_iload_n hx hb dX11_chooses_25 rfl (lv_at hl 3 rfl) ?_
      refine va_put (D := (dC, dI)) (ci := 11) (v := .int x3) (ty := .int) (C := RX11) (T := TX11) (N := 63) hx hb hts in_wsX11_chooses_X11 tyX11 tyX11_ok nmX11 hown hK hP hD hS 0 rfl rfl 60 (by decide +kernel) (hts (.fieldLink RX11 338 "ShipOfficeModel" "least" "I") iw_X11_chooses_1) (fun _ h9 => h9) rfl (by decide +kernel) rfl rfl (Nat.le_of_ble_eq_true rfl) dX11_chooses_26 (fun H locs hP hD hS => ?_)
      have hP : va_P (dC, dI) vwCl (mW g0 pq cp (upd v 60 x3) fa) H := hP
      have hD : va_D A (mW g0 pq cp (upd v 60 x3) fa) := hD
      obtain ⟨z_86, ez_86⟩ : ∃ zq, zq = (upd v 60 x3) := ⟨_, rfl⟩
      rw [← ez_86] at hP hD
      have hVz_86 : mV z_86 := by rw [ez_86]; exact mV_upd (lo := -2147483648) (hi := 2147483647) gV rfl rfl (iv_all _)
      have hRz_86 : scr v fa z_86 fa := by rw [ez_86]; exact scr.up scr.rf rfl
      have g_87 : (z_86 59).toInt = (v 59).toInt := by rw [ez_86]; exact congrArg Int32.toInt (if_neg (by decide +kernel))
      refine lv_iconst (v := 0) hx hb dX11_chooses_29 (by decide +kernel) ?_
      refine lv_istore (lv' := [(4, .int 0), (0, .ref g0), (1, .int x1), (2, .int x2), (3, .int x3)]) hx hb dX11_chooses_30 hl (by decide +kernel) rfl (fun ls hl => ?_)
      have cut_88 : ∀ (n : Nat) (y_89 : Int32) (z_90 : Nat → Int32) (fz_91 : Nat → Nat → Int32) (H : Heap) (locs : List Loc) (ls : Array Slot), 8 - y_89.toInt ≤ (n : Int) → (0 ≤ y_89.toInt ∧ y_89.toInt ≤ 8) → mV z_90 → mA fz_91 → scr v fa z_90 fz_91 → va_P (dC, dI) vwCl (mW g0 pq cp z_90 fz_91) H → va_D A (mW g0 pq cp z_90 fz_91) → va_S A s.heap H locs → (z_90 59).toInt = (z_86 59).toInt → lv_has ls 7 [(4, .int y_89), (0, .ref g0), (1, .int x1), (2, .int x2), (3, .int x3)] → W p l e (headSpec wsX11_chooses { frames := 4, cells := 0, slots := 0, locals := 104 }).room s m #[Value.ref g0, Value.int x1, Value.int x2, Value.int x3] below meth c H locs 0 0 (MQ below (va_Qv (fun (u : (Nat → Int32) × (Nat → Nat → Int32)) => mV u.1 ∧ mA u.2 ∧ scr v fa u.1 u.2 ∧ ((u.1 59).toInt = (v 59).toInt)) (fun u t => va_P (dC, dI) vwCl (mW g0 pq cp u.1 u.2) t.heap ∧ va_K (dC, dI) vwCl (mT cp) t ∧ va_D A (mW g0 pq cp u.1 u.2)) A) #[Value.ref g0, Value.int x1, Value.int x2, Value.int x3] s 0 0 A) (F0 m 32 ls []) := by
        intro n
        induction n using Nat.strongRecOn with
        | ind n ih =>
          intro y_89 z_90 fz_91 H locs ls hm hy_89 hVz_90 hAz_90 hRz_90 hP hD hS g_92 hl
          refine lv_iload hx hb dX11_chooses_32 (lv_at hl 0 rfl) ?_
          refine lv_iload_n hx hb dX11_chooses_34 rfl (lv_at hl 2 rfl) ?_
          refine lv_icmp_ge (tgt := 58) hx hb dX11_chooses_35 (by decide +kernel) (fun c_93 => ?_) (fun c_93 => ?_)
          · have dc_93 := c_le (a := x1.toInt) (b := y_89.toInt) rfl rfl c_93
            exact W.vret hx hb hr (fun t ht hW => ⟨⟨(z_90, fz_91), rfl, ⟨hVz_90, hAz_90, hRz_90, (by dsimp only; omega)⟩, ⟨by rw [ht]; exact hP, va_K.moved hW.alike hK, hD⟩⟩, hS.F ht⟩) hS.2.2 dX11_chooses_58
          · have dc_93 := c_nle (a := x1.toInt) (b := y_89.toInt) rfl rfl c_93
            refine lv_aload_n hx hb dX11_chooses_38 rfl (lv_at hl 1 rfl) ?_
            refine va_get (D := (dC, dI)) (ci := 11) (v := .ref (pq 57)) (C := RX11) (T := TX11) (N := 63) hx hb hts in_wsX11_chooses_X11 hown hK hP 0 rfl rfl 57 (by decide +kernel) (hts (.fieldLink RX11 146 "ShipOfficeModel" "best" "[I") iw_X11_chooses_3) (fun _ h9 => h9) rfl dX11_chooses_39 ?_
            refine lv_iload hx hb dX11_chooses_42 (lv_at hl 0 rfl) ?_
            refine lv_aload_n hx hb dX11_chooses_44 rfl (lv_at hl 1 rfl) ?_
            refine va_get (D := (dC, dI)) (ci := 11) (v := .ref (pq 56)) (C := RX11) (T := TX11) (N := 63) hx hb hts in_wsX11_chooses_X11 hown hK hP 0 rfl rfl 56 (by decide +kernel) (hts (.fieldLink RX11 143 "ShipOfficeModel" "hand" "[I") iw_X11_chooses_4) (fun _ h9 => h9) rfl dX11_chooses_45 ?_
            refine lv_iload hx hb dX11_chooses_48 (lv_at hl 0 rfl) ?_
            refine va_iald hx hb hK hP 45 44 rfl rfl (vp_in_iff.mpr (by omega)) dX11_chooses_50 ?_
            refine lv_topi (fun x_94 ex_94 => ?_)
            have hx_94 : 0 ≤ x_94.toInt ∧ x_94.toInt ≤ 11 := iv_of ex_94 (hAz_90 56 _)
            clear ex_94
            refine va_iast hx hb hK hP hD hS 46 45 rfl rfl (vp_in_iff.mpr (by omega)) dX11_chooses_51 (fun H locs hP hD hS => ?_)
            have hP : va_P (dC, dI) vwCl (mW g0 pq cp z_90 (upF fz_91 57 (y_89 : Int32).toNatClampNeg x_94)) H := hP
            have hD : va_D A (mW g0 pq cp z_90 (upF fz_91 57 (y_89 : Int32).toNatClampNeg x_94)) := hD
            obtain ⟨fz_95, efz_95⟩ : ∃ zq, zq = (upF fz_91 57 (y_89 : Int32).toNatClampNeg x_94) := ⟨_, rfl⟩
            rw [← efz_95] at hP hD
            have hAfz_95 : mA fz_95 := by rw [efz_95]; exact mA_upF (lo := 0) (hi := 11) hAz_90 rfl rfl (by omega)
            have hRfz_95 : scr v fa z_90 fz_95 := by rw [efz_95]; exact scr.uF hRz_90 rfl
            obtain ⟨x_96, ex_96⟩ : ∃ zq : Int32, y_89 + 1 = zq := ⟨_, rfl⟩
            have hx_96 : x_96.toInt = y_89.toInt + 1 := (iv_to ex_96).symm.trans (ad_i rfl (by decide +kernel) (by omega) (by omega))
            refine lv_iinc (v := x_96) (lv' := [(4, .int x_96), (0, .ref g0), (1, .int x1), (2, .int x2), (3, .int x3)]) hx hb dX11_chooses_52 hl (k := 0) rfl ex_96 (by decide +kernel) rfl (fun ls hl => ?_)
            clear ex_96
            refine lv_goto (tgt := 32) hx hb dX11_chooses_55 (by decide +kernel) ?_
            exact ih (n - 1) (by omega) x_96 z_90 fz_95 _ _ ls (by omega) (by omega) hVz_90 hAfz_95 hRfz_95 hP hD hS (by omega) (lv_sub hl [0, 1, 2, 3, 4] rfl)
      have kc_97 : (0 : Int32).toInt = 0 := by decide
      exact cut_88 9 0 z_86 fa _ _ ls (by omega) (by decide +kernel) hVz_86 gA hRz_86 hP hD hS (by omega) (lv_sub hl [0, 1, 2, 3, 4] rfl)
  · have dc_2 := c_nlt (a := x_1.toInt) (b := 0) rfl (by decide +kernel) c_2
    refine lv_iload_n hx hb dX11_chooses_7 rfl (lv_at hl 3 rfl) ?_
    refine lv_aload_n hx hb dX11_chooses_8 rfl (lv_at hl 0 rfl) ?_
    refine va_get (D := (dC, dI)) (ci := 11) (v := .int (v 60)) (C := RX11) (T := TX11) (N := 63) hx hb hts in_wsX11_chooses_X11 hown hK hP 0 rfl rfl 60 (by decide +kernel) (hts (.fieldLink RX11 338 "ShipOfficeModel" "least" "I") iw_X11_chooses_1) (fun _ h9 => h9) rfl dX11_chooses_9 ?_
    refine lv_topi (fun x_98 ex_98 => ?_)
    clear ex_98
    refine lv_icmp_lt (tgt := 16) hx hb dX11_chooses_12 (by decide +kernel) (fun c_99 => ?_) (fun c_99 => ?_)
    · have dc_99 := c_lt (a := x3.toInt) (b := x_98.toInt) rfl rfl c_99
      refine lv_iload_n hx hb dX11_chooses_16 rfl (lv_at hl 1 rfl) ?_
      refine lv_aload_n hx hb dX11_chooses_17 rfl (lv_at hl 0 rfl) ?_
      refine va_get (D := (dC, dI)) (ci := 11) (v := .int (v 59)) (C := RX11) (T := TX11) (N := 63) hx hb hts in_wsX11_chooses_X11 hown hK hP 0 rfl rfl 59 (by decide +kernel) (hts (.fieldLink RX11 341 "ShipOfficeModel" "hands" "I") iw_X11_chooses_2) (fun _ h9 => h9) rfl dX11_chooses_18 ?_
      refine lv_topi (fun x_100 ex_100 => ?_)
      have hx_100 : 0 ≤ x_100.toInt ∧ x_100.toInt ≤ 8 := iv_of ex_100 (gV 59)
      have gx_100 : x_100.toInt = (v 59).toInt := iv_to ex_100
      clear ex_100
      refine lv_icmp_ne (tgt := 59) hx hb dX11_chooses_21 (by decide +kernel) (fun c_101 => ?_) (fun c_101 => ?_)
      · have dc_101 := c_ne (a := x1.toInt) (b := x_100.toInt) rfl rfl c_101
        refine lv_iload_n hx hb dX11_chooses_59 rfl (lv_at hl 1 rfl) ?_
        refine lv_if_le (tgt := 93) hx hb dX11_chooses_60 (by decide +kernel) (fun c_102 => ?_) (fun c_102 => ?_)
        · have dc_102 := c_le (a := x1.toInt) (b := 0) rfl (by decide +kernel) c_102
          exfalso; omega
        · have dc_102 := c_nle (a := x1.toInt) (b := 0) rfl (by decide +kernel) c_102
          refine lv_aload_n hx hb dX11_chooses_63 rfl (lv_at hl 0 rfl) ?_
          refine va_get (D := (dC, dI)) (ci := 11) (v := .ref (pq 55)) (C := RX11) (T := TX11) (N := 63) hx hb hts in_wsX11_chooses_X11 hown hK hP 0 rfl rfl 55 (by decide +kernel) (hts (.fieldLink RX11 140 "ShipOfficeModel" "handRank" "[I") iw_X11_chooses_5) (fun _ h9 => h9) rfl dX11_chooses_64 ?_
          refine lv_iload_n hx hb dX11_chooses_67 rfl (lv_at hl 1 rfl) ?_
          refine lv_iconst (v := 1) hx hb dX11_chooses_68 (by decide +kernel) ?_
          refine lv_isub hx hb dX11_chooses_69 ?_
          refine lv_topi (fun x_103 ex_103 => ?_)
          have hx_103 : x_103.toInt = x1.toInt - 1 := (iv_to ex_103).trans (sb_i rfl (by decide +kernel) (by omega) (by omega))
          clear ex_103
          refine va_iald hx hb hK hP 44 43 rfl rfl (vp_in_iff.mpr (by omega)) dX11_chooses_70 ?_
          refine lv_topi (fun x_104 ex_104 => ?_)
          have hx_104 : 0 ≤ x_104.toInt ∧ x_104.toInt ≤ 3 := iv_of ex_104 (gA 55 _)
          clear ex_104
          refine lv_aload_n hx hb dX11_chooses_71 rfl (lv_at hl 0 rfl) ?_
          refine va_get (D := (dC, dI)) (ci := 11) (v := .ref (pq 55)) (C := RX11) (T := TX11) (N := 63) hx hb hts in_wsX11_chooses_X11 hown hK hP 0 rfl rfl 55 (by decide +kernel) (hts (.fieldLink RX11 140 "ShipOfficeModel" "handRank" "[I") iw_X11_chooses_5) (fun _ h9 => h9) rfl dX11_chooses_72 ?_
          refine lv_iload_n hx hb dX11_chooses_75 rfl (lv_at hl 1 rfl) ?_
          refine va_iald hx hb hK hP 44 43 rfl rfl (vp_in_iff.mpr (by omega)) dX11_chooses_76 ?_
          refine lv_topi (fun x_105 ex_105 => ?_)
          have hx_105 : 0 ≤ x_105.toInt ∧ x_105.toInt ≤ 3 := iv_of ex_105 (gA 55 _)
          clear ex_105
          refine lv_icmp_ne (tgt := 93) hx hb dX11_chooses_77 (by decide +kernel) (fun c_106 => ?_) (fun c_106 => ?_)
          · have dc_106 := c_ne (a := x_104.toInt) (b := x_105.toInt) rfl rfl c_106
            refine lv_iconst (v := 0) hx hb dX11_chooses_93 (by decide +kernel) ?_
            refine lv_istore (lv' := [(4, .int 0), (0, .ref g0), (1, .int x1), (2, .int x2), (3, .int x3)]) hx hb dX11_chooses_94 hl (by decide +kernel) rfl (fun ls hl => ?_)
            refine lv_iload hx hb dX11_chooses_96 (lv_at hl 0 rfl) ?_
            refine lv_istore (lv' := [(5, .int 0), (4, .int 0), (0, .ref g0), (1, .int x1), (2, .int x2), (3, .int x3)]) hx hb dX11_chooses_98 hl (by decide +kernel) rfl (fun ls hl => ?_)
            have cut_107 : ∀ (n : Nat) (y_108 : Int32) (z_109 : Nat → Int32) (fz_110 : Nat → Nat → Int32) (H : Heap) (locs : List Loc) (ls : Array Slot), 12 - y_108.toInt ≤ (n : Int) → (0 ≤ y_108.toInt ∧ y_108.toInt ≤ 12) → mV z_109 → mA fz_110 → scr v fa z_109 fz_110 → va_P (dC, dI) vwCl (mW g0 pq cp z_109 fz_110) H → va_D A (mW g0 pq cp z_109 fz_110) → va_S A s.heap H locs → (z_109 59).toInt = (v 59).toInt → lv_has ls 7 [(5, .int y_108), (4, .int 0), (0, .ref g0), (1, .int x1), (2, .int x2), (3, .int x3)] → W p l e (headSpec wsX11_chooses { frames := 4, cells := 0, slots := 0, locals := 104 }).room s m #[Value.ref g0, Value.int x1, Value.int x2, Value.int x3] below meth c H locs 0 0 (MQ below (va_Qv (fun (u : (Nat → Int32) × (Nat → Nat → Int32)) => mV u.1 ∧ mA u.2 ∧ scr v fa u.1 u.2 ∧ ((u.1 59).toInt = (v 59).toInt)) (fun u t => va_P (dC, dI) vwCl (mW g0 pq cp u.1 u.2) t.heap ∧ va_K (dC, dI) vwCl (mT cp) t ∧ va_D A (mW g0 pq cp u.1 u.2)) A) #[Value.ref g0, Value.int x1, Value.int x2, Value.int x3] s 0 0 A) (F0 m 100 ls []) := by
              intro n
              induction n using Nat.strongRecOn with
              | ind n ih =>
                intro y_108 z_109 fz_110 H locs ls hm hy_108 hVz_109 hAz_109 hRz_109 hP hD hS g_111 hl
                refine lv_iload hx hb dX11_chooses_100 (lv_at hl 0 rfl) ?_
                refine lv_aload_n hx hb dX11_chooses_102 rfl (lv_at hl 2 rfl) ?_
                refine va_get (D := (dC, dI)) (ci := 11) (v := .int (z_109 58)) (C := RX11) (T := TX11) (N := 63) hx hb hts in_wsX11_chooses_X11 hown hK hP 0 rfl rfl 58 (by decide +kernel) (hts (.fieldLink RX11 344 "ShipOfficeModel" "someMany" "I") iw_X11_chooses_6) (fun _ h9 => h9) rfl dX11_chooses_103 ?_
                refine lv_topi (fun x_112 ex_112 => ?_)
                have hx_112 : 0 ≤ x_112.toInt ∧ x_112.toInt ≤ 12 := iv_of ex_112 (hVz_109 58)
                clear ex_112
                refine lv_icmp_ge (tgt := 181) hx hb dX11_chooses_106 (by decide +kernel) (fun c_113 => ?_) (fun c_113 => ?_)
                · have dc_113 := c_le (a := x_112.toInt) (b := y_108.toInt) rfl rfl c_113
                  exact W.vret hx hb hr (fun t ht hW => ⟨⟨(z_109, fz_110), rfl, ⟨hVz_109, hAz_109, hRz_109, (by dsimp only; omega)⟩, ⟨by rw [ht]; exact hP, va_K.moved hW.alike hK, hD⟩⟩, hS.F ht⟩) hS.2.2 dX11_chooses_181
                · have dc_113 := c_nle (a := x_112.toInt) (b := y_108.toInt) rfl rfl c_113
                  have cut_114 : ∀ (z_115 : Nat → Int32) (fz_116 : Nat → Nat → Int32) (H : Heap) (locs : List Loc) (ls : Array Slot), mV z_115 → mA fz_116 → scr v fa z_115 fz_116 → va_P (dC, dI) vwCl (mW g0 pq cp z_115 fz_116) H → va_D A (mW g0 pq cp z_115 fz_116) → va_S A s.heap H locs → (z_115 59).toInt = (z_109 59).toInt → lv_has ls 7 [(5, .int y_108), (4, .int 0), (0, .ref g0), (1, .int x1), (2, .int x2), (3, .int x3)] → W p l e (headSpec wsX11_chooses { frames := 4, cells := 0, slots := 0, locals := 104 }).room s m #[Value.ref g0, Value.int x1, Value.int x2, Value.int x3] below meth c H locs 0 0 (MQ below (va_Qv (fun (u : (Nat → Int32) × (Nat → Nat → Int32)) => mV u.1 ∧ mA u.2 ∧ scr v fa u.1 u.2 ∧ ((u.1 59).toInt = (v 59).toInt)) (fun u t => va_P (dC, dI) vwCl (mW g0 pq cp u.1 u.2) t.heap ∧ va_K (dC, dI) vwCl (mT cp) t ∧ va_D A (mW g0 pq cp u.1 u.2)) A) #[Value.ref g0, Value.int x1, Value.int x2, Value.int x3] s 0 0 A) (F0 m 175 ls []) := by
                    intro  z_115 fz_116 H locs ls hVz_115 hAz_115 hRz_115 hP hD hS g_117 hl
                    obtain ⟨x_118, ex_118⟩ : ∃ zq : Int32, y_108 + 1 = zq := ⟨_, rfl⟩
                    have hx_118 : x_118.toInt = y_108.toInt + 1 := (iv_to ex_118).symm.trans (ad_i rfl (by decide +kernel) (by omega) (by omega))
                    refine lv_iinc (v := x_118) (lv' := [(5, .int x_118), (4, .int 0), (0, .ref g0), (1, .int x1), (2, .int x2), (3, .int x3)]) hx hb dX11_chooses_175 hl (k := 0) rfl ex_118 (by decide +kernel) rfl (fun ls hl => ?_)
                    clear ex_118
                    refine lv_goto (tgt := 100) hx hb dX11_chooses_178 (by decide +kernel) ?_
                    exact ih (n - 1) (by omega) x_118 z_115 fz_116 _ _ ls (by omega) (by omega) hVz_115 hAz_115 hRz_115 hP hD hS (by omega) (lv_sub hl [0, 1, 2, 3, 4, 5] rfl)
                  refine lv_aload_n hx hb dX11_chooses_109 rfl (lv_at hl 2 rfl) ?_
                  refine va_get (D := (dC, dI)) (ci := 11) (v := .ref (pq 5)) (C := RX11) (T := TX11) (N := 63) hx hb hts in_wsX11_chooses_X11 hown hK hP 0 rfl rfl 5 (by decide +kernel) (hts (.fieldLink RX11 25 "ShipOfficeModel" "asks" "[I") iw_X11_chooses_7) (fun _ h9 => h9) rfl dX11_chooses_110 ?_
                  refine lv_iconst (v := 4) hx hb dX11_chooses_113 (by decide +kernel) ?_
                  refine lv_aload_n hx hb dX11_chooses_114 rfl (lv_at hl 2 rfl) ?_
                  refine va_get (D := (dC, dI)) (ci := 11) (v := .ref (pq 54)) (C := RX11) (T := TX11) (N := 63) hx hb hts in_wsX11_chooses_X11 hown hK hP 0 rfl rfl 54 (by decide +kernel) (hts (.fieldLink RX11 137 "ShipOfficeModel" "some" "[I") iw_X11_chooses_8) (fun _ h9 => h9) rfl dX11_chooses_115 ?_
                  refine lv_iload hx hb dX11_chooses_118 (lv_at hl 0 rfl) ?_
                  refine va_iald hx hb hK hP 43 42 rfl rfl (vp_in_iff.mpr (by omega)) dX11_chooses_120 ?_
                  refine lv_topi (fun x_119 ex_119 => ?_)
                  have hx_119 : 0 ≤ x_119.toInt ∧ x_119.toInt ≤ 39 := iv_of ex_119 (hAz_109 54 _)
                  clear ex_119
                  refine lv_imul hx hb dX11_chooses_121 ?_
                  refine lv_topi (fun x_120 ex_120 => ?_)
                  have hx_120 : x_120.toInt = 4 * x_119.toInt := (iv_to ex_120).trans (mu_i (by decide +kernel) rfl (by omega) (by omega))
                  clear ex_120
                  refine lv_aload_n hx hb dX11_chooses_122 rfl (lv_at hl 2 rfl) ?_
                  refine va_get (D := (dC, dI)) (ci := 11) (v := .ref (pq 55)) (C := RX11) (T := TX11) (N := 63) hx hb hts in_wsX11_chooses_X11 hown hK hP 0 rfl rfl 55 (by decide +kernel) (hts (.fieldLink RX11 140 "ShipOfficeModel" "handRank" "[I") iw_X11_chooses_5) (fun _ h9 => h9) rfl dX11_chooses_123 ?_
                  refine lv_iload_n hx hb dX11_chooses_126 rfl (lv_at hl 3 rfl) ?_
                  refine va_iald hx hb hK hP 44 43 rfl rfl (vp_in_iff.mpr (by omega)) dX11_chooses_127 ?_
                  refine lv_topi (fun x_121 ex_121 => ?_)
                  have hx_121 : 0 ≤ x_121.toInt ∧ x_121.toInt ≤ 3 := iv_of ex_121 (hAz_109 55 _)
                  clear ex_121
                  refine lv_iadd hx hb dX11_chooses_128 ?_
                  refine lv_topi (fun x_122 ex_122 => ?_)
                  have hx_122 : x_122.toInt = x_120.toInt + x_121.toInt := (iv_to ex_122).trans (ad_i rfl rfl (by omega) (by omega))
                  clear ex_122
                  refine va_iald hx hb hK hP 6 5 rfl rfl (vp_in_iff.mpr (by omega)) dX11_chooses_129 ?_
                  refine lv_topi (fun x_123 ex_123 => ?_)
                  clear ex_123
                  refine lv_istore (lv' := [(6, .int x_123), (5, .int y_108), (4, .int 0), (0, .ref g0), (1, .int x1), (2, .int x2), (3, .int x3)]) hx hb dX11_chooses_130 hl (by decide +kernel) rfl (fun ls hl => ?_)
                  refine lv_iload hx hb dX11_chooses_132 (lv_at hl 0 rfl) ?_
                  refine lv_if_eq (tgt := 175) hx hb dX11_chooses_134 (by decide +kernel) (fun c_124 => ?_) (fun c_124 => ?_)
                  · have dc_124 := c_eq (a := x_123.toInt) (b := 0) rfl (by decide +kernel) c_124
                    exact cut_114  z_109 fz_110 _ _ ls  hVz_109 hAz_109 hRz_109 hP hD hS (by omega) (lv_sub hl [1, 2, 3, 4, 5, 6] rfl)
                  · have dc_124 := c_ne (a := x_123.toInt) (b := 0) rfl (by decide +kernel) c_124
                    refine lv_iload_n hx hb dX11_chooses_137 rfl (lv_at hl 5 rfl) ?_
                    refine lv_iload hx hb dX11_chooses_138 (lv_at hl 1 rfl) ?_
                    refine lv_ishr hx hb dX11_chooses_140 ?_
                    refine lv_topi (fun x_125 ex_125 => ?_)
                    clear ex_125
                    refine lv_iconst (v := 1) hx hb dX11_chooses_141 (by decide +kernel) ?_
                    refine lv_iand hx hb dX11_chooses_142 ?_
                    refine lv_topi (fun x_126 ex_126 => ?_)
                    clear ex_126
                    refine lv_iconst (v := 1) hx hb dX11_chooses_143 (by decide +kernel) ?_
                    refine lv_icmp_ne (tgt := 150) hx hb dX11_chooses_144 (by decide +kernel) (fun c_127 => ?_) (fun c_127 => ?_)
                    · have dc_127 := c_ne (a := x_126.toInt) (b := 1) rfl (by decide +kernel) c_127
                      refine lv_aload_n hx hb dX11_chooses_150 rfl (lv_at hl 3 rfl) ?_
                      refine va_get (D := (dC, dI)) (ci := 11) (v := .ref (pq 56)) (C := RX11) (T := TX11) (N := 63) hx hb hts in_wsX11_chooses_X11 hown hK hP 0 rfl rfl 56 (by decide +kernel) (hts (.fieldLink RX11 143 "ShipOfficeModel" "hand" "[I") iw_X11_chooses_4) (fun _ h9 => h9) rfl dX11_chooses_151 ?_
                      refine lv_iload_n hx hb dX11_chooses_154 rfl (lv_at hl 4 rfl) ?_
                      refine lv_iload hx hb dX11_chooses_155 (lv_at hl 1 rfl) ?_
                      refine va_iast hx hb hK hP hD hS 45 44 rfl rfl (vp_in_iff.mpr (by omega)) dX11_chooses_157 (fun H locs hP hD hS => ?_)
                      have hP : va_P (dC, dI) vwCl (mW g0 pq cp z_109 (upF fz_110 56 (x1 : Int32).toNatClampNeg y_108)) H := hP
                      have hD : va_D A (mW g0 pq cp z_109 (upF fz_110 56 (x1 : Int32).toNatClampNeg y_108)) := hD
                      obtain ⟨fz_128, efz_128⟩ : ∃ zq, zq = (upF fz_110 56 (x1 : Int32).toNatClampNeg y_108) := ⟨_, rfl⟩
                      rw [← efz_128] at hP hD
                      have hAfz_128 : mA fz_128 := by rw [efz_128]; exact mA_upF (lo := 0) (hi := 11) hAz_109 rfl rfl (by omega)
                      have hRfz_128 : scr v fa z_109 fz_128 := by rw [efz_128]; exact scr.uF hRz_109 rfl
                      refine lv_aload_n hx hb dX11_chooses_158 rfl (lv_at hl 3 rfl) ?_
                      refine lv_iload_n hx hb dX11_chooses_159 rfl (lv_at hl 4 rfl) ?_
                      refine lv_iconst (v := 1) hx hb dX11_chooses_160 (by decide +kernel) ?_
                      refine lv_iadd hx hb dX11_chooses_161 ?_
                      refine lv_topi (fun x_129 ex_129 => ?_)
                      have hx_129 : x_129.toInt = x1.toInt + 1 := (iv_to ex_129).trans (ad_i rfl (by decide +kernel) (by omega) (by omega))
                      clear ex_129
                      refine lv_iload_n hx hb dX11_chooses_162 rfl (lv_at hl 5 rfl) ?_
                      refine lv_iconst (v := 1) hx hb dX11_chooses_163 (by decide +kernel) ?_
                      refine lv_iload hx hb dX11_chooses_164 (lv_at hl 1 rfl) ?_
                      refine lv_ishl hx hb dX11_chooses_166 ?_
                      refine lv_topi (fun x_130 ex_130 => ?_)
                      clear ex_130
                      refine lv_ior hx hb dX11_chooses_167 ?_
                      refine lv_topi (fun x_131 ex_131 => ?_)
                      clear ex_131
                      refine lv_iload_n hx hb dX11_chooses_168 rfl (lv_at hl 6 rfl) ?_
                      refine lv_iload hx hb dX11_chooses_169 (lv_at hl 0 rfl) ?_
                      refine lv_iadd hx hb dX11_chooses_171 ?_
                      refine lv_topi (fun x_132 ex_132 => ?_)
                      clear ex_132
                      have hFc := va_free (wc := (mW g0 pq cp z_109 fz_128)) hD hS hA (List.range 48) rfl
                      refine va_callv (va_runV (As := [.int x_129, .int x_131, .int x_132]) (rest := []) ⟨hx, hb, hml, hown, hts⟩ (c_X11_chooses_5 l dC dI H.size g0 pq cp z_109 fz_128 hVz_109 hAfz_128 x_129 (by omega) x_131 x_132 (by omega)) (cwV 3 hts gX11_chooses_X11_chooses rfl rfl rfl (by decide +kernel) ⟨(Nat.le_of_ble_eq_true rfl), (Nat.le_of_ble_eq_true rfl)⟩) (pr_V (r := (RX11, TX11, 63)) hP hK hD 0 11 rfl rfl) rfl rfl hl.1 rfl (lv_room (Nat.le_of_ble_eq_true rfl)) dX11_chooses_172 ⟨(Nat.le_of_ble_eq_true rfl), (Nat.le_of_ble_eq_true rfl)⟩) hS (fun q _ h => hFc q h) hFc (fun u t H locs ht hvm w_133 hB hz1 hk1 hS => ?_)
                      obtain ⟨v_135, fa_136⟩ := u
                      obtain ⟨hP1, hK1, hD1⟩ := hB
                      rw [ht] at hP1
                      have hP : va_P (dC, dI) vwCl (mW g0 pq cp v_135 fa_136) H := hP1
                      have hD : va_D A (mW g0 pq cp v_135 fa_136) := hD1.weaken (fun _ _ _ h => hFc _ h)
                      clear hP1 hK1 hD1 hk1 hz1 hvm ht hFc
                      obtain ⟨hV_137, hA_138, hR_139, hx_140⟩ := w_133
                      dsimp only at hV_137 hA_138 hR_139 hx_140
                      have g_141 : (v_135 59).toInt = (z_109 59).toInt := hx_140
                      have R_142 := scr.tr hRfz_128 hR_139
                      exact cut_114  v_135 fa_136 _ _ ls  hV_137 hA_138 R_142 hP hD hS (by omega) (lv_sub hl [1, 2, 3, 4, 5, 6] rfl)
                    · have dc_127 := c_eq (a := x_126.toInt) (b := 1) rfl (by decide +kernel) c_127
                      refine lv_goto (tgt := 175) hx hb dX11_chooses_147 (by decide +kernel) ?_
                      exact cut_114  z_109 fz_110 _ _ ls  hVz_109 hAz_109 hRz_109 hP hD hS (by omega) (lv_sub hl [1, 2, 3, 4, 5, 6] rfl)
            have kc_143 : (0 : Int32).toInt = 0 := by decide
            exact cut_107 13 0 v fa _ _ ls (by omega) (by decide +kernel) gV gA scr.rf hP hD hS (by omega) (lv_sub hl [0, 1, 2, 3, 4, 5] rfl)
          · have dc_106 := c_eq (a := x_104.toInt) (b := x_105.toInt) rfl rfl c_106
            refine lv_aload_n hx hb dX11_chooses_80 rfl (lv_at hl 0 rfl) ?_
            refine va_get (D := (dC, dI)) (ci := 11) (v := .ref (pq 56)) (C := RX11) (T := TX11) (N := 63) hx hb hts in_wsX11_chooses_X11 hown hK hP 0 rfl rfl 56 (by decide +kernel) (hts (.fieldLink RX11 143 "ShipOfficeModel" "hand" "[I") iw_X11_chooses_4) (fun _ h9 => h9) rfl dX11_chooses_81 ?_
            refine lv_iload_n hx hb dX11_chooses_84 rfl (lv_at hl 1 rfl) ?_
            refine lv_iconst (v := 1) hx hb dX11_chooses_85 (by decide +kernel) ?_
            refine lv_isub hx hb dX11_chooses_86 ?_
            refine lv_topi (fun x_144 ex_144 => ?_)
            have hx_144 : x_144.toInt = x1.toInt - 1 := (iv_to ex_144).trans (sb_i rfl (by decide +kernel) (by omega) (by omega))
            clear ex_144
            refine va_iald hx hb hK hP 45 44 rfl rfl (vp_in_iff.mpr (by omega)) dX11_chooses_87 ?_
            refine lv_topi (fun x_145 ex_145 => ?_)
            have hx_145 : 0 ≤ x_145.toInt ∧ x_145.toInt ≤ 11 := iv_of ex_145 (gA 56 _)
            clear ex_145
            refine lv_iconst (v := 1) hx hb dX11_chooses_88 (by decide +kernel) ?_
            refine lv_iadd hx hb dX11_chooses_89 ?_
            refine lv_topi (fun x_146 ex_146 => ?_)
            have hx_146 : x_146.toInt = x_145.toInt + 1 := (iv_to ex_146).trans (ad_i rfl (by decide +kernel) (by omega) (by omega))
            clear ex_146
            refine lv_goto (tgt := 94) hx hb dX11_chooses_90 (by decide +kernel) ?_
            refine lv_istore (lv' := [(4, .int x_146), (0, .ref g0), (1, .int x1), (2, .int x2), (3, .int x3)]) hx hb dX11_chooses_94 hl (by decide +kernel) rfl (fun ls hl => ?_)
            refine lv_iload hx hb dX11_chooses_96 (lv_at hl 0 rfl) ?_
            refine lv_istore (lv' := [(5, .int x_146), (4, .int x_146), (0, .ref g0), (1, .int x1), (2, .int x2), (3, .int x3)]) hx hb dX11_chooses_98 hl (by decide +kernel) rfl (fun ls hl => ?_)
            have cut_147 : ∀ (n : Nat) (y_148 : Int32) (z_149 : Nat → Int32) (fz_150 : Nat → Nat → Int32) (H : Heap) (locs : List Loc) (ls : Array Slot), 12 - y_148.toInt ≤ (n : Int) → (0 ≤ y_148.toInt ∧ y_148.toInt ≤ 12) → mV z_149 → mA fz_150 → scr v fa z_149 fz_150 → va_P (dC, dI) vwCl (mW g0 pq cp z_149 fz_150) H → va_D A (mW g0 pq cp z_149 fz_150) → va_S A s.heap H locs → (z_149 59).toInt = (v 59).toInt → lv_has ls 7 [(5, .int y_148), (4, .int x_146), (0, .ref g0), (1, .int x1), (2, .int x2), (3, .int x3)] → W p l e (headSpec wsX11_chooses { frames := 4, cells := 0, slots := 0, locals := 104 }).room s m #[Value.ref g0, Value.int x1, Value.int x2, Value.int x3] below meth c H locs 0 0 (MQ below (va_Qv (fun (u : (Nat → Int32) × (Nat → Nat → Int32)) => mV u.1 ∧ mA u.2 ∧ scr v fa u.1 u.2 ∧ ((u.1 59).toInt = (v 59).toInt)) (fun u t => va_P (dC, dI) vwCl (mW g0 pq cp u.1 u.2) t.heap ∧ va_K (dC, dI) vwCl (mT cp) t ∧ va_D A (mW g0 pq cp u.1 u.2)) A) #[Value.ref g0, Value.int x1, Value.int x2, Value.int x3] s 0 0 A) (F0 m 100 ls []) := by
              intro n
              induction n using Nat.strongRecOn with
              | ind n ih =>
                intro y_148 z_149 fz_150 H locs ls hm hy_148 hVz_149 hAz_149 hRz_149 hP hD hS g_151 hl
                refine lv_iload hx hb dX11_chooses_100 (lv_at hl 0 rfl) ?_
                refine lv_aload_n hx hb dX11_chooses_102 rfl (lv_at hl 2 rfl) ?_
                refine va_get (D := (dC, dI)) (ci := 11) (v := .int (z_149 58)) (C := RX11) (T := TX11) (N := 63) hx hb hts in_wsX11_chooses_X11 hown hK hP 0 rfl rfl 58 (by decide +kernel) (hts (.fieldLink RX11 344 "ShipOfficeModel" "someMany" "I") iw_X11_chooses_6) (fun _ h9 => h9) rfl dX11_chooses_103 ?_
                refine lv_topi (fun x_152 ex_152 => ?_)
                have hx_152 : 0 ≤ x_152.toInt ∧ x_152.toInt ≤ 12 := iv_of ex_152 (hVz_149 58)
                clear ex_152
                refine lv_icmp_ge (tgt := 181) hx hb dX11_chooses_106 (by decide +kernel) (fun c_153 => ?_) (fun c_153 => ?_)
                · have dc_153 := c_le (a := x_152.toInt) (b := y_148.toInt) rfl rfl c_153
                  exact W.vret hx hb hr (fun t ht hW => ⟨⟨(z_149, fz_150), rfl, ⟨hVz_149, hAz_149, hRz_149, (by dsimp only; omega)⟩, ⟨by rw [ht]; exact hP, va_K.moved hW.alike hK, hD⟩⟩, hS.F ht⟩) hS.2.2 dX11_chooses_181
                · have dc_153 := c_nle (a := x_152.toInt) (b := y_148.toInt) rfl rfl c_153
                  have cut_154 : ∀ (z_155 : Nat → Int32) (fz_156 : Nat → Nat → Int32) (H : Heap) (locs : List Loc) (ls : Array Slot), mV z_155 → mA fz_156 → scr v fa z_155 fz_156 → va_P (dC, dI) vwCl (mW g0 pq cp z_155 fz_156) H → va_D A (mW g0 pq cp z_155 fz_156) → va_S A s.heap H locs → (z_155 59).toInt = (z_149 59).toInt → lv_has ls 7 [(5, .int y_148), (4, .int x_146), (0, .ref g0), (1, .int x1), (2, .int x2), (3, .int x3)] → W p l e (headSpec wsX11_chooses { frames := 4, cells := 0, slots := 0, locals := 104 }).room s m #[Value.ref g0, Value.int x1, Value.int x2, Value.int x3] below meth c H locs 0 0 (MQ below (va_Qv (fun (u : (Nat → Int32) × (Nat → Nat → Int32)) => mV u.1 ∧ mA u.2 ∧ scr v fa u.1 u.2 ∧ ((u.1 59).toInt = (v 59).toInt)) (fun u t => va_P (dC, dI) vwCl (mW g0 pq cp u.1 u.2) t.heap ∧ va_K (dC, dI) vwCl (mT cp) t ∧ va_D A (mW g0 pq cp u.1 u.2)) A) #[Value.ref g0, Value.int x1, Value.int x2, Value.int x3] s 0 0 A) (F0 m 175 ls []) := by
                    intro  z_155 fz_156 H locs ls hVz_155 hAz_155 hRz_155 hP hD hS g_157 hl
                    obtain ⟨x_158, ex_158⟩ : ∃ zq : Int32, y_148 + 1 = zq := ⟨_, rfl⟩
                    have hx_158 : x_158.toInt = y_148.toInt + 1 := (iv_to ex_158).symm.trans (ad_i rfl (by decide +kernel) (by omega) (by omega))
                    refine lv_iinc (v := x_158) (lv' := [(5, .int x_158), (4, .int x_146), (0, .ref g0), (1, .int x1), (2, .int x2), (3, .int x3)]) hx hb dX11_chooses_175 hl (k := 0) rfl ex_158 (by decide +kernel) rfl (fun ls hl => ?_)
                    clear ex_158
                    refine lv_goto (tgt := 100) hx hb dX11_chooses_178 (by decide +kernel) ?_
                    exact ih (n - 1) (by omega) x_158 z_155 fz_156 _ _ ls (by omega) (by omega) hVz_155 hAz_155 hRz_155 hP hD hS (by omega) (lv_sub hl [0, 1, 2, 3, 4, 5] rfl)
                  refine lv_aload_n hx hb dX11_chooses_109 rfl (lv_at hl 2 rfl) ?_
                  refine va_get (D := (dC, dI)) (ci := 11) (v := .ref (pq 5)) (C := RX11) (T := TX11) (N := 63) hx hb hts in_wsX11_chooses_X11 hown hK hP 0 rfl rfl 5 (by decide +kernel) (hts (.fieldLink RX11 25 "ShipOfficeModel" "asks" "[I") iw_X11_chooses_7) (fun _ h9 => h9) rfl dX11_chooses_110 ?_
                  refine lv_iconst (v := 4) hx hb dX11_chooses_113 (by decide +kernel) ?_
                  refine lv_aload_n hx hb dX11_chooses_114 rfl (lv_at hl 2 rfl) ?_
                  refine va_get (D := (dC, dI)) (ci := 11) (v := .ref (pq 54)) (C := RX11) (T := TX11) (N := 63) hx hb hts in_wsX11_chooses_X11 hown hK hP 0 rfl rfl 54 (by decide +kernel) (hts (.fieldLink RX11 137 "ShipOfficeModel" "some" "[I") iw_X11_chooses_8) (fun _ h9 => h9) rfl dX11_chooses_115 ?_
                  refine lv_iload hx hb dX11_chooses_118 (lv_at hl 0 rfl) ?_
                  refine va_iald hx hb hK hP 43 42 rfl rfl (vp_in_iff.mpr (by omega)) dX11_chooses_120 ?_
                  refine lv_topi (fun x_159 ex_159 => ?_)
                  have hx_159 : 0 ≤ x_159.toInt ∧ x_159.toInt ≤ 39 := iv_of ex_159 (hAz_149 54 _)
                  clear ex_159
                  refine lv_imul hx hb dX11_chooses_121 ?_
                  refine lv_topi (fun x_160 ex_160 => ?_)
                  have hx_160 : x_160.toInt = 4 * x_159.toInt := (iv_to ex_160).trans (mu_i (by decide +kernel) rfl (by omega) (by omega))
                  clear ex_160
                  refine lv_aload_n hx hb dX11_chooses_122 rfl (lv_at hl 2 rfl) ?_
                  refine va_get (D := (dC, dI)) (ci := 11) (v := .ref (pq 55)) (C := RX11) (T := TX11) (N := 63) hx hb hts in_wsX11_chooses_X11 hown hK hP 0 rfl rfl 55 (by decide +kernel) (hts (.fieldLink RX11 140 "ShipOfficeModel" "handRank" "[I") iw_X11_chooses_5) (fun _ h9 => h9) rfl dX11_chooses_123 ?_
                  refine lv_iload_n hx hb dX11_chooses_126 rfl (lv_at hl 3 rfl) ?_
                  refine va_iald hx hb hK hP 44 43 rfl rfl (vp_in_iff.mpr (by omega)) dX11_chooses_127 ?_
                  refine lv_topi (fun x_161 ex_161 => ?_)
                  have hx_161 : 0 ≤ x_161.toInt ∧ x_161.toInt ≤ 3 := iv_of ex_161 (hAz_149 55 _)
                  clear ex_161
                  refine lv_iadd hx hb dX11_chooses_128 ?_
                  refine lv_topi (fun x_162 ex_162 => ?_)
                  have hx_162 : x_162.toInt = x_160.toInt + x_161.toInt := (iv_to ex_162).trans (ad_i rfl rfl (by omega) (by omega))
                  clear ex_162
                  refine va_iald hx hb hK hP 6 5 rfl rfl (vp_in_iff.mpr (by omega)) dX11_chooses_129 ?_
                  refine lv_topi (fun x_163 ex_163 => ?_)
                  clear ex_163
                  refine lv_istore (lv' := [(6, .int x_163), (5, .int y_148), (4, .int x_146), (0, .ref g0), (1, .int x1), (2, .int x2), (3, .int x3)]) hx hb dX11_chooses_130 hl (by decide +kernel) rfl (fun ls hl => ?_)
                  refine lv_iload hx hb dX11_chooses_132 (lv_at hl 0 rfl) ?_
                  refine lv_if_eq (tgt := 175) hx hb dX11_chooses_134 (by decide +kernel) (fun c_164 => ?_) (fun c_164 => ?_)
                  · have dc_164 := c_eq (a := x_163.toInt) (b := 0) rfl (by decide +kernel) c_164
                    exact cut_154  z_149 fz_150 _ _ ls  hVz_149 hAz_149 hRz_149 hP hD hS (by omega) (lv_sub hl [1, 2, 3, 4, 5, 6] rfl)
                  · have dc_164 := c_ne (a := x_163.toInt) (b := 0) rfl (by decide +kernel) c_164
                    refine lv_iload_n hx hb dX11_chooses_137 rfl (lv_at hl 5 rfl) ?_
                    refine lv_iload hx hb dX11_chooses_138 (lv_at hl 1 rfl) ?_
                    refine lv_ishr hx hb dX11_chooses_140 ?_
                    refine lv_topi (fun x_165 ex_165 => ?_)
                    clear ex_165
                    refine lv_iconst (v := 1) hx hb dX11_chooses_141 (by decide +kernel) ?_
                    refine lv_iand hx hb dX11_chooses_142 ?_
                    refine lv_topi (fun x_166 ex_166 => ?_)
                    clear ex_166
                    refine lv_iconst (v := 1) hx hb dX11_chooses_143 (by decide +kernel) ?_
                    refine lv_icmp_ne (tgt := 150) hx hb dX11_chooses_144 (by decide +kernel) (fun c_167 => ?_) (fun c_167 => ?_)
                    · have dc_167 := c_ne (a := x_166.toInt) (b := 1) rfl (by decide +kernel) c_167
                      refine lv_aload_n hx hb dX11_chooses_150 rfl (lv_at hl 3 rfl) ?_
                      refine va_get (D := (dC, dI)) (ci := 11) (v := .ref (pq 56)) (C := RX11) (T := TX11) (N := 63) hx hb hts in_wsX11_chooses_X11 hown hK hP 0 rfl rfl 56 (by decide +kernel) (hts (.fieldLink RX11 143 "ShipOfficeModel" "hand" "[I") iw_X11_chooses_4) (fun _ h9 => h9) rfl dX11_chooses_151 ?_
                      refine lv_iload_n hx hb dX11_chooses_154 rfl (lv_at hl 4 rfl) ?_
                      refine lv_iload hx hb dX11_chooses_155 (lv_at hl 1 rfl) ?_
                      refine va_iast hx hb hK hP hD hS 45 44 rfl rfl (vp_in_iff.mpr (by omega)) dX11_chooses_157 (fun H locs hP hD hS => ?_)
                      have hP : va_P (dC, dI) vwCl (mW g0 pq cp z_149 (upF fz_150 56 (x1 : Int32).toNatClampNeg y_148)) H := hP
                      have hD : va_D A (mW g0 pq cp z_149 (upF fz_150 56 (x1 : Int32).toNatClampNeg y_148)) := hD
                      obtain ⟨fz_168, efz_168⟩ : ∃ zq, zq = (upF fz_150 56 (x1 : Int32).toNatClampNeg y_148) := ⟨_, rfl⟩
                      rw [← efz_168] at hP hD
                      have hAfz_168 : mA fz_168 := by rw [efz_168]; exact mA_upF (lo := 0) (hi := 11) hAz_149 rfl rfl (by omega)
                      have hRfz_168 : scr v fa z_149 fz_168 := by rw [efz_168]; exact scr.uF hRz_149 rfl
                      refine lv_aload_n hx hb dX11_chooses_158 rfl (lv_at hl 3 rfl) ?_
                      refine lv_iload_n hx hb dX11_chooses_159 rfl (lv_at hl 4 rfl) ?_
                      refine lv_iconst (v := 1) hx hb dX11_chooses_160 (by decide +kernel) ?_
                      refine lv_iadd hx hb dX11_chooses_161 ?_
                      refine lv_topi (fun x_169 ex_169 => ?_)
                      have hx_169 : x_169.toInt = x1.toInt + 1 := (iv_to ex_169).trans (ad_i rfl (by decide +kernel) (by omega) (by omega))
                      clear ex_169
                      refine lv_iload_n hx hb dX11_chooses_162 rfl (lv_at hl 5 rfl) ?_
                      refine lv_iconst (v := 1) hx hb dX11_chooses_163 (by decide +kernel) ?_
                      refine lv_iload hx hb dX11_chooses_164 (lv_at hl 1 rfl) ?_
                      refine lv_ishl hx hb dX11_chooses_166 ?_
                      refine lv_topi (fun x_170 ex_170 => ?_)
                      clear ex_170
                      refine lv_ior hx hb dX11_chooses_167 ?_
                      refine lv_topi (fun x_171 ex_171 => ?_)
                      clear ex_171
                      refine lv_iload_n hx hb dX11_chooses_168 rfl (lv_at hl 6 rfl) ?_
                      refine lv_iload hx hb dX11_chooses_169 (lv_at hl 0 rfl) ?_
                      refine lv_iadd hx hb dX11_chooses_171 ?_
                      refine lv_topi (fun x_172 ex_172 => ?_)
                      clear ex_172
                      have hFc := va_free (wc := (mW g0 pq cp z_149 fz_168)) hD hS hA (List.range 48) rfl
                      refine va_callv (va_runV (As := [.int x_169, .int x_171, .int x_172]) (rest := []) ⟨hx, hb, hml, hown, hts⟩ (c_X11_chooses_5 l dC dI H.size g0 pq cp z_149 fz_168 hVz_149 hAfz_168 x_169 (by omega) x_171 x_172 (by omega)) (cwV 3 hts gX11_chooses_X11_chooses rfl rfl rfl (by decide +kernel) ⟨(Nat.le_of_ble_eq_true rfl), (Nat.le_of_ble_eq_true rfl)⟩) (pr_V (r := (RX11, TX11, 63)) hP hK hD 0 11 rfl rfl) rfl rfl hl.1 rfl (lv_room (Nat.le_of_ble_eq_true rfl)) dX11_chooses_172 ⟨(Nat.le_of_ble_eq_true rfl), (Nat.le_of_ble_eq_true rfl)⟩) hS (fun q _ h => hFc q h) hFc (fun u t H locs ht hvm w_173 hB hz1 hk1 hS => ?_)
                      obtain ⟨v_175, fa_176⟩ := u
                      obtain ⟨hP1, hK1, hD1⟩ := hB
                      rw [ht] at hP1
                      have hP : va_P (dC, dI) vwCl (mW g0 pq cp v_175 fa_176) H := hP1
                      have hD : va_D A (mW g0 pq cp v_175 fa_176) := hD1.weaken (fun _ _ _ h => hFc _ h)
                      clear hP1 hK1 hD1 hk1 hz1 hvm ht hFc
                      obtain ⟨hV_177, hA_178, hR_179, hx_180⟩ := w_173
                      dsimp only at hV_177 hA_178 hR_179 hx_180
                      have g_181 : (v_175 59).toInt = (z_149 59).toInt := hx_180
                      have R_182 := scr.tr hRfz_168 hR_179
                      exact cut_154  v_175 fa_176 _ _ ls  hV_177 hA_178 R_182 hP hD hS (by omega) (lv_sub hl [1, 2, 3, 4, 5, 6] rfl)
                    · have dc_167 := c_eq (a := x_166.toInt) (b := 1) rfl (by decide +kernel) c_167
                      refine lv_goto (tgt := 175) hx hb dX11_chooses_147 (by decide +kernel) ?_
                      exact cut_154  z_149 fz_150 _ _ ls  hVz_149 hAz_149 hRz_149 hP hD hS (by omega) (lv_sub hl [1, 2, 3, 4, 5, 6] rfl)
            exact cut_147 13 x_146 v fa _ _ ls (by omega) (by omega) gV gA scr.rf hP hD hS (by omega) (lv_sub hl [0, 1, 2, 3, 4, 5] rfl)
      · have dc_101 := c_eq (a := x1.toInt) (b := x_100.toInt) rfl rfl c_101
        refine lv_aload_n hx hb dX11_chooses_24 rfl (lv_at hl 0 rfl) ?_
        refine lv_iload_n hx hb dX11_chooses_25 rfl (lv_at hl 3 rfl) ?_
        refine va_put (D := (dC, dI)) (ci := 11) (v := .int x3) (ty := .int) (C := RX11) (T := TX11) (N := 63) hx hb hts in_wsX11_chooses_X11 tyX11 tyX11_ok nmX11 hown hK hP hD hS 0 rfl rfl 60 (by decide +kernel) (hts (.fieldLink RX11 338 "ShipOfficeModel" "least" "I") iw_X11_chooses_1) (fun _ h9 => h9) rfl (by decide +kernel) rfl rfl (Nat.le_of_ble_eq_true rfl) dX11_chooses_26 (fun H locs hP hD hS => ?_)
        have hP : va_P (dC, dI) vwCl (mW g0 pq cp (upd v 60 x3) fa) H := hP
        have hD : va_D A (mW g0 pq cp (upd v 60 x3) fa) := hD
        obtain ⟨z_183, ez_183⟩ : ∃ zq, zq = (upd v 60 x3) := ⟨_, rfl⟩
        rw [← ez_183] at hP hD
        have hVz_183 : mV z_183 := by rw [ez_183]; exact mV_upd (lo := -2147483648) (hi := 2147483647) gV rfl rfl (iv_all _)
        have hRz_183 : scr v fa z_183 fa := by rw [ez_183]; exact scr.up scr.rf rfl
        have g_184 : (z_183 59).toInt = (v 59).toInt := by rw [ez_183]; exact congrArg Int32.toInt (if_neg (by decide +kernel))
        refine lv_iconst (v := 0) hx hb dX11_chooses_29 (by decide +kernel) ?_
        refine lv_istore (lv' := [(4, .int 0), (0, .ref g0), (1, .int x1), (2, .int x2), (3, .int x3)]) hx hb dX11_chooses_30 hl (by decide +kernel) rfl (fun ls hl => ?_)
        have cut_185 : ∀ (n : Nat) (y_186 : Int32) (z_187 : Nat → Int32) (fz_188 : Nat → Nat → Int32) (H : Heap) (locs : List Loc) (ls : Array Slot), 8 - y_186.toInt ≤ (n : Int) → (0 ≤ y_186.toInt ∧ y_186.toInt ≤ 8) → mV z_187 → mA fz_188 → scr v fa z_187 fz_188 → va_P (dC, dI) vwCl (mW g0 pq cp z_187 fz_188) H → va_D A (mW g0 pq cp z_187 fz_188) → va_S A s.heap H locs → (z_187 59).toInt = (z_183 59).toInt → lv_has ls 7 [(4, .int y_186), (0, .ref g0), (1, .int x1), (2, .int x2), (3, .int x3)] → W p l e (headSpec wsX11_chooses { frames := 4, cells := 0, slots := 0, locals := 104 }).room s m #[Value.ref g0, Value.int x1, Value.int x2, Value.int x3] below meth c H locs 0 0 (MQ below (va_Qv (fun (u : (Nat → Int32) × (Nat → Nat → Int32)) => mV u.1 ∧ mA u.2 ∧ scr v fa u.1 u.2 ∧ ((u.1 59).toInt = (v 59).toInt)) (fun u t => va_P (dC, dI) vwCl (mW g0 pq cp u.1 u.2) t.heap ∧ va_K (dC, dI) vwCl (mT cp) t ∧ va_D A (mW g0 pq cp u.1 u.2)) A) #[Value.ref g0, Value.int x1, Value.int x2, Value.int x3] s 0 0 A) (F0 m 32 ls []) := by
          intro n
          induction n using Nat.strongRecOn with
          | ind n ih =>
            intro y_186 z_187 fz_188 H locs ls hm hy_186 hVz_187 hAz_187 hRz_187 hP hD hS g_189 hl
            refine lv_iload hx hb dX11_chooses_32 (lv_at hl 0 rfl) ?_
            refine lv_iload_n hx hb dX11_chooses_34 rfl (lv_at hl 2 rfl) ?_
            refine lv_icmp_ge (tgt := 58) hx hb dX11_chooses_35 (by decide +kernel) (fun c_190 => ?_) (fun c_190 => ?_)
            · have dc_190 := c_le (a := x1.toInt) (b := y_186.toInt) rfl rfl c_190
              exact W.vret hx hb hr (fun t ht hW => ⟨⟨(z_187, fz_188), rfl, ⟨hVz_187, hAz_187, hRz_187, (by dsimp only; omega)⟩, ⟨by rw [ht]; exact hP, va_K.moved hW.alike hK, hD⟩⟩, hS.F ht⟩) hS.2.2 dX11_chooses_58
            · have dc_190 := c_nle (a := x1.toInt) (b := y_186.toInt) rfl rfl c_190
              refine lv_aload_n hx hb dX11_chooses_38 rfl (lv_at hl 1 rfl) ?_
              refine va_get (D := (dC, dI)) (ci := 11) (v := .ref (pq 57)) (C := RX11) (T := TX11) (N := 63) hx hb hts in_wsX11_chooses_X11 hown hK hP 0 rfl rfl 57 (by decide +kernel) (hts (.fieldLink RX11 146 "ShipOfficeModel" "best" "[I") iw_X11_chooses_3) (fun _ h9 => h9) rfl dX11_chooses_39 ?_
              refine lv_iload hx hb dX11_chooses_42 (lv_at hl 0 rfl) ?_
              refine lv_aload_n hx hb dX11_chooses_44 rfl (lv_at hl 1 rfl) ?_
              refine va_get (D := (dC, dI)) (ci := 11) (v := .ref (pq 56)) (C := RX11) (T := TX11) (N := 63) hx hb hts in_wsX11_chooses_X11 hown hK hP 0 rfl rfl 56 (by decide +kernel) (hts (.fieldLink RX11 143 "ShipOfficeModel" "hand" "[I") iw_X11_chooses_4) (fun _ h9 => h9) rfl dX11_chooses_45 ?_
              refine lv_iload hx hb dX11_chooses_48 (lv_at hl 0 rfl) ?_
              refine va_iald hx hb hK hP 45 44 rfl rfl (vp_in_iff.mpr (by omega)) dX11_chooses_50 ?_
              refine lv_topi (fun x_191 ex_191 => ?_)
              have hx_191 : 0 ≤ x_191.toInt ∧ x_191.toInt ≤ 11 := iv_of ex_191 (hAz_187 56 _)
              clear ex_191
              refine va_iast hx hb hK hP hD hS 46 45 rfl rfl (vp_in_iff.mpr (by omega)) dX11_chooses_51 (fun H locs hP hD hS => ?_)
              have hP : va_P (dC, dI) vwCl (mW g0 pq cp z_187 (upF fz_188 57 (y_186 : Int32).toNatClampNeg x_191)) H := hP
              have hD : va_D A (mW g0 pq cp z_187 (upF fz_188 57 (y_186 : Int32).toNatClampNeg x_191)) := hD
              obtain ⟨fz_192, efz_192⟩ : ∃ zq, zq = (upF fz_188 57 (y_186 : Int32).toNatClampNeg x_191) := ⟨_, rfl⟩
              rw [← efz_192] at hP hD
              have hAfz_192 : mA fz_192 := by rw [efz_192]; exact mA_upF (lo := 0) (hi := 11) hAz_187 rfl rfl (by omega)
              have hRfz_192 : scr v fa z_187 fz_192 := by rw [efz_192]; exact scr.uF hRz_187 rfl
              obtain ⟨x_193, ex_193⟩ : ∃ zq : Int32, y_186 + 1 = zq := ⟨_, rfl⟩
              have hx_193 : x_193.toInt = y_186.toInt + 1 := (iv_to ex_193).symm.trans (ad_i rfl (by decide +kernel) (by omega) (by omega))
              refine lv_iinc (v := x_193) (lv' := [(4, .int x_193), (0, .ref g0), (1, .int x1), (2, .int x2), (3, .int x3)]) hx hb dX11_chooses_52 hl (k := 0) rfl ex_193 (by decide +kernel) rfl (fun ls hl => ?_)
              clear ex_193
              refine lv_goto (tgt := 32) hx hb dX11_chooses_55 (by decide +kernel) ?_
              exact ih (n - 1) (by omega) x_193 z_187 fz_192 _ _ ls (by omega) (by omega) hVz_187 hAfz_192 hRfz_192 hP hD hS (by omega) (lv_sub hl [0, 1, 2, 3, 4] rfl)
        have kc_194 : (0 : Int32).toInt = 0 := by decide
        exact cut_185 9 0 z_183 fa _ _ ls (by omega) (by decide +kernel) hVz_183 gA hRz_183 hP hD hS (by omega) (lv_sub hl [0, 1, 2, 3, 4] rfl)
    · have dc_99 := c_nlt (a := x3.toInt) (b := x_98.toInt) rfl rfl c_99
      exact W.vret hx hb hr (fun t ht hW => ⟨⟨(v, fa), rfl, ⟨gV, gA, scr.rf, rfl⟩, ⟨by rw [ht]; exact hP, va_K.moved hW.alike hK, hD⟩⟩, hS.F ht⟩) hS.2.2 dX11_chooses_15
set_option maxHeartbeats 4000000 in
set_option maxRecDepth 100000 in
theorem c_X11_chooses_3 (l : Launch) (dC : Nat → ClassId) (dI : Nat → Nat → Nat) (sz : Nat) (g0 : Nat) (pq : Nat → Nat) (cp : Nat → ClassId) (v : Nat → Int32) (fa : Nat → Nat → Int32) (gV : mV v) (gA : mA fa) (x1 : Int32) (hx1 : 3 ≤ x1.toInt ∧ x1.toInt ≤ 3) (x2 : Int32) (x3 : Int32) (hh : x1.toInt ≤ (v 59).toInt) : Met l yX11_chooses wsX11_chooses ({ frames := 5, cells := 0, slots := 0, locals := 130 }) (va_Pc [.ref g0, .int x1, .int x2, .int x3] (pcW (dC, dI) (mT cp) (mW g0 pq cp v fa) sz)) (va_Qv (fun (u : (Nat → Int32) × (Nat → Nat → Int32)) => mV u.1 ∧ mA u.2 ∧ scr v fa u.1 u.2 ∧ ((u.1 59).toInt = (v 59).toInt)) (fun u t => va_P (dC, dI) vwCl (mW g0 pq cp u.1 u.2) t.heap ∧ va_K (dC, dI) vwCl (mT cp) t ∧ va_D (va_A (mW g0 pq cp v fa) sz) (mW g0 pq cp u.1 u.2)) (va_A (mW g0 pq cp v fa) sz)) 0 0 (va_A (mW g0 pq cp v fa) sz) := by
  refine Met.ofW (cc := cX11_chooses) (maxL := 7) (ret := none) (by decide +kernel) rfl ?_
  intro p e s m args below meth c s₁ B hml hv
  obtain ⟨rfl, hsz, hP, hK, hD0⟩ := hv
  have hx := B.exec
  have hb := B.bytes
  have hr := B.returns
  have hts := atoms_spec (ws := wsX11_chooses) B.pre
  have hown : s.vm.findClass RX11 = some m.cls := findClass_of_methodNamed B.named
  have hlocks := B.notSynchronized
  subst hsz
  have hD := hD0.self (sz := s.heap.size)
  generalize hAe : va_A (mW g0 pq cp v fa) s.heap.size = A at hD ⊢
  have hA : ∀ q : Nat, s.heap.size ≤ q → A q := fun q h => by rw [← hAe]; exact Or.inr h
  have hS : va_S A s.heap s.heap [] := va_S.rf
  have hP : va_P (dC, dI) vwCl (mW g0 pq cp v fa) s.heap := hP
  have hl := lv_entry ([.ref g0, .int x1, .int x2, .int x3]) (n := 7) (Nat.le_of_ble_eq_true rfl)
  rw [lg_entry_eq]
  generalize (lg_sl ([.ref g0, .int x1, .int x2, .int x3]) ++ List.replicate (7 - (lg_sl ([.ref g0, .int x1, .int x2, .int x3])).length) Slot.unset).toArray = ls at hl ⊢
  have hl : lv_has ls 7 [(0, .ref g0), (1, .int x1), (2, .int x2), (3, .int x3)] := hl
  refine lv_aload_n hx hb dX11_chooses_0 rfl (lv_at hl 0 rfl) ?_
  refine va_get (D := (dC, dI)) (ci := 11) (v := .int (v 60)) (C := RX11) (T := TX11) (N := 63) hx hb hts in_wsX11_chooses_X11 hown hK hP 0 rfl rfl 60 (by decide +kernel) (hts (.fieldLink RX11 338 "ShipOfficeModel" "least" "I") iw_X11_chooses_1) (fun _ h9 => h9) rfl dX11_chooses_1 ?_
  refine lv_topi (fun x_1 ex_1 => ?_)
  clear ex_1
  refine lv_if_lt (tgt := 16) hx hb dX11_chooses_4 (by decide +kernel) (fun c_2 => ?_) (fun c_2 => ?_)
  · have dc_2 := c_lt (a := x_1.toInt) (b := 0) rfl (by decide +kernel) c_2
    refine lv_iload_n hx hb dX11_chooses_16 rfl (lv_at hl 1 rfl) ?_
    refine lv_aload_n hx hb dX11_chooses_17 rfl (lv_at hl 0 rfl) ?_
    refine va_get (D := (dC, dI)) (ci := 11) (v := .int (v 59)) (C := RX11) (T := TX11) (N := 63) hx hb hts in_wsX11_chooses_X11 hown hK hP 0 rfl rfl 59 (by decide +kernel) (hts (.fieldLink RX11 341 "ShipOfficeModel" "hands" "I") iw_X11_chooses_2) (fun _ h9 => h9) rfl dX11_chooses_18 ?_
    refine lv_topi (fun x_3 ex_3 => ?_)
    have hx_3 : 0 ≤ x_3.toInt ∧ x_3.toInt ≤ 8 := iv_of ex_3 (gV 59)
    have gx_3 : x_3.toInt = (v 59).toInt := iv_to ex_3
    clear ex_3
    refine lv_icmp_ne (tgt := 59) hx hb dX11_chooses_21 (by decide +kernel) (fun c_4 => ?_) (fun c_4 => ?_)
    · have dc_4 := c_ne (a := x1.toInt) (b := x_3.toInt) rfl rfl c_4
      refine lv_iload_n hx hb dX11_chooses_59 rfl (lv_at hl 1 rfl) ?_
      refine lv_if_le (tgt := 93) hx hb dX11_chooses_60 (by decide +kernel) (fun c_5 => ?_) (fun c_5 => ?_)
      · have dc_5 := c_le (a := x1.toInt) (b := 0) rfl (by decide +kernel) c_5
        exfalso; omega
      · have dc_5 := c_nle (a := x1.toInt) (b := 0) rfl (by decide +kernel) c_5
        refine lv_aload_n hx hb dX11_chooses_63 rfl (lv_at hl 0 rfl) ?_
        refine va_get (D := (dC, dI)) (ci := 11) (v := .ref (pq 55)) (C := RX11) (T := TX11) (N := 63) hx hb hts in_wsX11_chooses_X11 hown hK hP 0 rfl rfl 55 (by decide +kernel) (hts (.fieldLink RX11 140 "ShipOfficeModel" "handRank" "[I") iw_X11_chooses_5) (fun _ h9 => h9) rfl dX11_chooses_64 ?_
        refine lv_iload_n hx hb dX11_chooses_67 rfl (lv_at hl 1 rfl) ?_
        refine lv_iconst (v := 1) hx hb dX11_chooses_68 (by decide +kernel) ?_
        refine lv_isub hx hb dX11_chooses_69 ?_
        refine lv_topi (fun x_6 ex_6 => ?_)
        have hx_6 : x_6.toInt = x1.toInt - 1 := (iv_to ex_6).trans (sb_i rfl (by decide +kernel) (by omega) (by omega))
        clear ex_6
        refine va_iald hx hb hK hP 44 43 rfl rfl (vp_in_iff.mpr (by omega)) dX11_chooses_70 ?_
        refine lv_topi (fun x_7 ex_7 => ?_)
        have hx_7 : 0 ≤ x_7.toInt ∧ x_7.toInt ≤ 3 := iv_of ex_7 (gA 55 _)
        clear ex_7
        refine lv_aload_n hx hb dX11_chooses_71 rfl (lv_at hl 0 rfl) ?_
        refine va_get (D := (dC, dI)) (ci := 11) (v := .ref (pq 55)) (C := RX11) (T := TX11) (N := 63) hx hb hts in_wsX11_chooses_X11 hown hK hP 0 rfl rfl 55 (by decide +kernel) (hts (.fieldLink RX11 140 "ShipOfficeModel" "handRank" "[I") iw_X11_chooses_5) (fun _ h9 => h9) rfl dX11_chooses_72 ?_
        refine lv_iload_n hx hb dX11_chooses_75 rfl (lv_at hl 1 rfl) ?_
        refine va_iald hx hb hK hP 44 43 rfl rfl (vp_in_iff.mpr (by omega)) dX11_chooses_76 ?_
        refine lv_topi (fun x_8 ex_8 => ?_)
        have hx_8 : 0 ≤ x_8.toInt ∧ x_8.toInt ≤ 3 := iv_of ex_8 (gA 55 _)
        clear ex_8
        refine lv_icmp_ne (tgt := 93) hx hb dX11_chooses_77 (by decide +kernel) (fun c_9 => ?_) (fun c_9 => ?_)
        · have dc_9 := c_ne (a := x_7.toInt) (b := x_8.toInt) rfl rfl c_9
          refine lv_iconst (v := 0) hx hb dX11_chooses_93 (by decide +kernel) ?_
          refine lv_istore (lv' := [(4, .int 0), (0, .ref g0), (1, .int x1), (2, .int x2), (3, .int x3)]) hx hb dX11_chooses_94 hl (by decide +kernel) rfl (fun ls hl => ?_)
          refine lv_iload hx hb dX11_chooses_96 (lv_at hl 0 rfl) ?_
          refine lv_istore (lv' := [(5, .int 0), (4, .int 0), (0, .ref g0), (1, .int x1), (2, .int x2), (3, .int x3)]) hx hb dX11_chooses_98 hl (by decide +kernel) rfl (fun ls hl => ?_)
          have cut_10 : ∀ (n : Nat) (y_11 : Int32) (z_12 : Nat → Int32) (fz_13 : Nat → Nat → Int32) (H : Heap) (locs : List Loc) (ls : Array Slot), 12 - y_11.toInt ≤ (n : Int) → (0 ≤ y_11.toInt ∧ y_11.toInt ≤ 12) → mV z_12 → mA fz_13 → scr v fa z_12 fz_13 → va_P (dC, dI) vwCl (mW g0 pq cp z_12 fz_13) H → va_D A (mW g0 pq cp z_12 fz_13) → va_S A s.heap H locs → (z_12 59).toInt = (v 59).toInt → lv_has ls 7 [(5, .int y_11), (4, .int 0), (0, .ref g0), (1, .int x1), (2, .int x2), (3, .int x3)] → W p l e (headSpec wsX11_chooses { frames := 5, cells := 0, slots := 0, locals := 130 }).room s m #[Value.ref g0, Value.int x1, Value.int x2, Value.int x3] below meth c H locs 0 0 (MQ below (va_Qv (fun (u : (Nat → Int32) × (Nat → Nat → Int32)) => mV u.1 ∧ mA u.2 ∧ scr v fa u.1 u.2 ∧ ((u.1 59).toInt = (v 59).toInt)) (fun u t => va_P (dC, dI) vwCl (mW g0 pq cp u.1 u.2) t.heap ∧ va_K (dC, dI) vwCl (mT cp) t ∧ va_D A (mW g0 pq cp u.1 u.2)) A) #[Value.ref g0, Value.int x1, Value.int x2, Value.int x3] s 0 0 A) (F0 m 100 ls []) := by
            intro n
            induction n using Nat.strongRecOn with
            | ind n ih =>
              intro y_11 z_12 fz_13 H locs ls hm hy_11 hVz_12 hAz_12 hRz_12 hP hD hS g_14 hl
              refine lv_iload hx hb dX11_chooses_100 (lv_at hl 0 rfl) ?_
              refine lv_aload_n hx hb dX11_chooses_102 rfl (lv_at hl 2 rfl) ?_
              refine va_get (D := (dC, dI)) (ci := 11) (v := .int (z_12 58)) (C := RX11) (T := TX11) (N := 63) hx hb hts in_wsX11_chooses_X11 hown hK hP 0 rfl rfl 58 (by decide +kernel) (hts (.fieldLink RX11 344 "ShipOfficeModel" "someMany" "I") iw_X11_chooses_6) (fun _ h9 => h9) rfl dX11_chooses_103 ?_
              refine lv_topi (fun x_15 ex_15 => ?_)
              have hx_15 : 0 ≤ x_15.toInt ∧ x_15.toInt ≤ 12 := iv_of ex_15 (hVz_12 58)
              clear ex_15
              refine lv_icmp_ge (tgt := 181) hx hb dX11_chooses_106 (by decide +kernel) (fun c_16 => ?_) (fun c_16 => ?_)
              · have dc_16 := c_le (a := x_15.toInt) (b := y_11.toInt) rfl rfl c_16
                exact W.vret hx hb hr (fun t ht hW => ⟨⟨(z_12, fz_13), rfl, ⟨hVz_12, hAz_12, hRz_12, (by dsimp only; omega)⟩, ⟨by rw [ht]; exact hP, va_K.moved hW.alike hK, hD⟩⟩, hS.F ht⟩) hS.2.2 dX11_chooses_181
              · have dc_16 := c_nle (a := x_15.toInt) (b := y_11.toInt) rfl rfl c_16
                have cut_17 : ∀ (z_18 : Nat → Int32) (fz_19 : Nat → Nat → Int32) (H : Heap) (locs : List Loc) (ls : Array Slot), mV z_18 → mA fz_19 → scr v fa z_18 fz_19 → va_P (dC, dI) vwCl (mW g0 pq cp z_18 fz_19) H → va_D A (mW g0 pq cp z_18 fz_19) → va_S A s.heap H locs → (z_18 59).toInt = (z_12 59).toInt → lv_has ls 7 [(5, .int y_11), (4, .int 0), (0, .ref g0), (1, .int x1), (2, .int x2), (3, .int x3)] → W p l e (headSpec wsX11_chooses { frames := 5, cells := 0, slots := 0, locals := 130 }).room s m #[Value.ref g0, Value.int x1, Value.int x2, Value.int x3] below meth c H locs 0 0 (MQ below (va_Qv (fun (u : (Nat → Int32) × (Nat → Nat → Int32)) => mV u.1 ∧ mA u.2 ∧ scr v fa u.1 u.2 ∧ ((u.1 59).toInt = (v 59).toInt)) (fun u t => va_P (dC, dI) vwCl (mW g0 pq cp u.1 u.2) t.heap ∧ va_K (dC, dI) vwCl (mT cp) t ∧ va_D A (mW g0 pq cp u.1 u.2)) A) #[Value.ref g0, Value.int x1, Value.int x2, Value.int x3] s 0 0 A) (F0 m 175 ls []) := by
                  intro  z_18 fz_19 H locs ls hVz_18 hAz_18 hRz_18 hP hD hS g_20 hl
                  obtain ⟨x_21, ex_21⟩ : ∃ zq : Int32, y_11 + 1 = zq := ⟨_, rfl⟩
                  have hx_21 : x_21.toInt = y_11.toInt + 1 := (iv_to ex_21).symm.trans (ad_i rfl (by decide +kernel) (by omega) (by omega))
                  refine lv_iinc (v := x_21) (lv' := [(5, .int x_21), (4, .int 0), (0, .ref g0), (1, .int x1), (2, .int x2), (3, .int x3)]) hx hb dX11_chooses_175 hl (k := 0) rfl ex_21 (by decide +kernel) rfl (fun ls hl => ?_)
                  clear ex_21
                  refine lv_goto (tgt := 100) hx hb dX11_chooses_178 (by decide +kernel) ?_
                  exact ih (n - 1) (by omega) x_21 z_18 fz_19 _ _ ls (by omega) (by omega) hVz_18 hAz_18 hRz_18 hP hD hS (by omega) (lv_sub hl [0, 1, 2, 3, 4, 5] rfl)
                refine lv_aload_n hx hb dX11_chooses_109 rfl (lv_at hl 2 rfl) ?_
                refine va_get (D := (dC, dI)) (ci := 11) (v := .ref (pq 5)) (C := RX11) (T := TX11) (N := 63) hx hb hts in_wsX11_chooses_X11 hown hK hP 0 rfl rfl 5 (by decide +kernel) (hts (.fieldLink RX11 25 "ShipOfficeModel" "asks" "[I") iw_X11_chooses_7) (fun _ h9 => h9) rfl dX11_chooses_110 ?_
                refine lv_iconst (v := 4) hx hb dX11_chooses_113 (by decide +kernel) ?_
                refine lv_aload_n hx hb dX11_chooses_114 rfl (lv_at hl 2 rfl) ?_
                refine va_get (D := (dC, dI)) (ci := 11) (v := .ref (pq 54)) (C := RX11) (T := TX11) (N := 63) hx hb hts in_wsX11_chooses_X11 hown hK hP 0 rfl rfl 54 (by decide +kernel) (hts (.fieldLink RX11 137 "ShipOfficeModel" "some" "[I") iw_X11_chooses_8) (fun _ h9 => h9) rfl dX11_chooses_115 ?_
                refine lv_iload hx hb dX11_chooses_118 (lv_at hl 0 rfl) ?_
                refine va_iald hx hb hK hP 43 42 rfl rfl (vp_in_iff.mpr (by omega)) dX11_chooses_120 ?_
                refine lv_topi (fun x_22 ex_22 => ?_)
                have hx_22 : 0 ≤ x_22.toInt ∧ x_22.toInt ≤ 39 := iv_of ex_22 (hAz_12 54 _)
                clear ex_22
                refine lv_imul hx hb dX11_chooses_121 ?_
                refine lv_topi (fun x_23 ex_23 => ?_)
                have hx_23 : x_23.toInt = 4 * x_22.toInt := (iv_to ex_23).trans (mu_i (by decide +kernel) rfl (by omega) (by omega))
                clear ex_23
                refine lv_aload_n hx hb dX11_chooses_122 rfl (lv_at hl 2 rfl) ?_
                refine va_get (D := (dC, dI)) (ci := 11) (v := .ref (pq 55)) (C := RX11) (T := TX11) (N := 63) hx hb hts in_wsX11_chooses_X11 hown hK hP 0 rfl rfl 55 (by decide +kernel) (hts (.fieldLink RX11 140 "ShipOfficeModel" "handRank" "[I") iw_X11_chooses_5) (fun _ h9 => h9) rfl dX11_chooses_123 ?_
                refine lv_iload_n hx hb dX11_chooses_126 rfl (lv_at hl 3 rfl) ?_
                refine va_iald hx hb hK hP 44 43 rfl rfl (vp_in_iff.mpr (by omega)) dX11_chooses_127 ?_
                refine lv_topi (fun x_24 ex_24 => ?_)
                have hx_24 : 0 ≤ x_24.toInt ∧ x_24.toInt ≤ 3 := iv_of ex_24 (hAz_12 55 _)
                clear ex_24
                refine lv_iadd hx hb dX11_chooses_128 ?_
                refine lv_topi (fun x_25 ex_25 => ?_)
                have hx_25 : x_25.toInt = x_23.toInt + x_24.toInt := (iv_to ex_25).trans (ad_i rfl rfl (by omega) (by omega))
                clear ex_25
                refine va_iald hx hb hK hP 6 5 rfl rfl (vp_in_iff.mpr (by omega)) dX11_chooses_129 ?_
                refine lv_topi (fun x_26 ex_26 => ?_)
                clear ex_26
                refine lv_istore (lv' := [(6, .int x_26), (5, .int y_11), (4, .int 0), (0, .ref g0), (1, .int x1), (2, .int x2), (3, .int x3)]) hx hb dX11_chooses_130 hl (by decide +kernel) rfl (fun ls hl => ?_)
                refine lv_iload hx hb dX11_chooses_132 (lv_at hl 0 rfl) ?_
                refine lv_if_eq (tgt := 175) hx hb dX11_chooses_134 (by decide +kernel) (fun c_27 => ?_) (fun c_27 => ?_)
                · have dc_27 := c_eq (a := x_26.toInt) (b := 0) rfl (by decide +kernel) c_27
                  exact cut_17  z_12 fz_13 _ _ ls  hVz_12 hAz_12 hRz_12 hP hD hS (by omega) (lv_sub hl [1, 2, 3, 4, 5, 6] rfl)
                · have dc_27 := c_ne (a := x_26.toInt) (b := 0) rfl (by decide +kernel) c_27
                  refine lv_iload_n hx hb dX11_chooses_137 rfl (lv_at hl 5 rfl) ?_
                  refine lv_iload hx hb dX11_chooses_138 (lv_at hl 1 rfl) ?_
                  refine lv_ishr hx hb dX11_chooses_140 ?_
                  refine lv_topi (fun x_28 ex_28 => ?_)
                  clear ex_28
                  refine lv_iconst (v := 1) hx hb dX11_chooses_141 (by decide +kernel) ?_
                  refine lv_iand hx hb dX11_chooses_142 ?_
                  refine lv_topi (fun x_29 ex_29 => ?_)
                  clear ex_29
                  refine lv_iconst (v := 1) hx hb dX11_chooses_143 (by decide +kernel) ?_
                  refine lv_icmp_ne (tgt := 150) hx hb dX11_chooses_144 (by decide +kernel) (fun c_30 => ?_) (fun c_30 => ?_)
                  · have dc_30 := c_ne (a := x_29.toInt) (b := 1) rfl (by decide +kernel) c_30
                    refine lv_aload_n hx hb dX11_chooses_150 rfl (lv_at hl 3 rfl) ?_
                    refine va_get (D := (dC, dI)) (ci := 11) (v := .ref (pq 56)) (C := RX11) (T := TX11) (N := 63) hx hb hts in_wsX11_chooses_X11 hown hK hP 0 rfl rfl 56 (by decide +kernel) (hts (.fieldLink RX11 143 "ShipOfficeModel" "hand" "[I") iw_X11_chooses_4) (fun _ h9 => h9) rfl dX11_chooses_151 ?_
                    refine lv_iload_n hx hb dX11_chooses_154 rfl (lv_at hl 4 rfl) ?_
                    refine lv_iload hx hb dX11_chooses_155 (lv_at hl 1 rfl) ?_
                    refine va_iast hx hb hK hP hD hS 45 44 rfl rfl (vp_in_iff.mpr (by omega)) dX11_chooses_157 (fun H locs hP hD hS => ?_)
                    have hP : va_P (dC, dI) vwCl (mW g0 pq cp z_12 (upF fz_13 56 (x1 : Int32).toNatClampNeg y_11)) H := hP
                    have hD : va_D A (mW g0 pq cp z_12 (upF fz_13 56 (x1 : Int32).toNatClampNeg y_11)) := hD
                    obtain ⟨fz_31, efz_31⟩ : ∃ zq, zq = (upF fz_13 56 (x1 : Int32).toNatClampNeg y_11) := ⟨_, rfl⟩
                    rw [← efz_31] at hP hD
                    have hAfz_31 : mA fz_31 := by rw [efz_31]; exact mA_upF (lo := 0) (hi := 11) hAz_12 rfl rfl (by omega)
                    have hRfz_31 : scr v fa z_12 fz_31 := by rw [efz_31]; exact scr.uF hRz_12 rfl
                    refine lv_aload_n hx hb dX11_chooses_158 rfl (lv_at hl 3 rfl) ?_
                    refine lv_iload_n hx hb dX11_chooses_159 rfl (lv_at hl 4 rfl) ?_
                    refine lv_iconst (v := 1) hx hb dX11_chooses_160 (by decide +kernel) ?_
                    refine lv_iadd hx hb dX11_chooses_161 ?_
                    refine lv_topi (fun x_32 ex_32 => ?_)
                    have hx_32 : x_32.toInt = x1.toInt + 1 := (iv_to ex_32).trans (ad_i rfl (by decide +kernel) (by omega) (by omega))
                    clear ex_32
                    refine lv_iload_n hx hb dX11_chooses_162 rfl (lv_at hl 5 rfl) ?_
                    refine lv_iconst (v := 1) hx hb dX11_chooses_163 (by decide +kernel) ?_
                    refine lv_iload hx hb dX11_chooses_164 (lv_at hl 1 rfl) ?_
                    refine lv_ishl hx hb dX11_chooses_166 ?_
                    refine lv_topi (fun x_33 ex_33 => ?_)
                    clear ex_33
                    refine lv_ior hx hb dX11_chooses_167 ?_
                    refine lv_topi (fun x_34 ex_34 => ?_)
                    clear ex_34
                    refine lv_iload_n hx hb dX11_chooses_168 rfl (lv_at hl 6 rfl) ?_
                    refine lv_iload hx hb dX11_chooses_169 (lv_at hl 0 rfl) ?_
                    refine lv_iadd hx hb dX11_chooses_171 ?_
                    refine lv_topi (fun x_35 ex_35 => ?_)
                    clear ex_35
                    have hFc := va_free (wc := (mW g0 pq cp z_12 fz_31)) hD hS hA (List.range 48) rfl
                    refine va_callv (va_runV (As := [.int x_32, .int x_34, .int x_35]) (rest := []) ⟨hx, hb, hml, hown, hts⟩ (c_X11_chooses_4 l dC dI H.size g0 pq cp z_12 fz_31 hVz_12 hAfz_31 x_32 (by omega) x_34 x_35 (by omega)) (cwV 3 hts gX11_chooses_X11_chooses rfl rfl rfl (by decide +kernel) ⟨(Nat.le_of_ble_eq_true rfl), (Nat.le_of_ble_eq_true rfl)⟩) (pr_V (r := (RX11, TX11, 63)) hP hK hD 0 11 rfl rfl) rfl rfl hl.1 rfl (lv_room (Nat.le_of_ble_eq_true rfl)) dX11_chooses_172 ⟨(Nat.le_of_ble_eq_true rfl), (Nat.le_of_ble_eq_true rfl)⟩) hS (fun q _ h => hFc q h) hFc (fun u t H locs ht hvm w_36 hB hz1 hk1 hS => ?_)
                    obtain ⟨v_38, fa_39⟩ := u
                    obtain ⟨hP1, hK1, hD1⟩ := hB
                    rw [ht] at hP1
                    have hP : va_P (dC, dI) vwCl (mW g0 pq cp v_38 fa_39) H := hP1
                    have hD : va_D A (mW g0 pq cp v_38 fa_39) := hD1.weaken (fun _ _ _ h => hFc _ h)
                    clear hP1 hK1 hD1 hk1 hz1 hvm ht hFc
                    obtain ⟨hV_40, hA_41, hR_42, hx_43⟩ := w_36
                    dsimp only at hV_40 hA_41 hR_42 hx_43
                    have g_44 : (v_38 59).toInt = (z_12 59).toInt := hx_43
                    have R_45 := scr.tr hRfz_31 hR_42
                    exact cut_17  v_38 fa_39 _ _ ls  hV_40 hA_41 R_45 hP hD hS (by omega) (lv_sub hl [1, 2, 3, 4, 5, 6] rfl)
                  · have dc_30 := c_eq (a := x_29.toInt) (b := 1) rfl (by decide +kernel) c_30
                    refine lv_goto (tgt := 175) hx hb dX11_chooses_147 (by decide +kernel) ?_
                    exact cut_17  z_12 fz_13 _ _ ls  hVz_12 hAz_12 hRz_12 hP hD hS (by omega) (lv_sub hl [1, 2, 3, 4, 5, 6] rfl)
          have kc_46 : (0 : Int32).toInt = 0 := by decide
          exact cut_10 13 0 v fa _ _ ls (by omega) (by decide +kernel) gV gA scr.rf hP hD hS (by omega) (lv_sub hl [0, 1, 2, 3, 4, 5] rfl)
        · have dc_9 := c_eq (a := x_7.toInt) (b := x_8.toInt) rfl rfl c_9
          refine lv_aload_n hx hb dX11_chooses_80 rfl (lv_at hl 0 rfl) ?_
          refine va_get (D := (dC, dI)) (ci := 11) (v := .ref (pq 56)) (C := RX11) (T := TX11) (N := 63) hx hb hts in_wsX11_chooses_X11 hown hK hP 0 rfl rfl 56 (by decide +kernel) (hts (.fieldLink RX11 143 "ShipOfficeModel" "hand" "[I") iw_X11_chooses_4) (fun _ h9 => h9) rfl dX11_chooses_81 ?_
          refine lv_iload_n hx hb dX11_chooses_84 rfl (lv_at hl 1 rfl) ?_
          refine lv_iconst (v := 1) hx hb dX11_chooses_85 (by decide +kernel) ?_
          refine lv_isub hx hb dX11_chooses_86 ?_
          refine lv_topi (fun x_47 ex_47 => ?_)
          have hx_47 : x_47.toInt = x1.toInt - 1 := (iv_to ex_47).trans (sb_i rfl (by decide +kernel) (by omega) (by omega))
          clear ex_47
          refine va_iald hx hb hK hP 45 44 rfl rfl (vp_in_iff.mpr (by omega)) dX11_chooses_87 ?_
          refine lv_topi (fun x_48 ex_48 => ?_)
          have hx_48 : 0 ≤ x_48.toInt ∧ x_48.toInt ≤ 11 := iv_of ex_48 (gA 56 _)
          clear ex_48
          refine lv_iconst (v := 1) hx hb dX11_chooses_88 (by decide +kernel) ?_
          refine lv_iadd hx hb dX11_chooses_89 ?_
          refine lv_topi (fun x_49 ex_49 => ?_)
          have hx_49 : x_49.toInt = x_48.toInt + 1 := (iv_to ex_49).trans (ad_i rfl (by decide +kernel) (by omega) (by omega))
          clear ex_49
          refine lv_goto (tgt := 94) hx hb dX11_chooses_90 (by decide +kernel) ?_
          refine lv_istore (lv' := [(4, .int x_49), (0, .ref g0), (1, .int x1), (2, .int x2), (3, .int x3)]) hx hb dX11_chooses_94 hl (by decide +kernel) rfl (fun ls hl => ?_)
          refine lv_iload hx hb dX11_chooses_96 (lv_at hl 0 rfl) ?_
          refine lv_istore (lv' := [(5, .int x_49), (4, .int x_49), (0, .ref g0), (1, .int x1), (2, .int x2), (3, .int x3)]) hx hb dX11_chooses_98 hl (by decide +kernel) rfl (fun ls hl => ?_)
          have cut_50 : ∀ (n : Nat) (y_51 : Int32) (z_52 : Nat → Int32) (fz_53 : Nat → Nat → Int32) (H : Heap) (locs : List Loc) (ls : Array Slot), 12 - y_51.toInt ≤ (n : Int) → (0 ≤ y_51.toInt ∧ y_51.toInt ≤ 12) → mV z_52 → mA fz_53 → scr v fa z_52 fz_53 → va_P (dC, dI) vwCl (mW g0 pq cp z_52 fz_53) H → va_D A (mW g0 pq cp z_52 fz_53) → va_S A s.heap H locs → (z_52 59).toInt = (v 59).toInt → lv_has ls 7 [(5, .int y_51), (4, .int x_49), (0, .ref g0), (1, .int x1), (2, .int x2), (3, .int x3)] → W p l e (headSpec wsX11_chooses { frames := 5, cells := 0, slots := 0, locals := 130 }).room s m #[Value.ref g0, Value.int x1, Value.int x2, Value.int x3] below meth c H locs 0 0 (MQ below (va_Qv (fun (u : (Nat → Int32) × (Nat → Nat → Int32)) => mV u.1 ∧ mA u.2 ∧ scr v fa u.1 u.2 ∧ ((u.1 59).toInt = (v 59).toInt)) (fun u t => va_P (dC, dI) vwCl (mW g0 pq cp u.1 u.2) t.heap ∧ va_K (dC, dI) vwCl (mT cp) t ∧ va_D A (mW g0 pq cp u.1 u.2)) A) #[Value.ref g0, Value.int x1, Value.int x2, Value.int x3] s 0 0 A) (F0 m 100 ls []) := by
            intro n
            induction n using Nat.strongRecOn with
            | ind n ih =>
              intro y_51 z_52 fz_53 H locs ls hm hy_51 hVz_52 hAz_52 hRz_52 hP hD hS g_54 hl
              refine lv_iload hx hb dX11_chooses_100 (lv_at hl 0 rfl) ?_
              refine lv_aload_n hx hb dX11_chooses_102 rfl (lv_at hl 2 rfl) ?_
              refine va_get (D := (dC, dI)) (ci := 11) (v := .int (z_52 58)) (C := RX11) (T := TX11) (N := 63) hx hb hts in_wsX11_chooses_X11 hown hK hP 0 rfl rfl 58 (by decide +kernel) (hts (.fieldLink RX11 344 "ShipOfficeModel" "someMany" "I") iw_X11_chooses_6) (fun _ h9 => h9) rfl dX11_chooses_103 ?_
              refine lv_topi (fun x_55 ex_55 => ?_)
              have hx_55 : 0 ≤ x_55.toInt ∧ x_55.toInt ≤ 12 := iv_of ex_55 (hVz_52 58)
              clear ex_55
              refine lv_icmp_ge (tgt := 181) hx hb dX11_chooses_106 (by decide +kernel) (fun c_56 => ?_) (fun c_56 => ?_)
              · have dc_56 := c_le (a := x_55.toInt) (b := y_51.toInt) rfl rfl c_56
                exact W.vret hx hb hr (fun t ht hW => ⟨⟨(z_52, fz_53), rfl, ⟨hVz_52, hAz_52, hRz_52, (by dsimp only; omega)⟩, ⟨by rw [ht]; exact hP, va_K.moved hW.alike hK, hD⟩⟩, hS.F ht⟩) hS.2.2 dX11_chooses_181
              · have dc_56 := c_nle (a := x_55.toInt) (b := y_51.toInt) rfl rfl c_56
                have cut_57 : ∀ (z_58 : Nat → Int32) (fz_59 : Nat → Nat → Int32) (H : Heap) (locs : List Loc) (ls : Array Slot), mV z_58 → mA fz_59 → scr v fa z_58 fz_59 → va_P (dC, dI) vwCl (mW g0 pq cp z_58 fz_59) H → va_D A (mW g0 pq cp z_58 fz_59) → va_S A s.heap H locs → (z_58 59).toInt = (z_52 59).toInt → lv_has ls 7 [(5, .int y_51), (4, .int x_49), (0, .ref g0), (1, .int x1), (2, .int x2), (3, .int x3)] → W p l e (headSpec wsX11_chooses { frames := 5, cells := 0, slots := 0, locals := 130 }).room s m #[Value.ref g0, Value.int x1, Value.int x2, Value.int x3] below meth c H locs 0 0 (MQ below (va_Qv (fun (u : (Nat → Int32) × (Nat → Nat → Int32)) => mV u.1 ∧ mA u.2 ∧ scr v fa u.1 u.2 ∧ ((u.1 59).toInt = (v 59).toInt)) (fun u t => va_P (dC, dI) vwCl (mW g0 pq cp u.1 u.2) t.heap ∧ va_K (dC, dI) vwCl (mT cp) t ∧ va_D A (mW g0 pq cp u.1 u.2)) A) #[Value.ref g0, Value.int x1, Value.int x2, Value.int x3] s 0 0 A) (F0 m 175 ls []) := by
                  intro  z_58 fz_59 H locs ls hVz_58 hAz_58 hRz_58 hP hD hS g_60 hl
                  obtain ⟨x_61, ex_61⟩ : ∃ zq : Int32, y_51 + 1 = zq := ⟨_, rfl⟩
                  have hx_61 : x_61.toInt = y_51.toInt + 1 := (iv_to ex_61).symm.trans (ad_i rfl (by decide +kernel) (by omega) (by omega))
                  refine lv_iinc (v := x_61) (lv' := [(5, .int x_61), (4, .int x_49), (0, .ref g0), (1, .int x1), (2, .int x2), (3, .int x3)]) hx hb dX11_chooses_175 hl (k := 0) rfl ex_61 (by decide +kernel) rfl (fun ls hl => ?_)
                  clear ex_61
                  refine lv_goto (tgt := 100) hx hb dX11_chooses_178 (by decide +kernel) ?_
                  exact ih (n - 1) (by omega) x_61 z_58 fz_59 _ _ ls (by omega) (by omega) hVz_58 hAz_58 hRz_58 hP hD hS (by omega) (lv_sub hl [0, 1, 2, 3, 4, 5] rfl)
                refine lv_aload_n hx hb dX11_chooses_109 rfl (lv_at hl 2 rfl) ?_
                refine va_get (D := (dC, dI)) (ci := 11) (v := .ref (pq 5)) (C := RX11) (T := TX11) (N := 63) hx hb hts in_wsX11_chooses_X11 hown hK hP 0 rfl rfl 5 (by decide +kernel) (hts (.fieldLink RX11 25 "ShipOfficeModel" "asks" "[I") iw_X11_chooses_7) (fun _ h9 => h9) rfl dX11_chooses_110 ?_
                refine lv_iconst (v := 4) hx hb dX11_chooses_113 (by decide +kernel) ?_
                refine lv_aload_n hx hb dX11_chooses_114 rfl (lv_at hl 2 rfl) ?_
                refine va_get (D := (dC, dI)) (ci := 11) (v := .ref (pq 54)) (C := RX11) (T := TX11) (N := 63) hx hb hts in_wsX11_chooses_X11 hown hK hP 0 rfl rfl 54 (by decide +kernel) (hts (.fieldLink RX11 137 "ShipOfficeModel" "some" "[I") iw_X11_chooses_8) (fun _ h9 => h9) rfl dX11_chooses_115 ?_
                refine lv_iload hx hb dX11_chooses_118 (lv_at hl 0 rfl) ?_
                refine va_iald hx hb hK hP 43 42 rfl rfl (vp_in_iff.mpr (by omega)) dX11_chooses_120 ?_
                refine lv_topi (fun x_62 ex_62 => ?_)
                have hx_62 : 0 ≤ x_62.toInt ∧ x_62.toInt ≤ 39 := iv_of ex_62 (hAz_52 54 _)
                clear ex_62
                refine lv_imul hx hb dX11_chooses_121 ?_
                refine lv_topi (fun x_63 ex_63 => ?_)
                have hx_63 : x_63.toInt = 4 * x_62.toInt := (iv_to ex_63).trans (mu_i (by decide +kernel) rfl (by omega) (by omega))
                clear ex_63
                refine lv_aload_n hx hb dX11_chooses_122 rfl (lv_at hl 2 rfl) ?_
                refine va_get (D := (dC, dI)) (ci := 11) (v := .ref (pq 55)) (C := RX11) (T := TX11) (N := 63) hx hb hts in_wsX11_chooses_X11 hown hK hP 0 rfl rfl 55 (by decide +kernel) (hts (.fieldLink RX11 140 "ShipOfficeModel" "handRank" "[I") iw_X11_chooses_5) (fun _ h9 => h9) rfl dX11_chooses_123 ?_
                refine lv_iload_n hx hb dX11_chooses_126 rfl (lv_at hl 3 rfl) ?_
                refine va_iald hx hb hK hP 44 43 rfl rfl (vp_in_iff.mpr (by omega)) dX11_chooses_127 ?_
                refine lv_topi (fun x_64 ex_64 => ?_)
                have hx_64 : 0 ≤ x_64.toInt ∧ x_64.toInt ≤ 3 := iv_of ex_64 (hAz_52 55 _)
                clear ex_64
                refine lv_iadd hx hb dX11_chooses_128 ?_
                refine lv_topi (fun x_65 ex_65 => ?_)
                have hx_65 : x_65.toInt = x_63.toInt + x_64.toInt := (iv_to ex_65).trans (ad_i rfl rfl (by omega) (by omega))
                clear ex_65
                refine va_iald hx hb hK hP 6 5 rfl rfl (vp_in_iff.mpr (by omega)) dX11_chooses_129 ?_
                refine lv_topi (fun x_66 ex_66 => ?_)
                clear ex_66
                refine lv_istore (lv' := [(6, .int x_66), (5, .int y_51), (4, .int x_49), (0, .ref g0), (1, .int x1), (2, .int x2), (3, .int x3)]) hx hb dX11_chooses_130 hl (by decide +kernel) rfl (fun ls hl => ?_)
                refine lv_iload hx hb dX11_chooses_132 (lv_at hl 0 rfl) ?_
                refine lv_if_eq (tgt := 175) hx hb dX11_chooses_134 (by decide +kernel) (fun c_67 => ?_) (fun c_67 => ?_)
                · have dc_67 := c_eq (a := x_66.toInt) (b := 0) rfl (by decide +kernel) c_67
                  exact cut_57  z_52 fz_53 _ _ ls  hVz_52 hAz_52 hRz_52 hP hD hS (by omega) (lv_sub hl [1, 2, 3, 4, 5, 6] rfl)
                · have dc_67 := c_ne (a := x_66.toInt) (b := 0) rfl (by decide +kernel) c_67
                  refine lv_iload_n hx hb dX11_chooses_137 rfl (lv_at hl 5 rfl) ?_
                  refine lv_iload hx hb dX11_chooses_138 (lv_at hl 1 rfl) ?_
                  refine lv_ishr hx hb dX11_chooses_140 ?_
                  refine lv_topi (fun x_68 ex_68 => ?_)
                  clear ex_68
                  refine lv_iconst (v := 1) hx hb dX11_chooses_141 (by decide +kernel) ?_
                  refine lv_iand hx hb dX11_chooses_142 ?_
                  refine lv_topi (fun x_69 ex_69 => ?_)
                  clear ex_69
                  refine lv_iconst (v := 1) hx hb dX11_chooses_143 (by decide +kernel) ?_
                  refine lv_icmp_ne (tgt := 150) hx hb dX11_chooses_144 (by decide +kernel) (fun c_70 => ?_) (fun c_70 => ?_)
                  · have dc_70 := c_ne (a := x_69.toInt) (b := 1) rfl (by decide +kernel) c_70
                    refine lv_aload_n hx hb dX11_chooses_150 rfl (lv_at hl 3 rfl) ?_
                    refine va_get (D := (dC, dI)) (ci := 11) (v := .ref (pq 56)) (C := RX11) (T := TX11) (N := 63) hx hb hts in_wsX11_chooses_X11 hown hK hP 0 rfl rfl 56 (by decide +kernel) (hts (.fieldLink RX11 143 "ShipOfficeModel" "hand" "[I") iw_X11_chooses_4) (fun _ h9 => h9) rfl dX11_chooses_151 ?_
                    refine lv_iload_n hx hb dX11_chooses_154 rfl (lv_at hl 4 rfl) ?_
                    refine lv_iload hx hb dX11_chooses_155 (lv_at hl 1 rfl) ?_
                    refine va_iast hx hb hK hP hD hS 45 44 rfl rfl (vp_in_iff.mpr (by omega)) dX11_chooses_157 (fun H locs hP hD hS => ?_)
                    have hP : va_P (dC, dI) vwCl (mW g0 pq cp z_52 (upF fz_53 56 (x1 : Int32).toNatClampNeg y_51)) H := hP
                    have hD : va_D A (mW g0 pq cp z_52 (upF fz_53 56 (x1 : Int32).toNatClampNeg y_51)) := hD
                    obtain ⟨fz_71, efz_71⟩ : ∃ zq, zq = (upF fz_53 56 (x1 : Int32).toNatClampNeg y_51) := ⟨_, rfl⟩
                    rw [← efz_71] at hP hD
                    have hAfz_71 : mA fz_71 := by rw [efz_71]; exact mA_upF (lo := 0) (hi := 11) hAz_52 rfl rfl (by omega)
                    have hRfz_71 : scr v fa z_52 fz_71 := by rw [efz_71]; exact scr.uF hRz_52 rfl
                    refine lv_aload_n hx hb dX11_chooses_158 rfl (lv_at hl 3 rfl) ?_
                    refine lv_iload_n hx hb dX11_chooses_159 rfl (lv_at hl 4 rfl) ?_
                    refine lv_iconst (v := 1) hx hb dX11_chooses_160 (by decide +kernel) ?_
                    refine lv_iadd hx hb dX11_chooses_161 ?_
                    refine lv_topi (fun x_72 ex_72 => ?_)
                    have hx_72 : x_72.toInt = x1.toInt + 1 := (iv_to ex_72).trans (ad_i rfl (by decide +kernel) (by omega) (by omega))
                    clear ex_72
                    refine lv_iload_n hx hb dX11_chooses_162 rfl (lv_at hl 5 rfl) ?_
                    refine lv_iconst (v := 1) hx hb dX11_chooses_163 (by decide +kernel) ?_
                    refine lv_iload hx hb dX11_chooses_164 (lv_at hl 1 rfl) ?_
                    refine lv_ishl hx hb dX11_chooses_166 ?_
                    refine lv_topi (fun x_73 ex_73 => ?_)
                    clear ex_73
                    refine lv_ior hx hb dX11_chooses_167 ?_
                    refine lv_topi (fun x_74 ex_74 => ?_)
                    clear ex_74
                    refine lv_iload_n hx hb dX11_chooses_168 rfl (lv_at hl 6 rfl) ?_
                    refine lv_iload hx hb dX11_chooses_169 (lv_at hl 0 rfl) ?_
                    refine lv_iadd hx hb dX11_chooses_171 ?_
                    refine lv_topi (fun x_75 ex_75 => ?_)
                    clear ex_75
                    have hFc := va_free (wc := (mW g0 pq cp z_52 fz_71)) hD hS hA (List.range 48) rfl
                    refine va_callv (va_runV (As := [.int x_72, .int x_74, .int x_75]) (rest := []) ⟨hx, hb, hml, hown, hts⟩ (c_X11_chooses_4 l dC dI H.size g0 pq cp z_52 fz_71 hVz_52 hAfz_71 x_72 (by omega) x_74 x_75 (by omega)) (cwV 3 hts gX11_chooses_X11_chooses rfl rfl rfl (by decide +kernel) ⟨(Nat.le_of_ble_eq_true rfl), (Nat.le_of_ble_eq_true rfl)⟩) (pr_V (r := (RX11, TX11, 63)) hP hK hD 0 11 rfl rfl) rfl rfl hl.1 rfl (lv_room (Nat.le_of_ble_eq_true rfl)) dX11_chooses_172 ⟨(Nat.le_of_ble_eq_true rfl), (Nat.le_of_ble_eq_true rfl)⟩) hS (fun q _ h => hFc q h) hFc (fun u t H locs ht hvm w_76 hB hz1 hk1 hS => ?_)
                    obtain ⟨v_78, fa_79⟩ := u
                    obtain ⟨hP1, hK1, hD1⟩ := hB
                    rw [ht] at hP1
                    have hP : va_P (dC, dI) vwCl (mW g0 pq cp v_78 fa_79) H := hP1
                    have hD : va_D A (mW g0 pq cp v_78 fa_79) := hD1.weaken (fun _ _ _ h => hFc _ h)
                    clear hP1 hK1 hD1 hk1 hz1 hvm ht hFc
                    obtain ⟨hV_80, hA_81, hR_82, hx_83⟩ := w_76
                    dsimp only at hV_80 hA_81 hR_82 hx_83
                    have g_84 : (v_78 59).toInt = (z_52 59).toInt := hx_83
                    have R_85 := scr.tr hRfz_71 hR_82
                    exact cut_57  v_78 fa_79 _ _ ls  hV_80 hA_81 R_85 hP hD hS (by omega) (lv_sub hl [1, 2, 3, 4, 5, 6] rfl)
                  · have dc_70 := c_eq (a := x_69.toInt) (b := 1) rfl (by decide +kernel) c_70
                    refine lv_goto (tgt := 175) hx hb dX11_chooses_147 (by decide +kernel) ?_
                    exact cut_57  z_52 fz_53 _ _ ls  hVz_52 hAz_52 hRz_52 hP hD hS (by omega) (lv_sub hl [1, 2, 3, 4, 5, 6] rfl)
          exact cut_50 13 x_49 v fa _ _ ls (by omega) (by omega) gV gA scr.rf hP hD hS (by omega) (lv_sub hl [0, 1, 2, 3, 4, 5] rfl)
    · have dc_4 := c_eq (a := x1.toInt) (b := x_3.toInt) rfl rfl c_4
      refine lv_aload_n hx hb dX11_chooses_24 rfl (lv_at hl 0 rfl) ?_
      refine lv_iload_n hx hb dX11_chooses_25 rfl (lv_at hl 3 rfl) ?_
      refine va_put (D := (dC, dI)) (ci := 11) (v := .int x3) (ty := .int) (C := RX11) (T := TX11) (N := 63) hx hb hts in_wsX11_chooses_X11 tyX11 tyX11_ok nmX11 hown hK hP hD hS 0 rfl rfl 60 (by decide +kernel) (hts (.fieldLink RX11 338 "ShipOfficeModel" "least" "I") iw_X11_chooses_1) (fun _ h9 => h9) rfl (by decide +kernel) rfl rfl (Nat.le_of_ble_eq_true rfl) dX11_chooses_26 (fun H locs hP hD hS => ?_)
      have hP : va_P (dC, dI) vwCl (mW g0 pq cp (upd v 60 x3) fa) H := hP
      have hD : va_D A (mW g0 pq cp (upd v 60 x3) fa) := hD
      obtain ⟨z_86, ez_86⟩ : ∃ zq, zq = (upd v 60 x3) := ⟨_, rfl⟩
      rw [← ez_86] at hP hD
      have hVz_86 : mV z_86 := by rw [ez_86]; exact mV_upd (lo := -2147483648) (hi := 2147483647) gV rfl rfl (iv_all _)
      have hRz_86 : scr v fa z_86 fa := by rw [ez_86]; exact scr.up scr.rf rfl
      have g_87 : (z_86 59).toInt = (v 59).toInt := by rw [ez_86]; exact congrArg Int32.toInt (if_neg (by decide +kernel))
      refine lv_iconst (v := 0) hx hb dX11_chooses_29 (by decide +kernel) ?_
      refine lv_istore (lv' := [(4, .int 0), (0, .ref g0), (1, .int x1), (2, .int x2), (3, .int x3)]) hx hb dX11_chooses_30 hl (by decide +kernel) rfl (fun ls hl => ?_)
      have cut_88 : ∀ (n : Nat) (y_89 : Int32) (z_90 : Nat → Int32) (fz_91 : Nat → Nat → Int32) (H : Heap) (locs : List Loc) (ls : Array Slot), 8 - y_89.toInt ≤ (n : Int) → (0 ≤ y_89.toInt ∧ y_89.toInt ≤ 8) → mV z_90 → mA fz_91 → scr v fa z_90 fz_91 → va_P (dC, dI) vwCl (mW g0 pq cp z_90 fz_91) H → va_D A (mW g0 pq cp z_90 fz_91) → va_S A s.heap H locs → (z_90 59).toInt = (z_86 59).toInt → lv_has ls 7 [(4, .int y_89), (0, .ref g0), (1, .int x1), (2, .int x2), (3, .int x3)] → W p l e (headSpec wsX11_chooses { frames := 5, cells := 0, slots := 0, locals := 130 }).room s m #[Value.ref g0, Value.int x1, Value.int x2, Value.int x3] below meth c H locs 0 0 (MQ below (va_Qv (fun (u : (Nat → Int32) × (Nat → Nat → Int32)) => mV u.1 ∧ mA u.2 ∧ scr v fa u.1 u.2 ∧ ((u.1 59).toInt = (v 59).toInt)) (fun u t => va_P (dC, dI) vwCl (mW g0 pq cp u.1 u.2) t.heap ∧ va_K (dC, dI) vwCl (mT cp) t ∧ va_D A (mW g0 pq cp u.1 u.2)) A) #[Value.ref g0, Value.int x1, Value.int x2, Value.int x3] s 0 0 A) (F0 m 32 ls []) := by
        intro n
        induction n using Nat.strongRecOn with
        | ind n ih =>
          intro y_89 z_90 fz_91 H locs ls hm hy_89 hVz_90 hAz_90 hRz_90 hP hD hS g_92 hl
          refine lv_iload hx hb dX11_chooses_32 (lv_at hl 0 rfl) ?_
          refine lv_iload_n hx hb dX11_chooses_34 rfl (lv_at hl 2 rfl) ?_
          refine lv_icmp_ge (tgt := 58) hx hb dX11_chooses_35 (by decide +kernel) (fun c_93 => ?_) (fun c_93 => ?_)
          · have dc_93 := c_le (a := x1.toInt) (b := y_89.toInt) rfl rfl c_93
            exact W.vret hx hb hr (fun t ht hW => ⟨⟨(z_90, fz_91), rfl, ⟨hVz_90, hAz_90, hRz_90, (by dsimp only; omega)⟩, ⟨by rw [ht]; exact hP, va_K.moved hW.alike hK, hD⟩⟩, hS.F ht⟩) hS.2.2 dX11_chooses_58
          · have dc_93 := c_nle (a := x1.toInt) (b := y_89.toInt) rfl rfl c_93
            refine lv_aload_n hx hb dX11_chooses_38 rfl (lv_at hl 1 rfl) ?_
            refine va_get (D := (dC, dI)) (ci := 11) (v := .ref (pq 57)) (C := RX11) (T := TX11) (N := 63) hx hb hts in_wsX11_chooses_X11 hown hK hP 0 rfl rfl 57 (by decide +kernel) (hts (.fieldLink RX11 146 "ShipOfficeModel" "best" "[I") iw_X11_chooses_3) (fun _ h9 => h9) rfl dX11_chooses_39 ?_
            refine lv_iload hx hb dX11_chooses_42 (lv_at hl 0 rfl) ?_
            refine lv_aload_n hx hb dX11_chooses_44 rfl (lv_at hl 1 rfl) ?_
            refine va_get (D := (dC, dI)) (ci := 11) (v := .ref (pq 56)) (C := RX11) (T := TX11) (N := 63) hx hb hts in_wsX11_chooses_X11 hown hK hP 0 rfl rfl 56 (by decide +kernel) (hts (.fieldLink RX11 143 "ShipOfficeModel" "hand" "[I") iw_X11_chooses_4) (fun _ h9 => h9) rfl dX11_chooses_45 ?_
            refine lv_iload hx hb dX11_chooses_48 (lv_at hl 0 rfl) ?_
            refine va_iald hx hb hK hP 45 44 rfl rfl (vp_in_iff.mpr (by omega)) dX11_chooses_50 ?_
            refine lv_topi (fun x_94 ex_94 => ?_)
            have hx_94 : 0 ≤ x_94.toInt ∧ x_94.toInt ≤ 11 := iv_of ex_94 (hAz_90 56 _)
            clear ex_94
            refine va_iast hx hb hK hP hD hS 46 45 rfl rfl (vp_in_iff.mpr (by omega)) dX11_chooses_51 (fun H locs hP hD hS => ?_)
            have hP : va_P (dC, dI) vwCl (mW g0 pq cp z_90 (upF fz_91 57 (y_89 : Int32).toNatClampNeg x_94)) H := hP
            have hD : va_D A (mW g0 pq cp z_90 (upF fz_91 57 (y_89 : Int32).toNatClampNeg x_94)) := hD
            obtain ⟨fz_95, efz_95⟩ : ∃ zq, zq = (upF fz_91 57 (y_89 : Int32).toNatClampNeg x_94) := ⟨_, rfl⟩
            rw [← efz_95] at hP hD
            have hAfz_95 : mA fz_95 := by rw [efz_95]; exact mA_upF (lo := 0) (hi := 11) hAz_90 rfl rfl (by omega)
            have hRfz_95 : scr v fa z_90 fz_95 := by rw [efz_95]; exact scr.uF hRz_90 rfl
            obtain ⟨x_96, ex_96⟩ : ∃ zq : Int32, y_89 + 1 = zq := ⟨_, rfl⟩
            have hx_96 : x_96.toInt = y_89.toInt + 1 := (iv_to ex_96).symm.trans (ad_i rfl (by decide +kernel) (by omega) (by omega))
            refine lv_iinc (v := x_96) (lv' := [(4, .int x_96), (0, .ref g0), (1, .int x1), (2, .int x2), (3, .int x3)]) hx hb dX11_chooses_52 hl (k := 0) rfl ex_96 (by decide +kernel) rfl (fun ls hl => ?_)
            clear ex_96
            refine lv_goto (tgt := 32) hx hb dX11_chooses_55 (by decide +kernel) ?_
            exact ih (n - 1) (by omega) x_96 z_90 fz_95 _ _ ls (by omega) (by omega) hVz_90 hAfz_95 hRfz_95 hP hD hS (by omega) (lv_sub hl [0, 1, 2, 3, 4] rfl)
      have kc_97 : (0 : Int32).toInt = 0 := by decide
      exact cut_88 9 0 z_86 fa _ _ ls (by omega) (by decide +kernel) hVz_86 gA hRz_86 hP hD hS (by omega) (lv_sub hl [0, 1, 2, 3, 4] rfl)
  · have dc_2 := c_nlt (a := x_1.toInt) (b := 0) rfl (by decide +kernel) c_2
    refine lv_iload_n hx hb dX11_chooses_7 rfl (lv_at hl 3 rfl) ?_
    refine lv_aload_n hx hb dX11_chooses_8 rfl (lv_at hl 0 rfl) ?_
    refine va_get (D := (dC, dI)) (ci := 11) (v := .int (v 60)) (C := RX11) (T := TX11) (N := 63) hx hb hts in_wsX11_chooses_X11 hown hK hP 0 rfl rfl 60 (by decide +kernel) (hts (.fieldLink RX11 338 "ShipOfficeModel" "least" "I") iw_X11_chooses_1) (fun _ h9 => h9) rfl dX11_chooses_9 ?_
    refine lv_topi (fun x_98 ex_98 => ?_)
    clear ex_98
    refine lv_icmp_lt (tgt := 16) hx hb dX11_chooses_12 (by decide +kernel) (fun c_99 => ?_) (fun c_99 => ?_)
    · have dc_99 := c_lt (a := x3.toInt) (b := x_98.toInt) rfl rfl c_99
      refine lv_iload_n hx hb dX11_chooses_16 rfl (lv_at hl 1 rfl) ?_
      refine lv_aload_n hx hb dX11_chooses_17 rfl (lv_at hl 0 rfl) ?_
      refine va_get (D := (dC, dI)) (ci := 11) (v := .int (v 59)) (C := RX11) (T := TX11) (N := 63) hx hb hts in_wsX11_chooses_X11 hown hK hP 0 rfl rfl 59 (by decide +kernel) (hts (.fieldLink RX11 341 "ShipOfficeModel" "hands" "I") iw_X11_chooses_2) (fun _ h9 => h9) rfl dX11_chooses_18 ?_
      refine lv_topi (fun x_100 ex_100 => ?_)
      have hx_100 : 0 ≤ x_100.toInt ∧ x_100.toInt ≤ 8 := iv_of ex_100 (gV 59)
      have gx_100 : x_100.toInt = (v 59).toInt := iv_to ex_100
      clear ex_100
      refine lv_icmp_ne (tgt := 59) hx hb dX11_chooses_21 (by decide +kernel) (fun c_101 => ?_) (fun c_101 => ?_)
      · have dc_101 := c_ne (a := x1.toInt) (b := x_100.toInt) rfl rfl c_101
        refine lv_iload_n hx hb dX11_chooses_59 rfl (lv_at hl 1 rfl) ?_
        refine lv_if_le (tgt := 93) hx hb dX11_chooses_60 (by decide +kernel) (fun c_102 => ?_) (fun c_102 => ?_)
        · have dc_102 := c_le (a := x1.toInt) (b := 0) rfl (by decide +kernel) c_102
          exfalso; omega
        · have dc_102 := c_nle (a := x1.toInt) (b := 0) rfl (by decide +kernel) c_102
          refine lv_aload_n hx hb dX11_chooses_63 rfl (lv_at hl 0 rfl) ?_
          refine va_get (D := (dC, dI)) (ci := 11) (v := .ref (pq 55)) (C := RX11) (T := TX11) (N := 63) hx hb hts in_wsX11_chooses_X11 hown hK hP 0 rfl rfl 55 (by decide +kernel) (hts (.fieldLink RX11 140 "ShipOfficeModel" "handRank" "[I") iw_X11_chooses_5) (fun _ h9 => h9) rfl dX11_chooses_64 ?_
          refine lv_iload_n hx hb dX11_chooses_67 rfl (lv_at hl 1 rfl) ?_
          refine lv_iconst (v := 1) hx hb dX11_chooses_68 (by decide +kernel) ?_
          refine lv_isub hx hb dX11_chooses_69 ?_
          refine lv_topi (fun x_103 ex_103 => ?_)
          have hx_103 : x_103.toInt = x1.toInt - 1 := (iv_to ex_103).trans (sb_i rfl (by decide +kernel) (by omega) (by omega))
          clear ex_103
          refine va_iald hx hb hK hP 44 43 rfl rfl (vp_in_iff.mpr (by omega)) dX11_chooses_70 ?_
          refine lv_topi (fun x_104 ex_104 => ?_)
          have hx_104 : 0 ≤ x_104.toInt ∧ x_104.toInt ≤ 3 := iv_of ex_104 (gA 55 _)
          clear ex_104
          refine lv_aload_n hx hb dX11_chooses_71 rfl (lv_at hl 0 rfl) ?_
          refine va_get (D := (dC, dI)) (ci := 11) (v := .ref (pq 55)) (C := RX11) (T := TX11) (N := 63) hx hb hts in_wsX11_chooses_X11 hown hK hP 0 rfl rfl 55 (by decide +kernel) (hts (.fieldLink RX11 140 "ShipOfficeModel" "handRank" "[I") iw_X11_chooses_5) (fun _ h9 => h9) rfl dX11_chooses_72 ?_
          refine lv_iload_n hx hb dX11_chooses_75 rfl (lv_at hl 1 rfl) ?_
          refine va_iald hx hb hK hP 44 43 rfl rfl (vp_in_iff.mpr (by omega)) dX11_chooses_76 ?_
          refine lv_topi (fun x_105 ex_105 => ?_)
          have hx_105 : 0 ≤ x_105.toInt ∧ x_105.toInt ≤ 3 := iv_of ex_105 (gA 55 _)
          clear ex_105
          refine lv_icmp_ne (tgt := 93) hx hb dX11_chooses_77 (by decide +kernel) (fun c_106 => ?_) (fun c_106 => ?_)
          · have dc_106 := c_ne (a := x_104.toInt) (b := x_105.toInt) rfl rfl c_106
            refine lv_iconst (v := 0) hx hb dX11_chooses_93 (by decide +kernel) ?_
            refine lv_istore (lv' := [(4, .int 0), (0, .ref g0), (1, .int x1), (2, .int x2), (3, .int x3)]) hx hb dX11_chooses_94 hl (by decide +kernel) rfl (fun ls hl => ?_)
            refine lv_iload hx hb dX11_chooses_96 (lv_at hl 0 rfl) ?_
            refine lv_istore (lv' := [(5, .int 0), (4, .int 0), (0, .ref g0), (1, .int x1), (2, .int x2), (3, .int x3)]) hx hb dX11_chooses_98 hl (by decide +kernel) rfl (fun ls hl => ?_)
            have cut_107 : ∀ (n : Nat) (y_108 : Int32) (z_109 : Nat → Int32) (fz_110 : Nat → Nat → Int32) (H : Heap) (locs : List Loc) (ls : Array Slot), 12 - y_108.toInt ≤ (n : Int) → (0 ≤ y_108.toInt ∧ y_108.toInt ≤ 12) → mV z_109 → mA fz_110 → scr v fa z_109 fz_110 → va_P (dC, dI) vwCl (mW g0 pq cp z_109 fz_110) H → va_D A (mW g0 pq cp z_109 fz_110) → va_S A s.heap H locs → (z_109 59).toInt = (v 59).toInt → lv_has ls 7 [(5, .int y_108), (4, .int 0), (0, .ref g0), (1, .int x1), (2, .int x2), (3, .int x3)] → W p l e (headSpec wsX11_chooses { frames := 5, cells := 0, slots := 0, locals := 130 }).room s m #[Value.ref g0, Value.int x1, Value.int x2, Value.int x3] below meth c H locs 0 0 (MQ below (va_Qv (fun (u : (Nat → Int32) × (Nat → Nat → Int32)) => mV u.1 ∧ mA u.2 ∧ scr v fa u.1 u.2 ∧ ((u.1 59).toInt = (v 59).toInt)) (fun u t => va_P (dC, dI) vwCl (mW g0 pq cp u.1 u.2) t.heap ∧ va_K (dC, dI) vwCl (mT cp) t ∧ va_D A (mW g0 pq cp u.1 u.2)) A) #[Value.ref g0, Value.int x1, Value.int x2, Value.int x3] s 0 0 A) (F0 m 100 ls []) := by
              intro n
              induction n using Nat.strongRecOn with
              | ind n ih =>
                intro y_108 z_109 fz_110 H locs ls hm hy_108 hVz_109 hAz_109 hRz_109 hP hD hS g_111 hl
                refine lv_iload hx hb dX11_chooses_100 (lv_at hl 0 rfl) ?_
                refine lv_aload_n hx hb dX11_chooses_102 rfl (lv_at hl 2 rfl) ?_
                refine va_get (D := (dC, dI)) (ci := 11) (v := .int (z_109 58)) (C := RX11) (T := TX11) (N := 63) hx hb hts in_wsX11_chooses_X11 hown hK hP 0 rfl rfl 58 (by decide +kernel) (hts (.fieldLink RX11 344 "ShipOfficeModel" "someMany" "I") iw_X11_chooses_6) (fun _ h9 => h9) rfl dX11_chooses_103 ?_
                refine lv_topi (fun x_112 ex_112 => ?_)
                have hx_112 : 0 ≤ x_112.toInt ∧ x_112.toInt ≤ 12 := iv_of ex_112 (hVz_109 58)
                clear ex_112
                refine lv_icmp_ge (tgt := 181) hx hb dX11_chooses_106 (by decide +kernel) (fun c_113 => ?_) (fun c_113 => ?_)
                · have dc_113 := c_le (a := x_112.toInt) (b := y_108.toInt) rfl rfl c_113
                  exact W.vret hx hb hr (fun t ht hW => ⟨⟨(z_109, fz_110), rfl, ⟨hVz_109, hAz_109, hRz_109, (by dsimp only; omega)⟩, ⟨by rw [ht]; exact hP, va_K.moved hW.alike hK, hD⟩⟩, hS.F ht⟩) hS.2.2 dX11_chooses_181
                · have dc_113 := c_nle (a := x_112.toInt) (b := y_108.toInt) rfl rfl c_113
                  have cut_114 : ∀ (z_115 : Nat → Int32) (fz_116 : Nat → Nat → Int32) (H : Heap) (locs : List Loc) (ls : Array Slot), mV z_115 → mA fz_116 → scr v fa z_115 fz_116 → va_P (dC, dI) vwCl (mW g0 pq cp z_115 fz_116) H → va_D A (mW g0 pq cp z_115 fz_116) → va_S A s.heap H locs → (z_115 59).toInt = (z_109 59).toInt → lv_has ls 7 [(5, .int y_108), (4, .int 0), (0, .ref g0), (1, .int x1), (2, .int x2), (3, .int x3)] → W p l e (headSpec wsX11_chooses { frames := 5, cells := 0, slots := 0, locals := 130 }).room s m #[Value.ref g0, Value.int x1, Value.int x2, Value.int x3] below meth c H locs 0 0 (MQ below (va_Qv (fun (u : (Nat → Int32) × (Nat → Nat → Int32)) => mV u.1 ∧ mA u.2 ∧ scr v fa u.1 u.2 ∧ ((u.1 59).toInt = (v 59).toInt)) (fun u t => va_P (dC, dI) vwCl (mW g0 pq cp u.1 u.2) t.heap ∧ va_K (dC, dI) vwCl (mT cp) t ∧ va_D A (mW g0 pq cp u.1 u.2)) A) #[Value.ref g0, Value.int x1, Value.int x2, Value.int x3] s 0 0 A) (F0 m 175 ls []) := by
                    intro  z_115 fz_116 H locs ls hVz_115 hAz_115 hRz_115 hP hD hS g_117 hl
                    obtain ⟨x_118, ex_118⟩ : ∃ zq : Int32, y_108 + 1 = zq := ⟨_, rfl⟩
                    have hx_118 : x_118.toInt = y_108.toInt + 1 := (iv_to ex_118).symm.trans (ad_i rfl (by decide +kernel) (by omega) (by omega))
                    refine lv_iinc (v := x_118) (lv' := [(5, .int x_118), (4, .int 0), (0, .ref g0), (1, .int x1), (2, .int x2), (3, .int x3)]) hx hb dX11_chooses_175 hl (k := 0) rfl ex_118 (by decide +kernel) rfl (fun ls hl => ?_)
                    clear ex_118
                    refine lv_goto (tgt := 100) hx hb dX11_chooses_178 (by decide +kernel) ?_
                    exact ih (n - 1) (by omega) x_118 z_115 fz_116 _ _ ls (by omega) (by omega) hVz_115 hAz_115 hRz_115 hP hD hS (by omega) (lv_sub hl [0, 1, 2, 3, 4, 5] rfl)
                  refine lv_aload_n hx hb dX11_chooses_109 rfl (lv_at hl 2 rfl) ?_
                  refine va_get (D := (dC, dI)) (ci := 11) (v := .ref (pq 5)) (C := RX11) (T := TX11) (N := 63) hx hb hts in_wsX11_chooses_X11 hown hK hP 0 rfl rfl 5 (by decide +kernel) (hts (.fieldLink RX11 25 "ShipOfficeModel" "asks" "[I") iw_X11_chooses_7) (fun _ h9 => h9) rfl dX11_chooses_110 ?_
                  refine lv_iconst (v := 4) hx hb dX11_chooses_113 (by decide +kernel) ?_
                  refine lv_aload_n hx hb dX11_chooses_114 rfl (lv_at hl 2 rfl) ?_
                  refine va_get (D := (dC, dI)) (ci := 11) (v := .ref (pq 54)) (C := RX11) (T := TX11) (N := 63) hx hb hts in_wsX11_chooses_X11 hown hK hP 0 rfl rfl 54 (by decide +kernel) (hts (.fieldLink RX11 137 "ShipOfficeModel" "some" "[I") iw_X11_chooses_8) (fun _ h9 => h9) rfl dX11_chooses_115 ?_
                  refine lv_iload hx hb dX11_chooses_118 (lv_at hl 0 rfl) ?_
                  refine va_iald hx hb hK hP 43 42 rfl rfl (vp_in_iff.mpr (by omega)) dX11_chooses_120 ?_
                  refine lv_topi (fun x_119 ex_119 => ?_)
                  have hx_119 : 0 ≤ x_119.toInt ∧ x_119.toInt ≤ 39 := iv_of ex_119 (hAz_109 54 _)
                  clear ex_119
                  refine lv_imul hx hb dX11_chooses_121 ?_
                  refine lv_topi (fun x_120 ex_120 => ?_)
                  have hx_120 : x_120.toInt = 4 * x_119.toInt := (iv_to ex_120).trans (mu_i (by decide +kernel) rfl (by omega) (by omega))
                  clear ex_120
                  refine lv_aload_n hx hb dX11_chooses_122 rfl (lv_at hl 2 rfl) ?_
                  refine va_get (D := (dC, dI)) (ci := 11) (v := .ref (pq 55)) (C := RX11) (T := TX11) (N := 63) hx hb hts in_wsX11_chooses_X11 hown hK hP 0 rfl rfl 55 (by decide +kernel) (hts (.fieldLink RX11 140 "ShipOfficeModel" "handRank" "[I") iw_X11_chooses_5) (fun _ h9 => h9) rfl dX11_chooses_123 ?_
                  refine lv_iload_n hx hb dX11_chooses_126 rfl (lv_at hl 3 rfl) ?_
                  refine va_iald hx hb hK hP 44 43 rfl rfl (vp_in_iff.mpr (by omega)) dX11_chooses_127 ?_
                  refine lv_topi (fun x_121 ex_121 => ?_)
                  have hx_121 : 0 ≤ x_121.toInt ∧ x_121.toInt ≤ 3 := iv_of ex_121 (hAz_109 55 _)
                  clear ex_121
                  refine lv_iadd hx hb dX11_chooses_128 ?_
                  refine lv_topi (fun x_122 ex_122 => ?_)
                  have hx_122 : x_122.toInt = x_120.toInt + x_121.toInt := (iv_to ex_122).trans (ad_i rfl rfl (by omega) (by omega))
                  clear ex_122
                  refine va_iald hx hb hK hP 6 5 rfl rfl (vp_in_iff.mpr (by omega)) dX11_chooses_129 ?_
                  refine lv_topi (fun x_123 ex_123 => ?_)
                  clear ex_123
                  refine lv_istore (lv' := [(6, .int x_123), (5, .int y_108), (4, .int 0), (0, .ref g0), (1, .int x1), (2, .int x2), (3, .int x3)]) hx hb dX11_chooses_130 hl (by decide +kernel) rfl (fun ls hl => ?_)
                  refine lv_iload hx hb dX11_chooses_132 (lv_at hl 0 rfl) ?_
                  refine lv_if_eq (tgt := 175) hx hb dX11_chooses_134 (by decide +kernel) (fun c_124 => ?_) (fun c_124 => ?_)
                  · have dc_124 := c_eq (a := x_123.toInt) (b := 0) rfl (by decide +kernel) c_124
                    exact cut_114  z_109 fz_110 _ _ ls  hVz_109 hAz_109 hRz_109 hP hD hS (by omega) (lv_sub hl [1, 2, 3, 4, 5, 6] rfl)
                  · have dc_124 := c_ne (a := x_123.toInt) (b := 0) rfl (by decide +kernel) c_124
                    refine lv_iload_n hx hb dX11_chooses_137 rfl (lv_at hl 5 rfl) ?_
                    refine lv_iload hx hb dX11_chooses_138 (lv_at hl 1 rfl) ?_
                    refine lv_ishr hx hb dX11_chooses_140 ?_
                    refine lv_topi (fun x_125 ex_125 => ?_)
                    clear ex_125
                    refine lv_iconst (v := 1) hx hb dX11_chooses_141 (by decide +kernel) ?_
                    refine lv_iand hx hb dX11_chooses_142 ?_
                    refine lv_topi (fun x_126 ex_126 => ?_)
                    clear ex_126
                    refine lv_iconst (v := 1) hx hb dX11_chooses_143 (by decide +kernel) ?_
                    refine lv_icmp_ne (tgt := 150) hx hb dX11_chooses_144 (by decide +kernel) (fun c_127 => ?_) (fun c_127 => ?_)
                    · have dc_127 := c_ne (a := x_126.toInt) (b := 1) rfl (by decide +kernel) c_127
                      refine lv_aload_n hx hb dX11_chooses_150 rfl (lv_at hl 3 rfl) ?_
                      refine va_get (D := (dC, dI)) (ci := 11) (v := .ref (pq 56)) (C := RX11) (T := TX11) (N := 63) hx hb hts in_wsX11_chooses_X11 hown hK hP 0 rfl rfl 56 (by decide +kernel) (hts (.fieldLink RX11 143 "ShipOfficeModel" "hand" "[I") iw_X11_chooses_4) (fun _ h9 => h9) rfl dX11_chooses_151 ?_
                      refine lv_iload_n hx hb dX11_chooses_154 rfl (lv_at hl 4 rfl) ?_
                      refine lv_iload hx hb dX11_chooses_155 (lv_at hl 1 rfl) ?_
                      refine va_iast hx hb hK hP hD hS 45 44 rfl rfl (vp_in_iff.mpr (by omega)) dX11_chooses_157 (fun H locs hP hD hS => ?_)
                      have hP : va_P (dC, dI) vwCl (mW g0 pq cp z_109 (upF fz_110 56 (x1 : Int32).toNatClampNeg y_108)) H := hP
                      have hD : va_D A (mW g0 pq cp z_109 (upF fz_110 56 (x1 : Int32).toNatClampNeg y_108)) := hD
                      obtain ⟨fz_128, efz_128⟩ : ∃ zq, zq = (upF fz_110 56 (x1 : Int32).toNatClampNeg y_108) := ⟨_, rfl⟩
                      rw [← efz_128] at hP hD
                      have hAfz_128 : mA fz_128 := by rw [efz_128]; exact mA_upF (lo := 0) (hi := 11) hAz_109 rfl rfl (by omega)
                      have hRfz_128 : scr v fa z_109 fz_128 := by rw [efz_128]; exact scr.uF hRz_109 rfl
                      refine lv_aload_n hx hb dX11_chooses_158 rfl (lv_at hl 3 rfl) ?_
                      refine lv_iload_n hx hb dX11_chooses_159 rfl (lv_at hl 4 rfl) ?_
                      refine lv_iconst (v := 1) hx hb dX11_chooses_160 (by decide +kernel) ?_
                      refine lv_iadd hx hb dX11_chooses_161 ?_
                      refine lv_topi (fun x_129 ex_129 => ?_)
                      have hx_129 : x_129.toInt = x1.toInt + 1 := (iv_to ex_129).trans (ad_i rfl (by decide +kernel) (by omega) (by omega))
                      clear ex_129
                      refine lv_iload_n hx hb dX11_chooses_162 rfl (lv_at hl 5 rfl) ?_
                      refine lv_iconst (v := 1) hx hb dX11_chooses_163 (by decide +kernel) ?_
                      refine lv_iload hx hb dX11_chooses_164 (lv_at hl 1 rfl) ?_
                      refine lv_ishl hx hb dX11_chooses_166 ?_
                      refine lv_topi (fun x_130 ex_130 => ?_)
                      clear ex_130
                      refine lv_ior hx hb dX11_chooses_167 ?_
                      refine lv_topi (fun x_131 ex_131 => ?_)
                      clear ex_131
                      refine lv_iload_n hx hb dX11_chooses_168 rfl (lv_at hl 6 rfl) ?_
                      refine lv_iload hx hb dX11_chooses_169 (lv_at hl 0 rfl) ?_
                      refine lv_iadd hx hb dX11_chooses_171 ?_
                      refine lv_topi (fun x_132 ex_132 => ?_)
                      clear ex_132
                      have hFc := va_free (wc := (mW g0 pq cp z_109 fz_128)) hD hS hA (List.range 48) rfl
                      refine va_callv (va_runV (As := [.int x_129, .int x_131, .int x_132]) (rest := []) ⟨hx, hb, hml, hown, hts⟩ (c_X11_chooses_4 l dC dI H.size g0 pq cp z_109 fz_128 hVz_109 hAfz_128 x_129 (by omega) x_131 x_132 (by omega)) (cwV 3 hts gX11_chooses_X11_chooses rfl rfl rfl (by decide +kernel) ⟨(Nat.le_of_ble_eq_true rfl), (Nat.le_of_ble_eq_true rfl)⟩) (pr_V (r := (RX11, TX11, 63)) hP hK hD 0 11 rfl rfl) rfl rfl hl.1 rfl (lv_room (Nat.le_of_ble_eq_true rfl)) dX11_chooses_172 ⟨(Nat.le_of_ble_eq_true rfl), (Nat.le_of_ble_eq_true rfl)⟩) hS (fun q _ h => hFc q h) hFc (fun u t H locs ht hvm w_133 hB hz1 hk1 hS => ?_)
                      obtain ⟨v_135, fa_136⟩ := u
                      obtain ⟨hP1, hK1, hD1⟩ := hB
                      rw [ht] at hP1
                      have hP : va_P (dC, dI) vwCl (mW g0 pq cp v_135 fa_136) H := hP1
                      have hD : va_D A (mW g0 pq cp v_135 fa_136) := hD1.weaken (fun _ _ _ h => hFc _ h)
                      clear hP1 hK1 hD1 hk1 hz1 hvm ht hFc
                      obtain ⟨hV_137, hA_138, hR_139, hx_140⟩ := w_133
                      dsimp only at hV_137 hA_138 hR_139 hx_140
                      have g_141 : (v_135 59).toInt = (z_109 59).toInt := hx_140
                      have R_142 := scr.tr hRfz_128 hR_139
                      exact cut_114  v_135 fa_136 _ _ ls  hV_137 hA_138 R_142 hP hD hS (by omega) (lv_sub hl [1, 2, 3, 4, 5, 6] rfl)
                    · have dc_127 := c_eq (a := x_126.toInt) (b := 1) rfl (by decide +kernel) c_127
                      refine lv_goto (tgt := 175) hx hb dX11_chooses_147 (by decide +kernel) ?_
                      exact cut_114  z_109 fz_110 _ _ ls  hVz_109 hAz_109 hRz_109 hP hD hS (by omega) (lv_sub hl [1, 2, 3, 4, 5, 6] rfl)
            have kc_143 : (0 : Int32).toInt = 0 := by decide
            exact cut_107 13 0 v fa _ _ ls (by omega) (by decide +kernel) gV gA scr.rf hP hD hS (by omega) (lv_sub hl [0, 1, 2, 3, 4, 5] rfl)
          · have dc_106 := c_eq (a := x_104.toInt) (b := x_105.toInt) rfl rfl c_106
            refine lv_aload_n hx hb dX11_chooses_80 rfl (lv_at hl 0 rfl) ?_
            refine va_get (D := (dC, dI)) (ci := 11) (v := .ref (pq 56)) (C := RX11) (T := TX11) (N := 63) hx hb hts in_wsX11_chooses_X11 hown hK hP 0 rfl rfl 56 (by decide +kernel) (hts (.fieldLink RX11 143 "ShipOfficeModel" "hand" "[I") iw_X11_chooses_4) (fun _ h9 => h9) rfl dX11_chooses_81 ?_
            refine lv_iload_n hx hb dX11_chooses_84 rfl (lv_at hl 1 rfl) ?_
            refine lv_iconst (v := 1) hx hb dX11_chooses_85 (by decide +kernel) ?_
            refine lv_isub hx hb dX11_chooses_86 ?_
            refine lv_topi (fun x_144 ex_144 => ?_)
            have hx_144 : x_144.toInt = x1.toInt - 1 := (iv_to ex_144).trans (sb_i rfl (by decide +kernel) (by omega) (by omega))
            clear ex_144
            refine va_iald hx hb hK hP 45 44 rfl rfl (vp_in_iff.mpr (by omega)) dX11_chooses_87 ?_
            refine lv_topi (fun x_145 ex_145 => ?_)
            have hx_145 : 0 ≤ x_145.toInt ∧ x_145.toInt ≤ 11 := iv_of ex_145 (gA 56 _)
            clear ex_145
            refine lv_iconst (v := 1) hx hb dX11_chooses_88 (by decide +kernel) ?_
            refine lv_iadd hx hb dX11_chooses_89 ?_
            refine lv_topi (fun x_146 ex_146 => ?_)
            have hx_146 : x_146.toInt = x_145.toInt + 1 := (iv_to ex_146).trans (ad_i rfl (by decide +kernel) (by omega) (by omega))
            clear ex_146
            refine lv_goto (tgt := 94) hx hb dX11_chooses_90 (by decide +kernel) ?_
            refine lv_istore (lv' := [(4, .int x_146), (0, .ref g0), (1, .int x1), (2, .int x2), (3, .int x3)]) hx hb dX11_chooses_94 hl (by decide +kernel) rfl (fun ls hl => ?_)
            refine lv_iload hx hb dX11_chooses_96 (lv_at hl 0 rfl) ?_
            refine lv_istore (lv' := [(5, .int x_146), (4, .int x_146), (0, .ref g0), (1, .int x1), (2, .int x2), (3, .int x3)]) hx hb dX11_chooses_98 hl (by decide +kernel) rfl (fun ls hl => ?_)
            have cut_147 : ∀ (n : Nat) (y_148 : Int32) (z_149 : Nat → Int32) (fz_150 : Nat → Nat → Int32) (H : Heap) (locs : List Loc) (ls : Array Slot), 12 - y_148.toInt ≤ (n : Int) → (0 ≤ y_148.toInt ∧ y_148.toInt ≤ 12) → mV z_149 → mA fz_150 → scr v fa z_149 fz_150 → va_P (dC, dI) vwCl (mW g0 pq cp z_149 fz_150) H → va_D A (mW g0 pq cp z_149 fz_150) → va_S A s.heap H locs → (z_149 59).toInt = (v 59).toInt → lv_has ls 7 [(5, .int y_148), (4, .int x_146), (0, .ref g0), (1, .int x1), (2, .int x2), (3, .int x3)] → W p l e (headSpec wsX11_chooses { frames := 5, cells := 0, slots := 0, locals := 130 }).room s m #[Value.ref g0, Value.int x1, Value.int x2, Value.int x3] below meth c H locs 0 0 (MQ below (va_Qv (fun (u : (Nat → Int32) × (Nat → Nat → Int32)) => mV u.1 ∧ mA u.2 ∧ scr v fa u.1 u.2 ∧ ((u.1 59).toInt = (v 59).toInt)) (fun u t => va_P (dC, dI) vwCl (mW g0 pq cp u.1 u.2) t.heap ∧ va_K (dC, dI) vwCl (mT cp) t ∧ va_D A (mW g0 pq cp u.1 u.2)) A) #[Value.ref g0, Value.int x1, Value.int x2, Value.int x3] s 0 0 A) (F0 m 100 ls []) := by
              intro n
              induction n using Nat.strongRecOn with
              | ind n ih =>
                intro y_148 z_149 fz_150 H locs ls hm hy_148 hVz_149 hAz_149 hRz_149 hP hD hS g_151 hl
                refine lv_iload hx hb dX11_chooses_100 (lv_at hl 0 rfl) ?_
                refine lv_aload_n hx hb dX11_chooses_102 rfl (lv_at hl 2 rfl) ?_
                refine va_get (D := (dC, dI)) (ci := 11) (v := .int (z_149 58)) (C := RX11) (T := TX11) (N := 63) hx hb hts in_wsX11_chooses_X11 hown hK hP 0 rfl rfl 58 (by decide +kernel) (hts (.fieldLink RX11 344 "ShipOfficeModel" "someMany" "I") iw_X11_chooses_6) (fun _ h9 => h9) rfl dX11_chooses_103 ?_
                refine lv_topi (fun x_152 ex_152 => ?_)
                have hx_152 : 0 ≤ x_152.toInt ∧ x_152.toInt ≤ 12 := iv_of ex_152 (hVz_149 58)
                clear ex_152
                refine lv_icmp_ge (tgt := 181) hx hb dX11_chooses_106 (by decide +kernel) (fun c_153 => ?_) (fun c_153 => ?_)
                · have dc_153 := c_le (a := x_152.toInt) (b := y_148.toInt) rfl rfl c_153
                  exact W.vret hx hb hr (fun t ht hW => ⟨⟨(z_149, fz_150), rfl, ⟨hVz_149, hAz_149, hRz_149, (by dsimp only; omega)⟩, ⟨by rw [ht]; exact hP, va_K.moved hW.alike hK, hD⟩⟩, hS.F ht⟩) hS.2.2 dX11_chooses_181
                · have dc_153 := c_nle (a := x_152.toInt) (b := y_148.toInt) rfl rfl c_153
                  have cut_154 : ∀ (z_155 : Nat → Int32) (fz_156 : Nat → Nat → Int32) (H : Heap) (locs : List Loc) (ls : Array Slot), mV z_155 → mA fz_156 → scr v fa z_155 fz_156 → va_P (dC, dI) vwCl (mW g0 pq cp z_155 fz_156) H → va_D A (mW g0 pq cp z_155 fz_156) → va_S A s.heap H locs → (z_155 59).toInt = (z_149 59).toInt → lv_has ls 7 [(5, .int y_148), (4, .int x_146), (0, .ref g0), (1, .int x1), (2, .int x2), (3, .int x3)] → W p l e (headSpec wsX11_chooses { frames := 5, cells := 0, slots := 0, locals := 130 }).room s m #[Value.ref g0, Value.int x1, Value.int x2, Value.int x3] below meth c H locs 0 0 (MQ below (va_Qv (fun (u : (Nat → Int32) × (Nat → Nat → Int32)) => mV u.1 ∧ mA u.2 ∧ scr v fa u.1 u.2 ∧ ((u.1 59).toInt = (v 59).toInt)) (fun u t => va_P (dC, dI) vwCl (mW g0 pq cp u.1 u.2) t.heap ∧ va_K (dC, dI) vwCl (mT cp) t ∧ va_D A (mW g0 pq cp u.1 u.2)) A) #[Value.ref g0, Value.int x1, Value.int x2, Value.int x3] s 0 0 A) (F0 m 175 ls []) := by
                    intro  z_155 fz_156 H locs ls hVz_155 hAz_155 hRz_155 hP hD hS g_157 hl
                    obtain ⟨x_158, ex_158⟩ : ∃ zq : Int32, y_148 + 1 = zq := ⟨_, rfl⟩
                    have hx_158 : x_158.toInt = y_148.toInt + 1 := (iv_to ex_158).symm.trans (ad_i rfl (by decide +kernel) (by omega) (by omega))
                    refine lv_iinc (v := x_158) (lv' := [(5, .int x_158), (4, .int x_146), (0, .ref g0), (1, .int x1), (2, .int x2), (3, .int x3)]) hx hb dX11_chooses_175 hl (k := 0) rfl ex_158 (by decide +kernel) rfl (fun ls hl => ?_)
                    clear ex_158
                    refine lv_goto (tgt := 100) hx hb dX11_chooses_178 (by decide +kernel) ?_
                    exact ih (n - 1) (by omega) x_158 z_155 fz_156 _ _ ls (by omega) (by omega) hVz_155 hAz_155 hRz_155 hP hD hS (by omega) (lv_sub hl [0, 1, 2, 3, 4, 5] rfl)
                  refine lv_aload_n hx hb dX11_chooses_109 rfl (lv_at hl 2 rfl) ?_
                  refine va_get (D := (dC, dI)) (ci := 11) (v := .ref (pq 5)) (C := RX11) (T := TX11) (N := 63) hx hb hts in_wsX11_chooses_X11 hown hK hP 0 rfl rfl 5 (by decide +kernel) (hts (.fieldLink RX11 25 "ShipOfficeModel" "asks" "[I") iw_X11_chooses_7) (fun _ h9 => h9) rfl dX11_chooses_110 ?_
                  refine lv_iconst (v := 4) hx hb dX11_chooses_113 (by decide +kernel) ?_
                  refine lv_aload_n hx hb dX11_chooses_114 rfl (lv_at hl 2 rfl) ?_
                  refine va_get (D := (dC, dI)) (ci := 11) (v := .ref (pq 54)) (C := RX11) (T := TX11) (N := 63) hx hb hts in_wsX11_chooses_X11 hown hK hP 0 rfl rfl 54 (by decide +kernel) (hts (.fieldLink RX11 137 "ShipOfficeModel" "some" "[I") iw_X11_chooses_8) (fun _ h9 => h9) rfl dX11_chooses_115 ?_
                  refine lv_iload hx hb dX11_chooses_118 (lv_at hl 0 rfl) ?_
                  refine va_iald hx hb hK hP 43 42 rfl rfl (vp_in_iff.mpr (by omega)) dX11_chooses_120 ?_
                  refine lv_topi (fun x_159 ex_159 => ?_)
                  have hx_159 : 0 ≤ x_159.toInt ∧ x_159.toInt ≤ 39 := iv_of ex_159 (hAz_149 54 _)
                  clear ex_159
                  refine lv_imul hx hb dX11_chooses_121 ?_
                  refine lv_topi (fun x_160 ex_160 => ?_)
                  have hx_160 : x_160.toInt = 4 * x_159.toInt := (iv_to ex_160).trans (mu_i (by decide +kernel) rfl (by omega) (by omega))
                  clear ex_160
                  refine lv_aload_n hx hb dX11_chooses_122 rfl (lv_at hl 2 rfl) ?_
                  refine va_get (D := (dC, dI)) (ci := 11) (v := .ref (pq 55)) (C := RX11) (T := TX11) (N := 63) hx hb hts in_wsX11_chooses_X11 hown hK hP 0 rfl rfl 55 (by decide +kernel) (hts (.fieldLink RX11 140 "ShipOfficeModel" "handRank" "[I") iw_X11_chooses_5) (fun _ h9 => h9) rfl dX11_chooses_123 ?_
                  refine lv_iload_n hx hb dX11_chooses_126 rfl (lv_at hl 3 rfl) ?_
                  refine va_iald hx hb hK hP 44 43 rfl rfl (vp_in_iff.mpr (by omega)) dX11_chooses_127 ?_
                  refine lv_topi (fun x_161 ex_161 => ?_)
                  have hx_161 : 0 ≤ x_161.toInt ∧ x_161.toInt ≤ 3 := iv_of ex_161 (hAz_149 55 _)
                  clear ex_161
                  refine lv_iadd hx hb dX11_chooses_128 ?_
                  refine lv_topi (fun x_162 ex_162 => ?_)
                  have hx_162 : x_162.toInt = x_160.toInt + x_161.toInt := (iv_to ex_162).trans (ad_i rfl rfl (by omega) (by omega))
                  clear ex_162
                  refine va_iald hx hb hK hP 6 5 rfl rfl (vp_in_iff.mpr (by omega)) dX11_chooses_129 ?_
                  refine lv_topi (fun x_163 ex_163 => ?_)
                  clear ex_163
                  refine lv_istore (lv' := [(6, .int x_163), (5, .int y_148), (4, .int x_146), (0, .ref g0), (1, .int x1), (2, .int x2), (3, .int x3)]) hx hb dX11_chooses_130 hl (by decide +kernel) rfl (fun ls hl => ?_)
                  refine lv_iload hx hb dX11_chooses_132 (lv_at hl 0 rfl) ?_
                  refine lv_if_eq (tgt := 175) hx hb dX11_chooses_134 (by decide +kernel) (fun c_164 => ?_) (fun c_164 => ?_)
                  · have dc_164 := c_eq (a := x_163.toInt) (b := 0) rfl (by decide +kernel) c_164
                    exact cut_154  z_149 fz_150 _ _ ls  hVz_149 hAz_149 hRz_149 hP hD hS (by omega) (lv_sub hl [1, 2, 3, 4, 5, 6] rfl)
                  · have dc_164 := c_ne (a := x_163.toInt) (b := 0) rfl (by decide +kernel) c_164
                    refine lv_iload_n hx hb dX11_chooses_137 rfl (lv_at hl 5 rfl) ?_
                    refine lv_iload hx hb dX11_chooses_138 (lv_at hl 1 rfl) ?_
                    refine lv_ishr hx hb dX11_chooses_140 ?_
                    refine lv_topi (fun x_165 ex_165 => ?_)
                    clear ex_165
                    refine lv_iconst (v := 1) hx hb dX11_chooses_141 (by decide +kernel) ?_
                    refine lv_iand hx hb dX11_chooses_142 ?_
                    refine lv_topi (fun x_166 ex_166 => ?_)
                    clear ex_166
                    refine lv_iconst (v := 1) hx hb dX11_chooses_143 (by decide +kernel) ?_
                    refine lv_icmp_ne (tgt := 150) hx hb dX11_chooses_144 (by decide +kernel) (fun c_167 => ?_) (fun c_167 => ?_)
                    · have dc_167 := c_ne (a := x_166.toInt) (b := 1) rfl (by decide +kernel) c_167
                      refine lv_aload_n hx hb dX11_chooses_150 rfl (lv_at hl 3 rfl) ?_
                      refine va_get (D := (dC, dI)) (ci := 11) (v := .ref (pq 56)) (C := RX11) (T := TX11) (N := 63) hx hb hts in_wsX11_chooses_X11 hown hK hP 0 rfl rfl 56 (by decide +kernel) (hts (.fieldLink RX11 143 "ShipOfficeModel" "hand" "[I") iw_X11_chooses_4) (fun _ h9 => h9) rfl dX11_chooses_151 ?_
                      refine lv_iload_n hx hb dX11_chooses_154 rfl (lv_at hl 4 rfl) ?_
                      refine lv_iload hx hb dX11_chooses_155 (lv_at hl 1 rfl) ?_
                      refine va_iast hx hb hK hP hD hS 45 44 rfl rfl (vp_in_iff.mpr (by omega)) dX11_chooses_157 (fun H locs hP hD hS => ?_)
                      have hP : va_P (dC, dI) vwCl (mW g0 pq cp z_149 (upF fz_150 56 (x1 : Int32).toNatClampNeg y_148)) H := hP
                      have hD : va_D A (mW g0 pq cp z_149 (upF fz_150 56 (x1 : Int32).toNatClampNeg y_148)) := hD
                      obtain ⟨fz_168, efz_168⟩ : ∃ zq, zq = (upF fz_150 56 (x1 : Int32).toNatClampNeg y_148) := ⟨_, rfl⟩
                      rw [← efz_168] at hP hD
                      have hAfz_168 : mA fz_168 := by rw [efz_168]; exact mA_upF (lo := 0) (hi := 11) hAz_149 rfl rfl (by omega)
                      have hRfz_168 : scr v fa z_149 fz_168 := by rw [efz_168]; exact scr.uF hRz_149 rfl
                      refine lv_aload_n hx hb dX11_chooses_158 rfl (lv_at hl 3 rfl) ?_
                      refine lv_iload_n hx hb dX11_chooses_159 rfl (lv_at hl 4 rfl) ?_
                      refine lv_iconst (v := 1) hx hb dX11_chooses_160 (by decide +kernel) ?_
                      refine lv_iadd hx hb dX11_chooses_161 ?_
                      refine lv_topi (fun x_169 ex_169 => ?_)
                      have hx_169 : x_169.toInt = x1.toInt + 1 := (iv_to ex_169).trans (ad_i rfl (by decide +kernel) (by omega) (by omega))
                      clear ex_169
                      refine lv_iload_n hx hb dX11_chooses_162 rfl (lv_at hl 5 rfl) ?_
                      refine lv_iconst (v := 1) hx hb dX11_chooses_163 (by decide +kernel) ?_
                      refine lv_iload hx hb dX11_chooses_164 (lv_at hl 1 rfl) ?_
                      refine lv_ishl hx hb dX11_chooses_166 ?_
                      refine lv_topi (fun x_170 ex_170 => ?_)
                      clear ex_170
                      refine lv_ior hx hb dX11_chooses_167 ?_
                      refine lv_topi (fun x_171 ex_171 => ?_)
                      clear ex_171
                      refine lv_iload_n hx hb dX11_chooses_168 rfl (lv_at hl 6 rfl) ?_
                      refine lv_iload hx hb dX11_chooses_169 (lv_at hl 0 rfl) ?_
                      refine lv_iadd hx hb dX11_chooses_171 ?_
                      refine lv_topi (fun x_172 ex_172 => ?_)
                      clear ex_172
                      have hFc := va_free (wc := (mW g0 pq cp z_149 fz_168)) hD hS hA (List.range 48) rfl
                      refine va_callv (va_runV (As := [.int x_169, .int x_171, .int x_172]) (rest := []) ⟨hx, hb, hml, hown, hts⟩ (c_X11_chooses_4 l dC dI H.size g0 pq cp z_149 fz_168 hVz_149 hAfz_168 x_169 (by omega) x_171 x_172 (by omega)) (cwV 3 hts gX11_chooses_X11_chooses rfl rfl rfl (by decide +kernel) ⟨(Nat.le_of_ble_eq_true rfl), (Nat.le_of_ble_eq_true rfl)⟩) (pr_V (r := (RX11, TX11, 63)) hP hK hD 0 11 rfl rfl) rfl rfl hl.1 rfl (lv_room (Nat.le_of_ble_eq_true rfl)) dX11_chooses_172 ⟨(Nat.le_of_ble_eq_true rfl), (Nat.le_of_ble_eq_true rfl)⟩) hS (fun q _ h => hFc q h) hFc (fun u t H locs ht hvm w_173 hB hz1 hk1 hS => ?_)
                      obtain ⟨v_175, fa_176⟩ := u
                      obtain ⟨hP1, hK1, hD1⟩ := hB
                      rw [ht] at hP1
                      have hP : va_P (dC, dI) vwCl (mW g0 pq cp v_175 fa_176) H := hP1
                      have hD : va_D A (mW g0 pq cp v_175 fa_176) := hD1.weaken (fun _ _ _ h => hFc _ h)
                      clear hP1 hK1 hD1 hk1 hz1 hvm ht hFc
                      obtain ⟨hV_177, hA_178, hR_179, hx_180⟩ := w_173
                      dsimp only at hV_177 hA_178 hR_179 hx_180
                      have g_181 : (v_175 59).toInt = (z_149 59).toInt := hx_180
                      have R_182 := scr.tr hRfz_168 hR_179
                      exact cut_154  v_175 fa_176 _ _ ls  hV_177 hA_178 R_182 hP hD hS (by omega) (lv_sub hl [1, 2, 3, 4, 5, 6] rfl)
                    · have dc_167 := c_eq (a := x_166.toInt) (b := 1) rfl (by decide +kernel) c_167
                      refine lv_goto (tgt := 175) hx hb dX11_chooses_147 (by decide +kernel) ?_
                      exact cut_154  z_149 fz_150 _ _ ls  hVz_149 hAz_149 hRz_149 hP hD hS (by omega) (lv_sub hl [1, 2, 3, 4, 5, 6] rfl)
            exact cut_147 13 x_146 v fa _ _ ls (by omega) (by omega) gV gA scr.rf hP hD hS (by omega) (lv_sub hl [0, 1, 2, 3, 4, 5] rfl)
      · have dc_101 := c_eq (a := x1.toInt) (b := x_100.toInt) rfl rfl c_101
        refine lv_aload_n hx hb dX11_chooses_24 rfl (lv_at hl 0 rfl) ?_
        refine lv_iload_n hx hb dX11_chooses_25 rfl (lv_at hl 3 rfl) ?_
        refine va_put (D := (dC, dI)) (ci := 11) (v := .int x3) (ty := .int) (C := RX11) (T := TX11) (N := 63) hx hb hts in_wsX11_chooses_X11 tyX11 tyX11_ok nmX11 hown hK hP hD hS 0 rfl rfl 60 (by decide +kernel) (hts (.fieldLink RX11 338 "ShipOfficeModel" "least" "I") iw_X11_chooses_1) (fun _ h9 => h9) rfl (by decide +kernel) rfl rfl (Nat.le_of_ble_eq_true rfl) dX11_chooses_26 (fun H locs hP hD hS => ?_)
        have hP : va_P (dC, dI) vwCl (mW g0 pq cp (upd v 60 x3) fa) H := hP
        have hD : va_D A (mW g0 pq cp (upd v 60 x3) fa) := hD
        obtain ⟨z_183, ez_183⟩ : ∃ zq, zq = (upd v 60 x3) := ⟨_, rfl⟩
        rw [← ez_183] at hP hD
        have hVz_183 : mV z_183 := by rw [ez_183]; exact mV_upd (lo := -2147483648) (hi := 2147483647) gV rfl rfl (iv_all _)
        have hRz_183 : scr v fa z_183 fa := by rw [ez_183]; exact scr.up scr.rf rfl
        have g_184 : (z_183 59).toInt = (v 59).toInt := by rw [ez_183]; exact congrArg Int32.toInt (if_neg (by decide +kernel))
        refine lv_iconst (v := 0) hx hb dX11_chooses_29 (by decide +kernel) ?_
        refine lv_istore (lv' := [(4, .int 0), (0, .ref g0), (1, .int x1), (2, .int x2), (3, .int x3)]) hx hb dX11_chooses_30 hl (by decide +kernel) rfl (fun ls hl => ?_)
        have cut_185 : ∀ (n : Nat) (y_186 : Int32) (z_187 : Nat → Int32) (fz_188 : Nat → Nat → Int32) (H : Heap) (locs : List Loc) (ls : Array Slot), 8 - y_186.toInt ≤ (n : Int) → (0 ≤ y_186.toInt ∧ y_186.toInt ≤ 8) → mV z_187 → mA fz_188 → scr v fa z_187 fz_188 → va_P (dC, dI) vwCl (mW g0 pq cp z_187 fz_188) H → va_D A (mW g0 pq cp z_187 fz_188) → va_S A s.heap H locs → (z_187 59).toInt = (z_183 59).toInt → lv_has ls 7 [(4, .int y_186), (0, .ref g0), (1, .int x1), (2, .int x2), (3, .int x3)] → W p l e (headSpec wsX11_chooses { frames := 5, cells := 0, slots := 0, locals := 130 }).room s m #[Value.ref g0, Value.int x1, Value.int x2, Value.int x3] below meth c H locs 0 0 (MQ below (va_Qv (fun (u : (Nat → Int32) × (Nat → Nat → Int32)) => mV u.1 ∧ mA u.2 ∧ scr v fa u.1 u.2 ∧ ((u.1 59).toInt = (v 59).toInt)) (fun u t => va_P (dC, dI) vwCl (mW g0 pq cp u.1 u.2) t.heap ∧ va_K (dC, dI) vwCl (mT cp) t ∧ va_D A (mW g0 pq cp u.1 u.2)) A) #[Value.ref g0, Value.int x1, Value.int x2, Value.int x3] s 0 0 A) (F0 m 32 ls []) := by
          intro n
          induction n using Nat.strongRecOn with
          | ind n ih =>
            intro y_186 z_187 fz_188 H locs ls hm hy_186 hVz_187 hAz_187 hRz_187 hP hD hS g_189 hl
            refine lv_iload hx hb dX11_chooses_32 (lv_at hl 0 rfl) ?_
            refine lv_iload_n hx hb dX11_chooses_34 rfl (lv_at hl 2 rfl) ?_
            refine lv_icmp_ge (tgt := 58) hx hb dX11_chooses_35 (by decide +kernel) (fun c_190 => ?_) (fun c_190 => ?_)
            · have dc_190 := c_le (a := x1.toInt) (b := y_186.toInt) rfl rfl c_190
              exact W.vret hx hb hr (fun t ht hW => ⟨⟨(z_187, fz_188), rfl, ⟨hVz_187, hAz_187, hRz_187, (by dsimp only; omega)⟩, ⟨by rw [ht]; exact hP, va_K.moved hW.alike hK, hD⟩⟩, hS.F ht⟩) hS.2.2 dX11_chooses_58
            · have dc_190 := c_nle (a := x1.toInt) (b := y_186.toInt) rfl rfl c_190
              refine lv_aload_n hx hb dX11_chooses_38 rfl (lv_at hl 1 rfl) ?_
              refine va_get (D := (dC, dI)) (ci := 11) (v := .ref (pq 57)) (C := RX11) (T := TX11) (N := 63) hx hb hts in_wsX11_chooses_X11 hown hK hP 0 rfl rfl 57 (by decide +kernel) (hts (.fieldLink RX11 146 "ShipOfficeModel" "best" "[I") iw_X11_chooses_3) (fun _ h9 => h9) rfl dX11_chooses_39 ?_
              refine lv_iload hx hb dX11_chooses_42 (lv_at hl 0 rfl) ?_
              refine lv_aload_n hx hb dX11_chooses_44 rfl (lv_at hl 1 rfl) ?_
              refine va_get (D := (dC, dI)) (ci := 11) (v := .ref (pq 56)) (C := RX11) (T := TX11) (N := 63) hx hb hts in_wsX11_chooses_X11 hown hK hP 0 rfl rfl 56 (by decide +kernel) (hts (.fieldLink RX11 143 "ShipOfficeModel" "hand" "[I") iw_X11_chooses_4) (fun _ h9 => h9) rfl dX11_chooses_45 ?_
              refine lv_iload hx hb dX11_chooses_48 (lv_at hl 0 rfl) ?_
              refine va_iald hx hb hK hP 45 44 rfl rfl (vp_in_iff.mpr (by omega)) dX11_chooses_50 ?_
              refine lv_topi (fun x_191 ex_191 => ?_)
              have hx_191 : 0 ≤ x_191.toInt ∧ x_191.toInt ≤ 11 := iv_of ex_191 (hAz_187 56 _)
              clear ex_191
              refine va_iast hx hb hK hP hD hS 46 45 rfl rfl (vp_in_iff.mpr (by omega)) dX11_chooses_51 (fun H locs hP hD hS => ?_)
              have hP : va_P (dC, dI) vwCl (mW g0 pq cp z_187 (upF fz_188 57 (y_186 : Int32).toNatClampNeg x_191)) H := hP
              have hD : va_D A (mW g0 pq cp z_187 (upF fz_188 57 (y_186 : Int32).toNatClampNeg x_191)) := hD
              obtain ⟨fz_192, efz_192⟩ : ∃ zq, zq = (upF fz_188 57 (y_186 : Int32).toNatClampNeg x_191) := ⟨_, rfl⟩
              rw [← efz_192] at hP hD
              have hAfz_192 : mA fz_192 := by rw [efz_192]; exact mA_upF (lo := 0) (hi := 11) hAz_187 rfl rfl (by omega)
              have hRfz_192 : scr v fa z_187 fz_192 := by rw [efz_192]; exact scr.uF hRz_187 rfl
              obtain ⟨x_193, ex_193⟩ : ∃ zq : Int32, y_186 + 1 = zq := ⟨_, rfl⟩
              have hx_193 : x_193.toInt = y_186.toInt + 1 := (iv_to ex_193).symm.trans (ad_i rfl (by decide +kernel) (by omega) (by omega))
              refine lv_iinc (v := x_193) (lv' := [(4, .int x_193), (0, .ref g0), (1, .int x1), (2, .int x2), (3, .int x3)]) hx hb dX11_chooses_52 hl (k := 0) rfl ex_193 (by decide +kernel) rfl (fun ls hl => ?_)
              clear ex_193
              refine lv_goto (tgt := 32) hx hb dX11_chooses_55 (by decide +kernel) ?_
              exact ih (n - 1) (by omega) x_193 z_187 fz_192 _ _ ls (by omega) (by omega) hVz_187 hAfz_192 hRfz_192 hP hD hS (by omega) (lv_sub hl [0, 1, 2, 3, 4] rfl)
        have kc_194 : (0 : Int32).toInt = 0 := by decide
        exact cut_185 9 0 z_183 fa _ _ ls (by omega) (by decide +kernel) hVz_183 gA hRz_183 hP hD hS (by omega) (lv_sub hl [0, 1, 2, 3, 4] rfl)
    · have dc_99 := c_nlt (a := x3.toInt) (b := x_98.toInt) rfl rfl c_99
      exact W.vret hx hb hr (fun t ht hW => ⟨⟨(v, fa), rfl, ⟨gV, gA, scr.rf, rfl⟩, ⟨by rw [ht]; exact hP, va_K.moved hW.alike hK, hD⟩⟩, hS.F ht⟩) hS.2.2 dX11_chooses_15
