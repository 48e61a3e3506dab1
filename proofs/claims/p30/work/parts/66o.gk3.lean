


theorem wyx_w {w : Nat → Nat → Int} {M : Int} {Dd : Nat → Int} {S : oS} {lr_ a b : Nat} {y : Int32} (h : ∀ x, x < 10 → (oI S lr_ x).toInt = Dd x) (hc : 0 < w a b ∧ Dd a < M ∧ Dd a + w a b < Dd b) (hy : y.toInt = Dd a + w a b) : ∀ x, x < 10 → (oI (setI S lr_ b y) lr_ x).toInt = wyx w M Dd a b x := fun x hx => by
  rw [setI_fun]
  unfold wyx
  by_cases c : x = b
  · rw [if_pos ⟨c, hc⟩, c, upd_eq]
    exact hy
  · rw [if_neg (fun q => c q.1), upd_ne c]
    exact h x hx
theorem wyx_o {w : Nat → Nat → Int} {M : Int} {Dd : Nat → Int} {S : oS} {lr_ a b : Nat} (h : ∀ x, x < 10 → (oI S lr_ x).toInt = Dd x) (hc : ¬ (0 < w a b ∧ Dd a < M ∧ Dd a + w a b < Dd b)) : ∀ x, x < 10 → (oI S lr_ x).toInt = wyx w M Dd a b x := fun x hx => by
  unfold wyx
  rw [if_neg (fun q => hc q.2)]
  exact h x hx
set_option maxHeartbeats 4000000 in
set_option maxRecDepth 100000 in
theorem c_X7_shorten_c (l : Launch) (dC : Nat → ClassId) (dI : Nat → Nat → Nat) (sz : Nat) (cq : Nat → ClassId) (Z : oS) (gI : oInv Z) (o : Nat) (to : oty Z o 7) (mr_ lr_ : Nat) (hmL : oP Z o 0 = some mr_) (hlS : oP Z o 1 = some lr_) (Wm : Nat → Nat → Int) (hWm : ∀ a b, a < 10 → b < 10 → (oI Z mr_ (10 * a + b)).toInt = Wm a b) (hWb : ∀ a b, 0 ≤ Wm a b ∧ Wm a b ≤ 9999) (Dd : Nat → Int) (hDd : ∀ x, x < 10 → (oI Z lr_ x).toInt = Dd x) (hDb : ∀ x, 0 ≤ Dd x ∧ Dd x ≤ 1000000) : Met l yX7_shorten wsX7_shorten ({ frames := 0, cells := 0, slots := 0, locals := 0 }) (va_Pc [.ref o] (pcW (dC, dI) (oT cq) (oW cq Z) sz)) (va_Qv (fun (u : oS) => oInv u ∧ oX [2110] Z u ∧ (∀ x, x < 10 → (oI u lr_ x).toInt = wyA Wm 1000000 Dd 10 x)) (fun u t => va_P (dC, dI) vwCl (oW cq u) t.heap ∧ va_K (dC, dI) vwCl (oT cq) t ∧ va_D (va_A (oW cq Z) sz) (oW cq u)) (va_A (oW cq Z) sz)) 0 0 (va_A (oW cq Z) sz) := by
  refine Met.ofW (cc := cX7_shorten) (maxL := 4) (ret := none) (by decide) rfl ?_
  intro p e s m args below meth c s₁ B hml hv
  obtain ⟨rfl, hsz, hP, hK, hD0⟩ := hv
  have hx := B.exec
  have hb := B.bytes
  have hr := B.returns
  have hts := atoms_spec (ws := wsX7_shorten) B.pre
  have hown : s.vm.findClass RX7 = some m.cls := findClass_of_methodNamed B.named
  have hlocks := B.notSynchronized
  subst hsz
  have hD := hD0.self (sz := s.heap.size)
  generalize hAe : va_A (oW cq Z) s.heap.size = A at hD ⊢
  have hA : ∀ q : Nat, s.heap.size ≤ q → A q := fun q h => by rw [← hAe]; exact Or.inr h
  have hS : va_S A s.heap s.heap [] := va_S.rf
  have hP : va_P (dC, dI) vwCl (oW cq Z) s.heap := hP
  have hl := lv_entry ([.ref o]) (n := 4) (Nat.le_of_ble_eq_true rfl)
  rw [lg_entry_eq]
  generalize (lg_sl ([.ref o]) ++ List.replicate (4 - (lg_sl ([.ref o])).length) Slot.unset).toArray = ls at hl ⊢
  have hl : lv_has ls 4 [(0, .ref o)] := hl
  have tmr : oty Z mr_ 200 := oInv.rd gI to.2 hmL rfl rfl
  have tlr : oty Z lr_ 110 := oInv.rd gI to.2 hlS rfl rfl
  refine lv_iconst (v := 0) hx hb dX7_shorten_0 (by decide) ?_
  refine lv_istore_n (lv' := [(1, .int 0), (0, .ref o)]) hx hb dX7_shorten_1 rfl hl (by decide) rfl (fun ls hl => ?_)
  have cut_1 : ∀ (n : Nat) (y_2 : Int32) (S_3 : oS) (H : Heap) (locs : List Loc) (ls : Array Slot), 10 - y_2.toInt ≤ (n : Int) → (0 ≤ y_2.toInt ∧ y_2.toInt ≤ 10) → (∀ x, x < 10 → (oI S_3 lr_ x).toInt = (wyA Wm 1000000 Dd y_2.toNatClampNeg) x) → oInv S_3 → oX [2110] Z S_3 → va_P (dC, dI) vwCl (oW cq S_3) H → va_D A (oW cq S_3) → va_S A s.heap H locs → oP S_3 o 0 = some mr_ → oP S_3 o 1 = some lr_ → lv_has ls 4 [(1, .int y_2), (0, .ref o)] → W p l e (headSpec wsX7_shorten { frames := 0, cells := 0, slots := 0, locals := 0 }).room s m #[Value.ref o] below meth c H locs 0 0 (MQ below (va_Qv (fun (u : oS) => oInv u ∧ oX [2110] Z u ∧ (∀ x, x < 10 → (oI u lr_ x).toInt = wyA Wm 1000000 Dd 10 x)) (fun u t => va_P (dC, dI) vwCl (oW cq u) t.heap ∧ va_K (dC, dI) vwCl (oT cq) t ∧ va_D A (oW cq u)) A) #[Value.ref o] s 0 0 A) (F0 m 2 ls []) := by
    intro n
    induction n using Nat.strongRecOn with
    | ind n ih =>
      intro y_2 S_3 H locs ls hm hy_2 hq0_cut_1 hIS_3 XS_3 hP hD hS pk_4 pk_5 hl
      have YS_3 : oX [2110] Z S_3 := oX.st oX.rf XS_3 (fun _ q => q)
      have tn_6 : ((y_2.toNatClampNeg : Nat) : Int) = y_2.toInt := tn_i (by omega)
      refine lv_iload_n hx hb dX7_shorten_2 rfl (lv_at hl 0 rfl) ?_
      refine lv_bipush (v := 10) hx hb dX7_shorten_3 (by decide) ?_
      refine lv_icmp_ge (tgt := 75) hx hb dX7_shorten_5 (by decide) (fun c_7 => ?_) (fun c_7 => ?_)
      · have dc_7 := c_le (a := 10) (b := y_2.toInt) (by decide) rfl c_7
        exact W.vret hx hb hr (fun t ht hW => ⟨⟨S_3, rfl, ⟨hIS_3, YS_3, (fun x hx => by have q := hq0_cut_1 x hx; rw [(show y_2.toNatClampNeg = 10 from (show y_2.toInt.toNat = 10 by omega))] at q; exact q)⟩, ⟨by rw [ht]; exact hP, va_K.moved hW.alike hK, hD⟩⟩, hS.F ht⟩) hS.2.2 dX7_shorten_75
      · have dc_7 := c_nle (a := 10) (b := y_2.toInt) (by decide) rfl c_7
        refine lv_iconst (v := 0) hx hb dX7_shorten_8 (by decide) ?_
        refine lv_istore_n (lv' := [(2, .int 0), (1, .int y_2), (0, .ref o)]) hx hb dX7_shorten_9 rfl hl (by decide) rfl (fun ls hl => ?_)
        have cut_8 : ∀ (n2 : Nat) (y_9 : Int32) (S_10 : oS) (H : Heap) (locs : List Loc) (ls : Array Slot), 10 - y_9.toInt ≤ (n2 : Int) → (0 ≤ y_9.toInt ∧ y_9.toInt ≤ 10) → (∀ x, x < 10 → (oI S_10 lr_ x).toInt = (wyB Wm 1000000 (wyA Wm 1000000 Dd y_2.toNatClampNeg) y_2.toNatClampNeg y_9.toNatClampNeg) x) → oInv S_10 → oX [2110] S_3 S_10 → va_P (dC, dI) vwCl (oW cq S_10) H → va_D A (oW cq S_10) → va_S A s.heap H locs → oP S_10 o 0 = some mr_ → oP S_10 o 1 = some lr_ → lv_has ls 4 [(2, .int y_9), (1, .int y_2), (0, .ref o)] → W p l e (headSpec wsX7_shorten { frames := 0, cells := 0, slots := 0, locals := 0 }).room s m #[Value.ref o] below meth c H locs 0 0 (MQ below (va_Qv (fun (u : oS) => oInv u ∧ oX [2110] Z u ∧ (∀ x, x < 10 → (oI u lr_ x).toInt = wyA Wm 1000000 Dd 10 x)) (fun u t => va_P (dC, dI) vwCl (oW cq u) t.heap ∧ va_K (dC, dI) vwCl (oT cq) t ∧ va_D A (oW cq u)) A) #[Value.ref o] s 0 0 A) (F0 m 10 ls []) := by
          intro n2
          induction n2 using Nat.strongRecOn with
          | ind n2 ih2 =>
            intro y_9 S_10 H locs ls hm hy_9 hq0_cut_8 hIS_10 XS_10 hP hD hS pk_11 pk_12 hl
            have YS_10 : oX [2110] Z S_10 := oX.st YS_3 XS_10 (fun _ q => q)
            have tn_13 : ((y_9.toNatClampNeg : Nat) : Int) = y_9.toInt := tn_i (by omega)
            refine lv_iload_n hx hb dX7_shorten_10 rfl (lv_at hl 0 rfl) ?_
            refine lv_bipush (v := 10) hx hb dX7_shorten_11 (by decide) ?_
            refine lv_icmp_ge (tgt := 69) hx hb dX7_shorten_13 (by decide) (fun c_14 => ?_) (fun c_14 => ?_)
            · have dc_14 := c_le (a := 10) (b := y_9.toInt) (by decide) rfl c_14
              obtain ⟨x_15, ex_15⟩ : ∃ zq : Int32, y_2 + 1 = zq := ⟨_, rfl⟩
              have hx_15 : x_15.toInt = y_2.toInt + 1 := (iv_to ex_15).symm.trans (ad_i rfl (by decide) (by omega) (by omega))
              refine lv_iinc (v := x_15) (lv' := [(1, .int x_15), (2, .int y_9), (0, .ref o)]) hx hb dX7_shorten_69 hl (k := 1) rfl ex_15 (by decide) rfl (fun ls hl => ?_)
              clear ex_15
              refine lv_goto (tgt := 2) hx hb dX7_shorten_72 (by decide) ?_
              exact ih (n - 1) (by omega) x_15 S_10 _ _ ls (by omega) (by omega) (fun x hx => by have q := hq0_cut_8 x hx; rw [(show y_9.toNatClampNeg = 10 from (show y_9.toInt.toNat = 10 by omega))] at q; rw [(show x_15.toNatClampNeg = y_2.toNatClampNeg + 1 from (show x_15.toInt.toNat = y_2.toInt.toNat + 1 by omega))]; exact q) hIS_10 (oX.st (oX.st oX.rf XS_3 (by decide)) XS_10 (by decide)) hP hD hS pk_11 pk_12 (lv_sub hl [0, 2] rfl)
            · have dc_14 := c_nle (a := 10) (b := y_9.toInt) (by decide) rfl c_14
              refine lv_aload_n hx hb dX7_shorten_16 rfl (lv_at hl 2 rfl) ?_
              have t_16 : oty S_10 o 7 := (oX.ty XS_10 (oX.ty XS_3 to))
              obtain ⟨q_17, hq_17⟩ := og (cq := cq) t_16.1 (oE_7 t_16.2)
              refine va_get (D := (dC, dI)) (ci := 7) (v := .ref mr_) (C := RX7) (T := TX7) (N := 2) hx hb hts in_wsX7_shorten_X7 hown hK hP q_17 hq_17 rfl 0 (by decide) (hts (.fieldLink RX7 9 "ShipOffice$Sea" "miles" "[I") iw_X7_shorten_1) (fun _ h9 => h9) (o_rd pk_11) dX7_shorten_17 ?_
              refine lv_iload_n hx hb dX7_shorten_20 rfl (lv_at hl 1 rfl) ?_
              refine lv_bipush (v := 10) hx hb dX7_shorten_21 (by decide) ?_
              refine lv_imul hx hb dX7_shorten_23 ?_
              refine lv_topi (fun x_18 ex_18 => ?_)
              have hx_18 : x_18.toInt = y_2.toInt * 10 := (iv_to ex_18).trans (mu_i rfl (by decide) (by omega) (by omega))
              clear ex_18
              refine lv_iload_n hx hb dX7_shorten_24 rfl (lv_at hl 0 rfl) ?_
              refine lv_iadd hx hb dX7_shorten_25 ?_
              refine lv_topi (fun x_19 ex_19 => ?_)
              have hx_19 : x_19.toInt = x_18.toInt + y_9.toInt := (iv_to ex_19).trans (ad_i rfl rfl (by omega) (by omega))
              clear ex_19
              have t_20 : oty S_10 mr_ 200 := (oX.ty XS_10 (oX.ty XS_3 tmr))
              obtain ⟨q_21, hq_21⟩ := og (cq := cq) t_20.1 (oE_a1 (n := 100) t_20.2 (by decide))
              refine va_iald hx hb hK hP q_21 0 hq_21 rfl (vp_in_iff.mpr (by omega)) dX7_shorten_26 ?_
              refine lv_topi (fun x_22 ex_22 => ?_)
              have gx_22 : x_22.toInt = (oI S_10 mr_ (x_19 : Int32).toNatClampNeg).toInt := iv_to ex_22
              rw [oX.f (W := [2110]) (oX.st (oX.st oX.rf XS_3 (by decide)) XS_10 (by decide)) tmr (fun _ => nkw (by decide) (by decide) (by decide))] at gx_22
              rw [show (x_19 : Int32).toNatClampNeg = 10 * y_2.toNatClampNeg + y_9.toNatClampNeg from (show x_19.toInt.toNat = 10 * y_2.toInt.toNat + y_9.toInt.toNat by omega), hWm y_2.toNatClampNeg y_9.toNatClampNeg (ni_lt10 (by omega) (by omega)) (ni_lt10 (by omega) (by omega))] at gx_22
              have gbx_22 : 0 ≤ x_22.toInt ∧ x_22.toInt ≤ 9999 := by rw [gx_22]; exact hWb _ _
              refine lv_istore_n (lv' := [(3, .int x_22), (2, .int y_9), (1, .int y_2), (0, .ref o)]) hx hb dX7_shorten_27 rfl hl (by decide) rfl (fun ls hl => ?_)
              refine lv_iload_n hx hb dX7_shorten_28 rfl (lv_at hl 0 rfl) ?_
              refine lv_if_le (tgt := 63) hx hb dX7_shorten_29 (by decide) (fun c_23 => ?_) (fun c_23 => ?_)
              · have dc_23 := c_le (a := x_22.toInt) (b := 0) rfl (by decide) c_23
                obtain ⟨x_24, ex_24⟩ : ∃ zq : Int32, y_9 + 1 = zq := ⟨_, rfl⟩
                have hx_24 : x_24.toInt = y_9.toInt + 1 := (iv_to ex_24).symm.trans (ad_i rfl (by decide) (by omega) (by omega))
                refine lv_iinc (v := x_24) (lv' := [(2, .int x_24), (3, .int x_22), (1, .int y_2), (0, .ref o)]) hx hb dX7_shorten_63 hl (k := 1) rfl ex_24 (by decide) rfl (fun ls hl => ?_)
                clear ex_24
                refine lv_goto (tgt := 10) hx hb dX7_shorten_66 (by decide) ?_
                exact ih2 (n2 - 1) (by omega) x_24 S_10 _ _ ls (by omega) (by omega) (by rw [(show x_24.toNatClampNeg = y_9.toNatClampNeg + 1 from (show x_24.toInt.toNat = y_9.toInt.toNat + 1 by omega))]; exact wyx_o hq0_cut_8 (by omega)) hIS_10 (oX.st oX.rf XS_10 (by decide)) hP hD hS pk_11 pk_12 (lv_sub hl [0, 2, 3] rfl)
              · have dc_23 := c_nle (a := x_22.toInt) (b := 0) rfl (by decide) c_23
                refine lv_aload_n hx hb dX7_shorten_32 rfl (lv_at hl 3 rfl) ?_
                refine va_get (D := (dC, dI)) (ci := 7) (v := .ref lr_) (C := RX7) (T := TX7) (N := 2) hx hb hts in_wsX7_shorten_X7 hown hK hP q_17 hq_17 rfl 1 (by decide) (hts (.fieldLink RX7 15 "ShipOffice$Sea" "least" "[I") iw_X7_shorten_2) (fun _ h9 => h9) (o_rd pk_12) dX7_shorten_33 ?_
                refine lv_iload_n hx hb dX7_shorten_36 rfl (lv_at hl 2 rfl) ?_
                have t_25 : oty S_10 lr_ 110 := (oX.ty XS_10 (oX.ty XS_3 tlr))
                obtain ⟨q_26, hq_26⟩ := og (cq := cq) t_25.1 (oE_a1 (n := 10) t_25.2 (by decide))
                refine va_iald hx hb hK hP q_26 0 hq_26 rfl (vp_in_iff.mpr (by omega)) dX7_shorten_37 ?_
                refine lv_topi (fun x_27 ex_27 => ?_)
                have gx_27 : x_27.toInt = (oI S_10 lr_ (y_2 : Int32).toNatClampNeg).toInt := iv_to ex_27
                have gfx_27 := hq0_cut_8 y_2.toNatClampNeg (ni_lt10 (by omega) (by omega))
                have gdx_27 := wyB_b (w := Wm) (M := 1000000) (d := wyA Wm 1000000 Dd y_2.toNatClampNeg) (a := y_2.toNatClampNeg) (x := y_2.toNatClampNeg) (n := y_9.toNatClampNeg) (fun x => wyA_0 (fun y => (hDb y).1) x) (fun x => Int.le_trans wyA_le (hDb x).2)
                have gwx_27 : 0 ≤ x_27.toInt ∧ x_27.toInt ≤ 1000000 := by omega
                refine lv_iload_n hx hb dX7_shorten_38 rfl (lv_at hl 0 rfl) ?_
                refine lv_iadd hx hb dX7_shorten_39 ?_
                refine lv_topi (fun x_28 ex_28 => ?_)
                have hx_28 : x_28.toInt = x_27.toInt + x_22.toInt := (iv_to ex_28).trans (ad_i rfl rfl (by omega) (by omega))
                clear ex_28
                refine lv_aload_n hx hb dX7_shorten_40 rfl (lv_at hl 3 rfl) ?_
                refine va_get (D := (dC, dI)) (ci := 7) (v := .ref lr_) (C := RX7) (T := TX7) (N := 2) hx hb hts in_wsX7_shorten_X7 hown hK hP q_17 hq_17 rfl 1 (by decide) (hts (.fieldLink RX7 15 "ShipOffice$Sea" "least" "[I") iw_X7_shorten_2) (fun _ h9 => h9) (o_rd pk_12) dX7_shorten_41 ?_
                refine lv_iload_n hx hb dX7_shorten_44 rfl (lv_at hl 1 rfl) ?_
                refine va_iald hx hb hK hP q_26 0 hq_26 rfl (vp_in_iff.mpr (by omega)) dX7_shorten_45 ?_
                refine lv_topi (fun x_29 ex_29 => ?_)
                have gx_29 : x_29.toInt = (oI S_10 lr_ (y_9 : Int32).toNatClampNeg).toInt := iv_to ex_29
                have gfx_29 := hq0_cut_8 y_9.toNatClampNeg (ni_lt10 (by omega) (by omega))
                have gdx_29 := wyB_b (w := Wm) (M := 1000000) (d := wyA Wm 1000000 Dd y_2.toNatClampNeg) (a := y_2.toNatClampNeg) (x := y_9.toNatClampNeg) (n := y_9.toNatClampNeg) (fun x => wyA_0 (fun y => (hDb y).1) x) (fun x => Int.le_trans wyA_le (hDb x).2)
                have gwx_29 : 0 ≤ x_29.toInt ∧ x_29.toInt ≤ 1000000 := by omega
                refine lv_icmp_ge (tgt := 63) hx hb dX7_shorten_46 (by decide) (fun c_30 => ?_) (fun c_30 => ?_)
                · have dc_30 := c_le (a := x_29.toInt) (b := x_28.toInt) rfl rfl c_30
                  obtain ⟨x_31, ex_31⟩ : ∃ zq : Int32, y_9 + 1 = zq := ⟨_, rfl⟩
                  have hx_31 : x_31.toInt = y_9.toInt + 1 := (iv_to ex_31).symm.trans (ad_i rfl (by decide) (by omega) (by omega))
                  refine lv_iinc (v := x_31) (lv' := [(2, .int x_31), (3, .int x_22), (1, .int y_2), (0, .ref o)]) hx hb dX7_shorten_63 hl (k := 1) rfl ex_31 (by decide) rfl (fun ls hl => ?_)
                  clear ex_31
                  refine lv_goto (tgt := 10) hx hb dX7_shorten_66 (by decide) ?_
                  exact ih2 (n2 - 1) (by omega) x_31 S_10 _ _ ls (by omega) (by omega) (by rw [(show x_31.toNatClampNeg = y_9.toNatClampNeg + 1 from (show x_31.toInt.toNat = y_9.toInt.toNat + 1 by omega))]; exact wyx_o hq0_cut_8 (by omega)) hIS_10 (oX.st oX.rf XS_10 (by decide)) hP hD hS pk_11 pk_12 (lv_sub hl [0, 2, 3] rfl)
                · have dc_30 := c_nle (a := x_29.toInt) (b := x_28.toInt) rfl rfl c_30
                  refine lv_aload_n hx hb dX7_shorten_49 rfl (lv_at hl 3 rfl) ?_
                  refine va_get (D := (dC, dI)) (ci := 7) (v := .ref lr_) (C := RX7) (T := TX7) (N := 2) hx hb hts in_wsX7_shorten_X7 hown hK hP q_17 hq_17 rfl 1 (by decide) (hts (.fieldLink RX7 15 "ShipOffice$Sea" "least" "[I") iw_X7_shorten_2) (fun _ h9 => h9) (o_rd pk_12) dX7_shorten_50 ?_
                  refine lv_iload_n hx hb dX7_shorten_53 rfl (lv_at hl 1 rfl) ?_
                  refine lv_aload_n hx hb dX7_shorten_54 rfl (lv_at hl 3 rfl) ?_
                  refine va_get (D := (dC, dI)) (ci := 7) (v := .ref lr_) (C := RX7) (T := TX7) (N := 2) hx hb hts in_wsX7_shorten_X7 hown hK hP q_17 hq_17 rfl 1 (by decide) (hts (.fieldLink RX7 15 "ShipOffice$Sea" "least" "[I") iw_X7_shorten_2) (fun _ h9 => h9) (o_rd pk_12) dX7_shorten_55 ?_
                  refine lv_iload_n hx hb dX7_shorten_58 rfl (lv_at hl 2 rfl) ?_
                  refine va_iald hx hb hK hP q_26 0 hq_26 rfl (vp_in_iff.mpr (by omega)) dX7_shorten_59 ?_
                  refine lv_topi (fun x_32 ex_32 => ?_)
                  have gx_32 : x_32.toInt = (oI S_10 lr_ (y_2 : Int32).toNatClampNeg).toInt := iv_to ex_32
                  have gfx_32 := hq0_cut_8 y_2.toNatClampNeg (ni_lt10 (by omega) (by omega))
                  have gdx_32 := wyB_b (w := Wm) (M := 1000000) (d := wyA Wm 1000000 Dd y_2.toNatClampNeg) (a := y_2.toNatClampNeg) (x := y_2.toNatClampNeg) (n := y_9.toNatClampNeg) (fun x => wyA_0 (fun y => (hDb y).1) x) (fun x => Int.le_trans wyA_le (hDb x).2)
                  have gwx_32 : 0 ≤ x_32.toInt ∧ x_32.toInt ≤ 1000000 := by omega
                  refine lv_iload_n hx hb dX7_shorten_60 rfl (lv_at hl 0 rfl) ?_
                  refine lv_iadd hx hb dX7_shorten_61 ?_
                  refine lv_topi (fun x_33 ex_33 => ?_)
                  have hx_33 : x_33.toInt = x_32.toInt + x_22.toInt := (iv_to ex_33).trans (ad_i rfl rfl (by omega) (by omega))
                  clear ex_33
                  refine va_iast hx hb hK hP hD hS q_26 0 hq_26 rfl (vp_in_iff.mpr (by omega)) dX7_shorten_62 (fun H locs hP1 hD1 hS => ?_)
                  obtain ⟨S_34, eS_34⟩ : ∃ zq, zq = setI S_10 lr_ (y_9 : Int32).toNatClampNeg x_33 := ⟨_, rfl⟩
                  have hP : va_P (dC, dI) vwCl (oW cq S_34) H := by rw [eS_34]; exact cP (oset t_25.1 hq_26 hD rfl (he_a1 (n := 10) t_25.2 (by decide)) neI) hP1
                  have hD : va_D A (oW cq S_34) := by rw [eS_34]; exact cD (oset t_25.1 hq_26 hD rfl (he_a1 (n := 10) t_25.2 (by decide)) neI) hD1
                  clear hP1 hD1
                  have hIS_34 : oInv S_34 := by rw [eS_34]; exact oInv.A (k := 110) hIS_10 t_25.2 (by decide)
                  have XS_34 : oX [2110] S_10 S_34 := by rw [eS_34]; exact oX.I (k := 110) (key := 2110) t_25.2 rfl (List.mem_singleton.mpr rfl)
                  have pk_35 : oP S_34 o 0 = some mr_ := by rw [eS_34]; exact pk_11
                  have pk_36 : oP S_34 o 1 = some lr_ := by rw [eS_34]; exact pk_12
                  have X_37 : oX [2110] Z S_34 := oX.st YS_10 XS_34 (by decide)
                  obtain ⟨x_38, ex_38⟩ : ∃ zq : Int32, y_9 + 1 = zq := ⟨_, rfl⟩
                  have hx_38 : x_38.toInt = y_9.toInt + 1 := (iv_to ex_38).symm.trans (ad_i rfl (by decide) (by omega) (by omega))
                  refine lv_iinc (v := x_38) (lv' := [(2, .int x_38), (3, .int x_22), (1, .int y_2), (0, .ref o)]) hx hb dX7_shorten_63 hl (k := 1) rfl ex_38 (by decide) rfl (fun ls hl => ?_)
                  clear ex_38
                  refine lv_goto (tgt := 10) hx hb dX7_shorten_66 (by decide) ?_
                  exact ih2 (n2 - 1) (by omega) x_38 S_34 _ _ ls (by omega) (by omega) (by rw [(show x_38.toNatClampNeg = y_9.toNatClampNeg + 1 from (show x_38.toInt.toNat = y_9.toInt.toNat + 1 by omega)), eS_34]; exact wyx_w hq0_cut_8 (by omega) (by omega)) hIS_34 (oX.st (oX.st oX.rf XS_10 (by decide)) XS_34 (by decide)) hP hD hS pk_35 pk_36 (lv_sub hl [0, 2, 3] rfl)
        have kc_39 : (0 : Int32).toInt = 0 := by decide
        exact cut_8 11 0 S_3 _ _ ls (by omega) (by decide) (fun x hx => by rw [(show (0 : Int32).toNatClampNeg = 0 from by decide)]; exact hq0_cut_1 x hx) hIS_3 oX.rf hP hD hS pk_4 pk_5 (lv_sub hl [0, 1, 2] rfl)
  have kc_40 : (0 : Int32).toInt = 0 := by decide
  exact cut_1 11 0 Z _ _ ls (by omega) (by decide) (fun x hx => by rw [(show (0 : Int32).toNatClampNeg = 0 from by decide)]; exact hDd x hx) gI oX.rf hP hD hS hmL hlS (lv_sub hl [0, 1] rfl)
