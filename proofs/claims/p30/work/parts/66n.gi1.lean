


set_option maxHeartbeats 4000000 in
set_option maxRecDepth 100000 in
theorem c_X1_shortPence_c (l : Launch) (dC : Nat → ClassId) (dI : Nat → Nat → Nat) (sz : Nat) (cq : Nat → ClassId) (Z : oS) (gI : oInv Z) (o : Nat) (to : oty Z o 1) (x1 : Int32) (h0 : Nat) (th : oty Z h0 10) (v : Nat → Int32) (fa : Nat → Nat → Int32) (hR : RC Z h0 v fa) (a : Nat) (ha : a < (v 43).toNatClampNeg) (ea : o = agA Z h0 a) (hE : RX Z h0 v fa) : Met l yX1_shortPence wsX1_shortPence ({ frames := 0, cells := 0, slots := 0, locals := 0 }) (va_Pc [.ref o, .int x1] (pcW (dC, dI) (oT cq) (oW cq Z) sz)) (va_Qi (fun (r : Int32) (u : Unit) => (0 ≤ r.toInt ∧ r.toInt ≤ 1978020) ∧ (r.toInt = shF fa a x1.toInt (fa 31 a).toNatClampNeg)) (fun _ _ => True) (va_A [] sz)) 0 0 (va_A [] sz) := by
  refine Met.ofW (cc := cX1_shortPence) (maxL := 4) (ret := (some .int)) (by decide) rfl ?_
  intro p e s m args below meth c s₁ B hml hv
  obtain ⟨rfl, hsz, hP, hK, hD0⟩ := hv
  have hx := B.exec
  have hb := B.bytes
  have hr := B.returns
  have hts := atoms_spec (ws := wsX1_shortPence) B.pre
  have hown : s.vm.findClass RX1 = some m.cls := findClass_of_methodNamed B.named
  have hlocks := B.notSynchronized
  subst hsz
  have hD := hD0
  generalize hAe : va_A [] s.heap.size = A at ⊢
  have hA : ∀ q : Nat, s.heap.size ≤ q → A q := fun q h => by rw [← hAe]; exact Or.inr h
  have hS : va_S A s.heap s.heap [] := va_S.rf
  have hP : va_P (dC, dI) vwCl (oW cq Z) s.heap := hP
  have hl := lv_entry ([.ref o, .int x1]) (n := 4) (Nat.le_of_ble_eq_true rfl)
  rw [lg_entry_eq]
  generalize (lg_sl ([.ref o, .int x1]) ++ List.replicate (4 - (lg_sl ([.ref o, .int x1])).length) Slot.unset).toArray = ls at hl ⊢
  have hl : lv_has ls 4 [(0, .ref o), (1, .int x1)] := hl
  obtain ⟨fn0, fn1, fn2, fn3, fn4⟩ := RC.n hR
  have fb38 : 0 ≤ (v 38).toInt ∧ (v 38).toInt ≤ 3000 := RC.V hR 38
  have fb39 : 0 ≤ (v 39).toInt ∧ (v 39).toInt ≤ 40 := RC.V hR 39
  have fb40 : 0 ≤ (v 40).toInt ∧ (v 40).toInt ≤ 20 := RC.V hR 40
  have fb43 : 0 ≤ (v 43).toInt ∧ (v 43).toInt ≤ 60 := RC.V hR 43
  have fb41 : 0 ≤ (v 41).toInt ∧ (v 41).toInt ≤ 200 := RC.V hR 41
  have fAo := RC.a hR ha
  rw [← ea] at fAo
  obtain ⟨⟨fm1o, fm2o, fm3o⟩, ⟨fv1o, fv2o, fv3o⟩, fsio, fppo, fwgo, frko, fofo, fdeo, fcho⟩ := fAo
  have fBo : 0 ≤ (fa 25 a).toInt ∧ (fa 25 a).toInt ≤ 3000 := RC.A hR 25 _
  have lamo : (fa 20 a).toNatClampNeg < (v 39).toNatClampNeg := ni_lt fm1o fm2o
  have namo : (((fa 20 a).toNatClampNeg : Nat) : Int) = (fa 20 a).toInt := tn_i fm1o
  obtain ⟨amo, eamo⟩ : ∃ z, z = mnA Z h0 (fa 20 a).toNatClampNeg := ⟨_, rfl⟩
  rw [← eamo] at fm3o
  have tamo : oty Z amo 6 := by rw [eamo]; exact (RC.tm hR gI th lamo).2
  have fMamo := RC.m hR lamo
  rw [← eamo] at fMamo
  obtain ⟨fz0amo, fz1amo, fz2amo, fz3amo⟩ := fMamo
  rw [namo] at fz0amo
  have lavo : (fa 21 a).toNatClampNeg < (v 40).toNatClampNeg := ni_lt fv1o fv2o
  have navo : (((fa 21 a).toNatClampNeg : Nat) : Int) = (fa 21 a).toInt := tn_i fv1o
  obtain ⟨avo, eavo⟩ : ∃ z, z = voA Z h0 (fa 21 a).toNatClampNeg := ⟨_, rfl⟩
  rw [← eavo] at fv3o
  have tavo : oty Z avo 9 := by rw [eavo]; exact (RC.tv hR gI th lavo).2
  have fVavo := RC.vo hR lavo
  rw [← eavo] at fVavo
  obtain ⟨fy0avo, fy1avo, fy2avo, fy3avo, fy4avo, fySavo, fyLavo, fyhavo⟩ := fVavo
  have fBavo : 0 ≤ (fa 7 ((fa 21 a).toNatClampNeg)).toInt ∧ (fa 7 ((fa 21 a).toNatClampNeg)).toInt ≤ 3000 := RC.A hR 7 _
  have fSavo := onc_i fySavo
  have fLavo := onc_i fyLavo
  rw [navo] at fy0avo fSavo fLavo
  have fEo := hE.1 a ha
  rw [← ea] at fEo
  obtain ⟨⟨fn1o, fn2o, fn3o⟩, fgo, ⟨fl1o, fl2o, fl3o⟩, ⟨ff1o, ff2o⟩, ⟨fs1o, fs2o, fs3o, fs4o, fs5o⟩⟩ := fEo
  unfold rXg at fgo
  have fX_1 : 0 ≤ (fa 30 a).toInt ∧ (fa 30 a).toInt ≤ 6 := RC.A hR 30 _
  have fX_2 : 0 ≤ (fa 31 a).toInt ∧ (fa 31 a).toInt ≤ 20 := RC.A hR 31 _
  have hOw := owB_of (o := h0) hR hE ha
  refine lv_iconst (v := 0) hx hb dX1_shortPence_0 (by decide) ?_
  refine lv_istore_n (lv' := [(2, .int 0), (0, .ref o), (1, .int x1)]) hx hb dX1_shortPence_1 rfl hl (by decide) rfl (fun ls hl => ?_)
  refine lv_iconst (v := 0) hx hb dX1_shortPence_2 (by decide) ?_
  refine lv_istore_n (lv' := [(3, .int 0), (2, .int 0), (0, .ref o), (1, .int x1)]) hx hb dX1_shortPence_3 rfl hl (by decide) rfl (fun ls hl => ?_)
  have cut_3 : ∀ (n : Nat) (y_4 : Int32) (y_5 : Int32) (H : Heap) (locs : List Loc) (ls : Array Slot), 20 - y_4.toInt ≤ (n : Int) → (0 ≤ y_4.toInt ∧ y_4.toInt ≤ 20) → (0 ≤ y_5.toInt ∧ y_5.toInt ≤ 1978020) → y_5.toInt = 0 + shF fa a x1.toInt y_4.toNatClampNeg → y_4.toInt ≤ (fa 31 a).toInt → va_P (dC, dI) vwCl (oW cq Z) H → va_S A s.heap H locs → lv_has ls 4 [(3, .int y_4), (2, .int y_5), (0, .ref o), (1, .int x1)] → W p l e (headSpec wsX1_shortPence { frames := 0, cells := 0, slots := 0, locals := 0 }).room s m #[Value.ref o, Value.int x1] below meth c H locs 0 0 (MQ below (va_Qi (fun (r : Int32) (u : Unit) => (0 ≤ r.toInt ∧ r.toInt ≤ 1978020) ∧ (r.toInt = shF fa a x1.toInt (fa 31 a).toNatClampNeg)) (fun _ _ => True) A) #[Value.ref o, Value.int x1] s 0 0 A) (F0 m 4 ls []) := by
    intro n
    induction n using Nat.strongRecOn with
    | ind n ih =>
      intro y_4 y_5 H locs ls hm hy_4 hy_5 hq0_cut_3 hq1_cut_3 hP hS hl
      have hsB := shF_b (k := x1.toInt) hOw (n := y_4.toNatClampNeg) (show y_4.toInt.toNat ≤ (fa 31 a).toInt.toNat by omega)
      have nsB : ((y_4.toNatClampNeg : Nat) : Int) = y_4.toInt := tn_i (by omega)
      refine lv_iload_n hx hb dX1_shortPence_4 rfl (lv_at hl 0 rfl) ?_
      refine lv_aload_n hx hb dX1_shortPence_5 rfl (lv_at hl 2 rfl) ?_
      obtain ⟨q_6, hq_6⟩ := og (cq := cq) to.1 (oE_1 to.2)
      refine va_get (D := (dC, dI)) (ci := 1) (v := .int (oI Z o 16)) (C := RX1) (T := TX1) (N := 18) hx hb hts in_wsX1_shortPence_X1 hown hK hP q_6 hq_6 rfl 16 (by decide) (hts (.fieldLink RX1 136 "ShipOffice$Agreement" "shortCount" "I") iw_X1_shortPence_1) (fun _ h9 => h9) rfl dX1_shortPence_6 ?_
      refine lv_topi (fun x_7 ex_7 => ?_)
      have hx_7 : 0 ≤ x_7.toInt ∧ x_7.toInt ≤ 20 := iv_of ex_7 (oInv.iv gI to.2 rfl rfl)
      have gx_7 : x_7.toInt = (oI Z o 16).toInt := iv_to ex_7
      clear ex_7
      refine lv_icmp_ge (tgt := 37) hx hb dX1_shortPence_9 (by decide) (fun c_8 => ?_) (fun c_8 => ?_)
      · have dc_8 := c_le (a := x_7.toInt) (b := y_4.toInt) rfl rfl c_8
        refine lv_iload_n hx hb dX1_shortPence_37 rfl (lv_at hl 1 rfl) ?_
        exact W.iret (v := y_5) hx hb hr (fun t ht hW => ⟨⟨y_5, (), rfl, ⟨(by omega), (by have q := hq0_cut_3; rw [show y_4.toNatClampNeg = (fa 31 a).toNatClampNeg from (show y_4.toInt.toNat = (fa 31 a).toInt.toNat by omega)] at q; omega)⟩, trivial⟩, hS.F ht⟩) hS.2.2 dX1_shortPence_38
      · have dc_8 := c_nle (a := x_7.toInt) (b := y_4.toInt) rfl rfl c_8
        refine lv_aload_n hx hb dX1_shortPence_12 rfl (lv_at hl 2 rfl) ?_
        obtain ⟨b_9, hb_9⟩ := oInv.nn (i := 14) gI to rfl
        refine va_get (D := (dC, dI)) (ci := 1) (v := .ref b_9) (C := RX1) (T := TX1) (N := 18) hx hb hts in_wsX1_shortPence_X1 hown hK hP q_6 hq_6 rfl 14 (by decide) (hts (.fieldLink RX1 22 "ShipOffice$Agreement" "shortTold" "[I") iw_X1_shortPence_2) (fun _ h9 => h9) (o_rd hb_9) dX1_shortPence_13 ?_
        have tb_9 : oty Z b_9 120 := oInv.rd gI to.2 hb_9 rfl rfl
        refine lv_iload_n hx hb dX1_shortPence_16 rfl (lv_at hl 0 rfl) ?_
        obtain ⟨q_10, hq_10⟩ := og (cq := cq) tb_9.1 (oE_a1 (n := 20) tb_9.2 (by decide))
        refine va_iald hx hb hK hP q_10 0 hq_10 rfl (vp_in_iff.mpr (by omega)) dX1_shortPence_17 ?_
        refine lv_topi (fun x_11 ex_11 => ?_)
        have hsx_11 := fs5o y_4.toNatClampNeg (show y_4.toInt.toNat < (fa 31 a).toInt.toNat by omega)
        rw [oQ_e hb_9] at hsx_11
        have gsx_11 : x_11.toInt = (fa 35 (20 * a + y_4.toNatClampNeg)).toInt := (show x_11.toInt = (oI Z b_9 y_4.toNatClampNeg).toInt from iv_to ex_11).trans (congrArg Int32.toInt hsx_11.1)
        refine lv_iload_n hx hb dX1_shortPence_18 rfl (lv_at hl 3 rfl) ?_
        refine lv_icmp_gt (tgt := 31) hx hb dX1_shortPence_19 (by decide) (fun c_12 => ?_) (fun c_12 => ?_)
        · have dc_12 := c_lt (a := x1.toInt) (b := x_11.toInt) rfl rfl c_12
          obtain ⟨x_13, ex_13⟩ : ∃ zq : Int32, y_4 + 1 = zq := ⟨_, rfl⟩
          have hx_13 : x_13.toInt = y_4.toInt + 1 := (iv_to ex_13).symm.trans (ad_i rfl (by decide) (by omega) (by omega))
          refine lv_iinc (v := x_13) (lv' := [(3, .int x_13), (2, .int y_5), (0, .ref o), (1, .int x1)]) hx hb dX1_shortPence_31 hl (k := 0) rfl ex_13 (by decide) rfl (fun ls hl => ?_)
          clear ex_13
          refine lv_goto (tgt := 4) hx hb dX1_shortPence_34 (by decide) ?_
          exact ih (n - 1) (by omega) x_13 y_5 _ _ ls (by omega) (by omega) (by omega) (sh_s hq0_cut_3 (by omega) (by omega) (by omega)) (by omega) hP hS (lv_sub hl [0, 1, 2, 3] rfl)
        · have dc_12 := c_nlt (a := x1.toInt) (b := x_11.toInt) rfl rfl c_12
          refine lv_iload_n hx hb dX1_shortPence_22 rfl (lv_at hl 1 rfl) ?_
          refine lv_aload_n hx hb dX1_shortPence_23 rfl (lv_at hl 2 rfl) ?_
          obtain ⟨b_14, hb_14⟩ := oInv.nn (i := 15) gI to rfl
          refine va_get (D := (dC, dI)) (ci := 1) (v := .ref b_14) (C := RX1) (T := TX1) (N := 18) hx hb hts in_wsX1_shortPence_X1 hown hK hP q_6 hq_6 rfl 15 (by decide) (hts (.fieldLink RX1 26 "ShipOffice$Agreement" "shortSum" "[I") iw_X1_shortPence_3) (fun _ h9 => h9) (o_rd hb_14) dX1_shortPence_24 ?_
          have tb_14 : oty Z b_14 64 := oInv.rd gI to.2 hb_14 rfl rfl
          refine lv_iload_n hx hb dX1_shortPence_27 rfl (lv_at hl 0 rfl) ?_
          obtain ⟨q_15, hq_15⟩ := og (cq := cq) tb_14.1 (oE_64 tb_14.2)
          refine va_iald hx hb hK hP q_15 0 hq_15 rfl (vp_in_iff.mpr (by omega)) dX1_shortPence_28 ?_
          refine lv_topi (fun x_16 ex_16 => ?_)
          have hsx_16 := fs5o y_4.toNatClampNeg (show y_4.toInt.toNat < (fa 31 a).toInt.toNat by omega)
          rw [oQ_e hb_14] at hsx_16
          have gsx_16 : x_16.toInt = (fa 36 (20 * a + y_4.toNatClampNeg)).toInt := (show x_16.toInt = (oI Z b_14 y_4.toNatClampNeg).toInt from iv_to ex_16).trans (congrArg Int32.toInt hsx_16.2.1)
          have bsx_16 := hsx_16.2.2
          have btx_16 : 0 ≤ x_16.toInt ∧ x_16.toInt ≤ 98901 := by omega
          refine lv_iadd hx hb dX1_shortPence_29 ?_
          refine lv_topi (fun x_17 ex_17 => ?_)
          have hx_17 : x_17.toInt = y_5.toInt + x_16.toInt := (iv_to ex_17).trans (ad_i rfl rfl (by omega) (by omega))
          clear ex_17
          refine lv_istore_n (lv' := [(2, .int x_17), (3, .int y_4), (0, .ref o), (1, .int x1)]) hx hb dX1_shortPence_30 rfl hl (by decide) rfl (fun ls hl => ?_)
          obtain ⟨x_18, ex_18⟩ : ∃ zq : Int32, y_4 + 1 = zq := ⟨_, rfl⟩
          have hx_18 : x_18.toInt = y_4.toInt + 1 := (iv_to ex_18).symm.trans (ad_i rfl (by decide) (by omega) (by omega))
          refine lv_iinc (v := x_18) (lv' := [(3, .int x_18), (2, .int x_17), (0, .ref o), (1, .int x1)]) hx hb dX1_shortPence_31 hl (k := 1) rfl ex_18 (by decide) rfl (fun ls hl => ?_)
          clear ex_18
          refine lv_goto (tgt := 4) hx hb dX1_shortPence_34 (by decide) ?_
          exact ih (n - 1) (by omega) x_18 x_17 _ _ ls (by omega) (by omega) (by omega) (sh_s hq0_cut_3 (by omega) (by omega) (by omega)) (by omega) hP hS (lv_sub hl [0, 1, 2, 3] rfl)
  have kc_19 : (0 : Int32).toInt = 0 := by decide
  exact cut_3 21 0 0 _ _ ls (by omega) (by decide) (by decide) (sm_0 (g := shF fa a x1.toInt) (by decide) rfl (by decide)).2 (by have rc : (0 : Int32).toInt = 0 := (by decide); omega) hP hS (lv_sub hl [0, 1, 2, 3] rfl)
set_option maxHeartbeats 4000000 in
set_option maxRecDepth 100000 in
theorem c_X1_leavingOn_c (l : Launch) (dC : Nat → ClassId) (dI : Nat → Nat → Nat) (sz : Nat) (cq : Nat → ClassId) (Z : oS) (gI : oInv Z) (o : Nat) (to : oty Z o 1) (x1 : Int32) (hx1 : 0 ≤ x1.toInt ∧ x1.toInt ≤ 3000) (x2 : Int32) (hx2 : 0 ≤ x2.toInt ∧ x2.toInt ≤ 3000) (a3 : Nat) (ta3 : oty Z a3 5) (h0 : Nat) (th : oty Z h0 10) (v : Nat → Int32) (fa : Nat → Nat → Int32) (hR : RC Z h0 v fa) (a : Nat) (ha : a < (v 43).toNatClampNeg) (ea : o = agA Z h0 a) (hLr : rLw Z a3 v fa) (hjk : x1.toInt ≤ x2.toInt ∧ x2.toInt ≤ 3000) : Met l yX1_leavingOn wsX1_leavingOn ({ frames := 2, cells := 0, slots := 0, locals := 49 }) (va_Pc [.ref o, .int x1, .int x2, .ref a3] (pcW (dC, dI) (oT cq) (oW cq Z) sz)) (va_Qq (fun (r : Option Nat) (u : Unit) => (∀ b, r = some b → oty Z b 3) ∧ (lvR Z v fa a x1.toInt x2.toInt r)) (fun _ _ => True) (va_A [] sz)) 0 0 (va_A [] sz) := by
  refine Met.ofW (cc := cX1_leavingOn) (maxL := 4) (ret := (some (.object "ShipOffice$Happening"))) (by decide) rfl ?_
  intro p e s m args below meth c s₁ B hml hv
  obtain ⟨rfl, hsz, hP, hK, hD0⟩ := hv
  have hx := B.exec
  have hb := B.bytes
  have hr := B.returns
  have hts := atoms_spec (ws := wsX1_leavingOn) B.pre
  have hown : s.vm.findClass RX1 = some m.cls := findClass_of_methodNamed B.named
  have hlocks := B.notSynchronized
  subst hsz
  have hD := hD0
  generalize hAe : va_A [] s.heap.size = A at ⊢
  have hA : ∀ q : Nat, s.heap.size ≤ q → A q := fun q h => by rw [← hAe]; exact Or.inr h
  have hS : va_S A s.heap s.heap [] := va_S.rf
  have hP : va_P (dC, dI) vwCl (oW cq Z) s.heap := hP
  have hl := lv_entry ([.ref o, .int x1, .int x2, .ref a3]) (n := 4) (Nat.le_of_ble_eq_true rfl)
  rw [lg_entry_eq]
  generalize (lg_sl ([.ref o, .int x1, .int x2, .ref a3]) ++ List.replicate (4 - (lg_sl ([.ref o, .int x1, .int x2, .ref a3])).length) Slot.unset).toArray = ls at hl ⊢
  have hl : lv_has ls 4 [(0, .ref o), (1, .int x1), (2, .int x2), (3, .ref a3)] := hl
  obtain ⟨fn0, fn1, fn2, fn3, fn4⟩ := RC.n hR
  have fb38 : 0 ≤ (v 38).toInt ∧ (v 38).toInt ≤ 3000 := RC.V hR 38
  have fb39 : 0 ≤ (v 39).toInt ∧ (v 39).toInt ≤ 40 := RC.V hR 39
  have fb40 : 0 ≤ (v 40).toInt ∧ (v 40).toInt ≤ 20 := RC.V hR 40
  have fb43 : 0 ≤ (v 43).toInt ∧ (v 43).toInt ≤ 60 := RC.V hR 43
  have fb41 : 0 ≤ (v 41).toInt ∧ (v 41).toInt ≤ 200 := RC.V hR 41
  have fAo := RC.a hR ha
  rw [← ea] at fAo
  obtain ⟨⟨fm1o, fm2o, fm3o⟩, ⟨fv1o, fv2o, fv3o⟩, fsio, fppo, fwgo, frko, fofo, fdeo, fcho⟩ := fAo
  have fBo : 0 ≤ (fa 25 a).toInt ∧ (fa 25 a).toInt ≤ 3000 := RC.A hR 25 _
  have lamo : (fa 20 a).toNatClampNeg < (v 39).toNatClampNeg := ni_lt fm1o fm2o
  have namo : (((fa 20 a).toNatClampNeg : Nat) : Int) = (fa 20 a).toInt := tn_i fm1o
  obtain ⟨amo, eamo⟩ : ∃ z, z = mnA Z h0 (fa 20 a).toNatClampNeg := ⟨_, rfl⟩
  rw [← eamo] at fm3o
  have tamo : oty Z amo 6 := by rw [eamo]; exact (RC.tm hR gI th lamo).2
  have fMamo := RC.m hR lamo
  rw [← eamo] at fMamo
  obtain ⟨fz0amo, fz1amo, fz2amo, fz3amo⟩ := fMamo
  rw [namo] at fz0amo
  have lavo : (fa 21 a).toNatClampNeg < (v 40).toNatClampNeg := ni_lt fv1o fv2o
  have navo : (((fa 21 a).toNatClampNeg : Nat) : Int) = (fa 21 a).toInt := tn_i fv1o
  obtain ⟨avo, eavo⟩ : ∃ z, z = voA Z h0 (fa 21 a).toNatClampNeg := ⟨_, rfl⟩
  rw [← eavo] at fv3o
  have tavo : oty Z avo 9 := by rw [eavo]; exact (RC.tv hR gI th lavo).2
  have fVavo := RC.vo hR lavo
  rw [← eavo] at fVavo
  obtain ⟨fy0avo, fy1avo, fy2avo, fy3avo, fy4avo, fySavo, fyLavo, fyhavo⟩ := fVavo
  have fBavo : 0 ≤ (fa 7 ((fa 21 a).toNatClampNeg)).toInt ∧ (fa 7 ((fa 21 a).toNatClampNeg)).toInt ≤ 3000 := RC.A hR 7 _
  have fSavo := onc_i fySavo
  have fLavo := onc_i fyLavo
  rw [navo] at fy0avo fSavo fLavo
  refine lv_aload_n hx hb dX1_leavingOn_0 rfl (lv_at hl 0 rfl) ?_
  refine lv_iload_n hx hb dX1_leavingOn_1 rfl (lv_at hl 1 rfl) ?_
  refine lv_iload_n hx hb dX1_leavingOn_2 rfl (lv_at hl 2 rfl) ?_
  refine lv_aload_n hx hb dX1_leavingOn_3 rfl (lv_at hl 3 rfl) ?_
  have hFc : ∀ q, va_A [] s.heap.size q → A q := pu_free hS hA
  obtain ⟨q_1, hq_1⟩ := og (cq := cq) to.1 (oE_1 to.2)
  refine va_calli (va_runV (As := [.int x1, .int x2, .ref a3]) (rest := []) ⟨hx, hb, hml, hown, hts⟩ (c_X1_stateOn_c l dC dI s.heap.size cq Z gI o to x1 (by omega) x2 (by omega) a3 ta3 h0 th v fa hR a ha ea hLr (by omega)) (cwV 3 hts gX1_leavingOn_X1_stateOn rfl rfl rfl (by decide +kernel) ⟨(Nat.le_of_ble_eq_true rfl), (Nat.le_of_ble_eq_true rfl)⟩) (pr_V (r := (RX1, TX1, 18)) hP hK hD q_1 1 rfl hq_1) rfl rfl hl.1 rfl (lv_room (Nat.le_of_ble_eq_true rfl)) dX1_leavingOn_4 ⟨(Nat.le_of_ble_eq_true rfl), (Nat.le_of_ble_eq_true rfl)⟩) hS (fun q _ h => hFc q h) hFc (fun r_3 u t H locs ht hvm w_2 hB hz1 hk1 hS => ?_)
  have hP := pu_keep hP hk1
  clear hk1 hz1 hvm hB ht hFc
  obtain ⟨hb_4, hx_5⟩ := w_2
  refine lv_iconst (v := 3) hx hb dX1_leavingOn_7 (by decide) ?_
  refine lv_icmp_ne (tgt := 20) hx hb dX1_leavingOn_8 (by decide) (fun c_6 => ?_) (fun c_6 => ?_)
  · have dc_6 := c_ne (a := r_3.toInt) (b := 3) rfl (by decide) c_6
    refine lv_null hx hb dX1_leavingOn_20 ?_
    exact W.aret (v := .null) hx hb hr (Or.inl ⟨_, rfl⟩) (Or.inl rfl) (fun t ht hW => ⟨⟨none, (), rfl, ⟨(fun b h => by cases h), (Or.inl ⟨rfl, by have q := hx_5; omega⟩)⟩, trivial⟩, hS.F ht⟩) hS.2.2 dX1_leavingOn_21
  · have dc_6 := c_eq (a := r_3.toInt) (b := 3) rfl (by decide) c_6
    refine lv_aload_n hx hb dX1_leavingOn_11 rfl (lv_at hl 0 rfl) ?_
    refine lv_iload_n hx hb dX1_leavingOn_12 rfl (lv_at hl 1 rfl) ?_
    refine lv_iload_n hx hb dX1_leavingOn_13 rfl (lv_at hl 2 rfl) ?_
    have hFc : ∀ q, va_A [] H.size q → A q := pu_free hS hA
    refine va_callq (va_runV (As := [.int x1, .int x2]) (rest := []) ⟨hx, hb, hml, hown, hts⟩ (c_X1_lastMove_c l dC dI H.size cq Z gI o to x1 x2 h0 th v fa hR a ha ea) (cwV 2 hts gX1_leavingOn_X1_lastMove rfl rfl rfl (by decide +kernel) ⟨(Nat.le_of_ble_eq_true rfl), (Nat.le_of_ble_eq_true rfl)⟩) (pr_V (r := (RX1, TX1, 18)) hP hK hD q_1 1 rfl hq_1) rfl rfl hl.1 rfl (lv_room (Nat.le_of_ble_eq_true rfl)) dX1_leavingOn_14 ⟨(Nat.le_of_ble_eq_true rfl), (Nat.le_of_ble_eq_true rfl)⟩) hS (fun q _ h => hFc q h) hFc (fun r_8 u t H locs ht hvm w_7 hB hz1 hk1 hS => ?_)
    have hP := pu_keep hP hk1
    clear hk1 hz1 hvm hB ht hFc
    obtain ⟨hk_9, hx_10⟩ := w_7
    rcases r_8 with _ | b_11
    · refine W.eq (g2 := F0 m 17 ls [.null]) rfl ?_
      have hwr_8 := lmR_n hx_10
      refine lv_goto (tgt := 21) hx hb dX1_leavingOn_17 (by decide) ?_
      exact W.aret (v := .null) hx hb hr (Or.inl ⟨_, rfl⟩) (Or.inl rfl) (fun t ht hW => ⟨⟨none, (), rfl, ⟨(fun b h => by cases h), (lvR_m hx_10 (by have q := hx_5; omega))⟩, trivial⟩, hS.F ht⟩) hS.2.2 dX1_leavingOn_21
    · refine W.eq (g2 := F0 m 17 ls [.ref b_11]) rfl ?_
      have tb_11 : oty Z b_11 3 := hk_9 b_11 rfl
      obtain ⟨hwb_11, ⟨hwab_11, hwbb_11, hwcb_11⟩, hwdb_11⟩ := lmR_s hx_10
      refine lv_goto (tgt := 21) hx hb dX1_leavingOn_17 (by decide) ?_
      exact W.aret (v := .ref b_11) hx hb hr (Or.inl ⟨_, rfl⟩) (Or.inr ⟨_, rfl⟩) (fun t ht hW => ⟨⟨(some b_11), (), rfl, ⟨(fun b h => by cases h; exact tb_11), (lvR_m hx_10 (by have q := hx_5; omega))⟩, trivial⟩, hS.F ht⟩) hS.2.2 dX1_leavingOn_21
