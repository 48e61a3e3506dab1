

/-- a product that fits, by 30 -/
theorem bs_o {x y z w : Int32} (ez : z = x * y) (ew : w = z / 30) (hx : 1 ≤ x.toInt ∧ x.toInt ≤ 9999) (hy : 0 ≤ y.toInt ∧ y.toInt ≤ 3001) : w.toInt = (x.toInt * y.toInt).tdiv 30 ∧ 0 ≤ w.toInt ∧ w.toInt ≤ 1000234 := by
  have h1 : 0 ≤ x.toInt * y.toInt := Int.mul_nonneg (by omega) hy.1
  have h2 : x.toInt * y.toInt ≤ 9999 * 3001 := Int.mul_le_mul hx.2 hy.2 hy.1 (by decide)
  have e1 : z.toInt = x.toInt * y.toInt := by rw [ez]; exact mu_i rfl rfl (by omega) (by omega)
  have k : (30 : Int32).toInt = 30 := by decide
  have e2 : w.toInt = (x.toInt * y.toInt).tdiv 30 := by rw [ew, Int32.toInt_div_of_ne_right _ _ (by decide), k, e1]
  have e3 := td_b h1 30 (by decide)
  exact ⟨e2, by omega, by omega⟩
/-- a refusal of a sum, or nothing but letters written -/
def rFo (Z : oS) (o : Nat) (u : oS) (r : Int32) (bad : Prop) : Prop := (bad ∧ ∃ c : Int32, c.toInt = 1000000000 - r.toInt ∧ rfO Z o u c) ∨ (¬ bad ∧ oX [2108, 5001] Z u)
set_option maxHeartbeats 4000000 in
set_option maxRecDepth 100000 in
theorem c_X10_owedOn_c (l : Launch) (dC : Nat → ClassId) (dI : Nat → Nat → Nat) (sz : Nat) (cq : Nat → ClassId) (Z : oS) (gI : oInv Z) (o : Nat) (to : oty Z o 10) (a1 : Nat) (ta1 : oty Z a1 1) (x2 : Int32) (hx2 : 0 ≤ x2.toInt ∧ x2.toInt ≤ 3000) (x3 : Int32) (hx3 : 0 ≤ x3.toInt ∧ x3.toInt ≤ 3000) (v : Nat → Int32) (fa : Nat → Nat → Int32) (hR : RC Z o v fa) (hE : RX Z o v fa) (hjk : x2.toInt ≤ x3.toInt) (a : Nat) (ha : a < (v 43).toNatClampNeg) (ea : a1 = agA Z o a) : Met l yX10_owedOn wsX10_owedOn ({ frames := 5, cells := 0, slots := 0, locals := 130 }) (va_Pc [.ref o, .ref a1, .int x2, .int x3] (pcW (dC, dI) (oT cq) (oW cq Z) sz)) (va_Qi (fun (r : Int32) (u : oS) => oInv u ∧ oX [2108, 5001] Z u ∧ (r.toInt = owF v fa a x2 x3.toInt)) (fun u t => va_P (dC, dI) vwCl (oW cq u) t.heap ∧ va_K (dC, dI) vwCl (oT cq) t ∧ va_D (va_A (oW cq Z) sz) (oW cq u)) (va_A (oW cq Z) sz)) 0 0 (va_A (oW cq Z) sz) := by
  refine Met.ofW (cc := cX10_owedOn) (maxL := 9) (ret := (some .int)) (by decide) rfl ?_
  intro p e s m args below meth c s₁ B hml hv
  obtain ⟨rfl, hsz, hP, hK, hD0⟩ := hv
  have hx := B.exec
  have hb := B.bytes
  have hr := B.returns
  have hts := atoms_spec (ws := wsX10_owedOn) B.pre
  have hown : s.vm.findClass RX10 = some m.cls := findClass_of_methodNamed B.named
  have hlocks := B.notSynchronized
  subst hsz
  have hD := hD0.self (sz := s.heap.size)
  generalize hAe : va_A (oW cq Z) s.heap.size = A at hD ⊢
  have hA : ∀ q : Nat, s.heap.size ≤ q → A q := fun q h => by rw [← hAe]; exact Or.inr h
  have hS : va_S A s.heap s.heap [] := va_S.rf
  have hP : va_P (dC, dI) vwCl (oW cq Z) s.heap := hP
  have hl := lv_entry ([.ref o, .ref a1, .int x2, .int x3]) (n := 9) (Nat.le_of_ble_eq_true rfl)
  rw [lg_entry_eq]
  generalize (lg_sl ([.ref o, .ref a1, .int x2, .int x3]) ++ List.replicate (9 - (lg_sl ([.ref o, .ref a1, .int x2, .int x3])).length) Slot.unset).toArray = ls at hl ⊢
  have hl : lv_has ls 9 [(0, .ref o), (1, .ref a1), (2, .int x2), (3, .int x3)] := hl
  obtain ⟨fn0, fn1, fn2, fn3, fn4⟩ := RC.n hR
  have fb38 : 0 ≤ (v 38).toInt ∧ (v 38).toInt ≤ 3000 := RC.V hR 38
  have fb39 : 0 ≤ (v 39).toInt ∧ (v 39).toInt ≤ 40 := RC.V hR 39
  have fb40 : 0 ≤ (v 40).toInt ∧ (v 40).toInt ≤ 20 := RC.V hR 40
  have fb43 : 0 ≤ (v 43).toInt ∧ (v 43).toInt ≤ 60 := RC.V hR 43
  have fb41 : 0 ≤ (v 41).toInt ∧ (v 41).toInt ≤ 200 := RC.V hR 41
  have fAa1 := RC.a hR ha
  rw [← ea] at fAa1
  obtain ⟨⟨fm1a1, fm2a1, fm3a1⟩, ⟨fv1a1, fv2a1, fv3a1⟩, fsia1, fppa1, fwga1, frka1, fofa1, fdea1, fcha1⟩ := fAa1
  have fBa1 : 0 ≤ (fa 25 a).toInt ∧ (fa 25 a).toInt ≤ 3000 := RC.A hR 25 _
  have lama1 : (fa 20 a).toNatClampNeg < (v 39).toNatClampNeg := ni_lt fm1a1 fm2a1
  have nama1 : (((fa 20 a).toNatClampNeg : Nat) : Int) = (fa 20 a).toInt := tn_i fm1a1
  obtain ⟨ama1, eama1⟩ : ∃ z, z = mnA Z o (fa 20 a).toNatClampNeg := ⟨_, rfl⟩
  rw [← eama1] at fm3a1
  have tama1 : oty Z ama1 6 := by rw [eama1]; exact (RC.tm hR gI to lama1).2
  have fMama1 := RC.m hR lama1
  rw [← eama1] at fMama1
  obtain ⟨fz0ama1, fz1ama1, fz2ama1, fz3ama1⟩ := fMama1
  rw [nama1] at fz0ama1
  have lava1 : (fa 21 a).toNatClampNeg < (v 40).toNatClampNeg := ni_lt fv1a1 fv2a1
  have nava1 : (((fa 21 a).toNatClampNeg : Nat) : Int) = (fa 21 a).toInt := tn_i fv1a1
  obtain ⟨ava1, eava1⟩ : ∃ z, z = voA Z o (fa 21 a).toNatClampNeg := ⟨_, rfl⟩
  rw [← eava1] at fv3a1
  have tava1 : oty Z ava1 9 := by rw [eava1]; exact (RC.tv hR gI to lava1).2
  have fVava1 := RC.vo hR lava1
  rw [← eava1] at fVava1
  obtain ⟨fy0ava1, fy1ava1, fy2ava1, fy3ava1, fy4ava1, fySava1, fyLava1, fyhava1⟩ := fVava1
  have fBava1 : 0 ≤ (fa 7 ((fa 21 a).toNatClampNeg)).toInt ∧ (fa 7 ((fa 21 a).toNatClampNeg)).toInt ≤ 3000 := RC.A hR 7 _
  have fSava1 := onc_i fySava1
  have fLava1 := onc_i fyLava1
  rw [nava1] at fy0ava1 fSava1 fLava1
  have fEa1 := hE.1 a ha
  rw [← ea] at fEa1
  obtain ⟨⟨fn1a1, fn2a1, fn3a1⟩, fga1, ⟨fl1a1, fl2a1, fl3a1⟩, ⟨ff1a1, ff2a1⟩, ⟨fs1a1, fs2a1, fs3a1, fs4a1, fs5a1⟩⟩ := fEa1
  unfold rXg at fga1
  have fX_1 : 0 ≤ (fa 30 a).toInt ∧ (fa 30 a).toInt ≤ 6 := RC.A hR 30 _
  have fX_2 : 0 ≤ (fa 31 a).toInt ∧ (fa 31 a).toInt ≤ 20 := RC.A hR 31 _
  obtain ⟨lw, hlw0⟩ := oInv.nn (i := 8) gI to rfl
  have tlw : oty Z lw 5 := oInv.rd gI to.2 hlw0 rfl rfl
  have hLr : rLw Z lw v fa := by have q := RC.l hR; rw [oQ_e hlw0] at q; exact q
  have hOw := owB_of hR hE ha
  have bNV := nvF_b (v := v) (d := x2.toInt) (k := x3.toInt) hOw
  have bAT := almV_b (v := v) (d := x2.toInt) (k := x3.toInt) hOw (by omega)
  obtain ⟨bWG, bNT, bAL, -, -⟩ := id hOw
  refine lv_iload_n hx hb dX10_owedOn_0 rfl (lv_at hl 2 rfl) ?_
  refine lv_aload_n hx hb dX10_owedOn_1 rfl (lv_at hl 1 rfl) ?_
  obtain ⟨q_3, hq_3⟩ := og (cq := cq) ta1.1 (oE_1 ta1.2)
  refine va_get (D := (dC, dI)) (ci := 1) (v := .int (oI Z a1 2)) (C := RX1) (T := TX1) (N := 18) hx hb hts in_wsX10_owedOn_X1 hown hK hP q_3 hq_3 rfl 2 (by decide) (hts (.fieldLink RX10 255 "ShipOffice$Agreement" "signedOn" "I") iw_X10_owedOn_1) (fun _ h9 => h9) rfl dX10_owedOn_2 ?_
  refine lv_topi (fun x_4 ex_4 => ?_)
  have gx_4 : x_4.toInt = (oI Z a1 2).toInt := iv_to ex_4
  clear ex_4
  refine lv_icmp_ge (tgt := 10) hx hb dX10_owedOn_5 (by decide) (fun c_5 => ?_) (fun c_5 => ?_)
  · have dc_5 := c_le (a := x_4.toInt) (b := x2.toInt) rfl rfl c_5
    refine lv_aload_n hx hb dX10_owedOn_10 rfl (lv_at hl 1 rfl) ?_
    refine va_get (D := (dC, dI)) (ci := 1) (v := .int (oI Z a1 4)) (C := RX1) (T := TX1) (N := 18) hx hb hts in_wsX10_owedOn_X1 hown hK hP q_3 hq_3 rfl 4 (by decide) (hts (.fieldLink RX10 223 "ShipOffice$Agreement" "wage" "I") iw_X10_owedOn_2) (fun _ h9 => h9) rfl dX10_owedOn_11 ?_
    refine lv_topi (fun x_6 ex_6 => ?_)
    have gx_6 : x_6.toInt = (oI Z a1 4).toInt := iv_to ex_6
    clear ex_6
    refine lv_aload_n hx hb dX10_owedOn_14 rfl (lv_at hl 1 rfl) ?_
    refine lv_iload_n hx hb dX10_owedOn_15 rfl (lv_at hl 2 rfl) ?_
    refine lv_iload_n hx hb dX10_owedOn_16 rfl (lv_at hl 3 rfl) ?_
    refine lv_aload_n hx hb dX10_owedOn_17 rfl (lv_at hl 0 rfl) ?_
    obtain ⟨q_7, hq_7⟩ := og (cq := cq) to.1 (oE_10 to.2)
    refine va_get (D := (dC, dI)) (ci := 10) (v := .ref lw) (C := RX10) (T := TX10) (N := 16) hx hb hts in_wsX10_owedOn_X10 hown hK hP q_7 hq_7 rfl 8 (by decide) (hts (.fieldLink RX10 30 "ShipOffice" "law" "LShipOffice$Law;") iw_X10_owedOn_3) (fun _ h9 => h9) (o_rd hlw0) dX10_owedOn_18 ?_
    have hFc : ∀ q, va_A [] s.heap.size q → A q := pu_free hS hA
    refine va_calli (va_runV (As := [.int x2, .int x3, .ref lw]) (rest := [.int x_6]) ⟨hx, hb, hml, hown, hts⟩ (c_X1_earningDays_c l dC dI s.heap.size cq Z gI a1 ta1 x2 (by omega) x3 (by omega) lw tlw o to v fa hR a ha ea hLr (by omega)) (cwV 3 hts gX10_owedOn_X1_earningDays rfl rfl rfl (by decide +kernel) ⟨(Nat.le_of_ble_eq_true rfl), (Nat.le_of_ble_eq_true rfl)⟩) (pr_V (r := (RX1, TX1, 18)) hP hK hD q_3 1 rfl hq_3) rfl rfl hl.1 rfl (lv_room (Nat.le_of_ble_eq_true rfl)) dX10_owedOn_21 ⟨(Nat.le_of_ble_eq_true rfl), (Nat.le_of_ble_eq_true rfl)⟩) hS (fun q _ h => hFc q h) hFc (fun r_9 u t H locs ht hvm w_8 hB hz1 hk1 hS => ?_)
    have hP := pu_keep hP hk1
    clear hk1 hz1 hvm hB ht hFc
    obtain ⟨hb_10, hx_11⟩ := w_8
    refine lv_imul hx hb dX10_owedOn_24 ?_
    refine lv_topi (fun x_12 ex_12 => ?_)
    refine lv_bipush (v := 30) hx hb dX10_owedOn_25 (by decide) ?_
    refine lv_idiv hx hb dX10_owedOn_27 (by decide) ?_
    refine lv_topi (fun x_13 ex_13 => ?_)
    have hbs9 := bs_o ex_12 ex_13 (by omega) (by omega)
    have hbsB : 0 ≤ x_13.toInt ∧ x_13.toInt ≤ 1000234 := hbs9.2
    have eBS : x_13.toInt = bsF v fa a x2.toInt x3.toInt := by unfold bsF; rw [hbs9.1]; congr 1; rw [show x_6.toInt = (fa 22 a).toInt from (by omega), show r_9.toInt = erF v fa a x2.toInt x3.toInt from (by omega)]
    refine lv_istore (lv' := [(4, .int x_13), (0, .ref o), (1, .ref a1), (2, .int x2), (3, .int x3)]) hx hb dX10_owedOn_28 hl (by decide) rfl (fun ls hl => ?_)
    refine lv_iload hx hb dX10_owedOn_30 (lv_at hl 0 rfl) ?_
    refine lv_aload_n hx hb dX10_owedOn_32 rfl (lv_at hl 2 rfl) ?_
    refine lv_iload_n hx hb dX10_owedOn_33 rfl (lv_at hl 3 rfl) ?_
    refine lv_iload_n hx hb dX10_owedOn_34 rfl (lv_at hl 4 rfl) ?_
    refine lv_aload_n hx hb dX10_owedOn_35 rfl (lv_at hl 1 rfl) ?_
    refine va_get (D := (dC, dI)) (ci := 10) (v := .ref lw) (C := RX10) (T := TX10) (N := 16) hx hb hts in_wsX10_owedOn_X10 hown hK hP q_7 hq_7 rfl 8 (by decide) (hts (.fieldLink RX10 30 "ShipOffice" "law" "LShipOffice$Law;") iw_X10_owedOn_3) (fun _ h9 => h9) (o_rd hlw0) dX10_owedOn_36 ?_
    have hFc : ∀ q, va_A [] H.size q → A q := pu_free hS hA
    refine va_calli (va_runV (As := [.int x2, .int x3, .ref lw]) (rest := [.int x_13]) ⟨hx, hb, hml, hown, hts⟩ (c_X1_notePaid_c l dC dI H.size cq Z gI a1 ta1 x2 (by omega) x3 (by omega) lw tlw o to v fa hR a ha ea hE hLr (by omega)) (cwV 3 hts gX10_owedOn_X1_notePaid rfl rfl rfl (by decide +kernel) ⟨(Nat.le_of_ble_eq_true rfl), (Nat.le_of_ble_eq_true rfl)⟩) (pr_V (r := (RX1, TX1, 18)) hP hK hD q_3 1 rfl hq_3) rfl rfl hl.1 rfl (lv_room (Nat.le_of_ble_eq_true rfl)) dX10_owedOn_39 ⟨(Nat.le_of_ble_eq_true rfl), (Nat.le_of_ble_eq_true rfl)⟩) hS (fun q _ h => hFc q h) hFc (fun r_15 u t H locs ht hvm w_14 hB hz1 hk1 hS => ?_)
    have hP := pu_keep hP hk1
    clear hk1 hz1 hvm hB ht hFc
    obtain ⟨hb_16, hx_17⟩ := w_14
    refine lv_aload_n hx hb dX10_owedOn_42 rfl (lv_at hl 2 rfl) ?_
    refine lv_iload_n hx hb dX10_owedOn_43 rfl (lv_at hl 3 rfl) ?_
    refine lv_iload_n hx hb dX10_owedOn_44 rfl (lv_at hl 4 rfl) ?_
    refine lv_aload_n hx hb dX10_owedOn_45 rfl (lv_at hl 1 rfl) ?_
    refine va_get (D := (dC, dI)) (ci := 10) (v := .ref lw) (C := RX10) (T := TX10) (N := 16) hx hb hts in_wsX10_owedOn_X10 hown hK hP q_7 hq_7 rfl 8 (by decide) (hts (.fieldLink RX10 30 "ShipOffice" "law" "LShipOffice$Law;") iw_X10_owedOn_3) (fun _ h9 => h9) (o_rd hlw0) dX10_owedOn_46 ?_
    have hFc : ∀ q, va_A [] H.size q → A q := pu_free hS hA
    refine va_calli (va_runV (As := [.int x2, .int x3, .ref lw]) (rest := [.int r_15, .int x_13]) ⟨hx, hb, hml, hown, hts⟩ (c_X1_allotmentsPaid_c l dC dI H.size cq Z gI a1 ta1 x2 (by omega) x3 (by omega) lw tlw o to v fa hR a ha ea hE hLr (by omega)) (cwV 3 hts gX10_owedOn_X1_allotmentsPaid rfl rfl rfl (by decide +kernel) ⟨(Nat.le_of_ble_eq_true rfl), (Nat.le_of_ble_eq_true rfl)⟩) (pr_V (r := (RX1, TX1, 18)) hP hK hD q_3 1 rfl hq_3) rfl rfl hl.1 rfl (lv_room (Nat.le_of_ble_eq_true rfl)) dX10_owedOn_49 ⟨(Nat.le_of_ble_eq_true rfl), (Nat.le_of_ble_eq_true rfl)⟩) hS (fun q _ h => hFc q h) hFc (fun r_19 u t H locs ht hvm w_18 hB hz1 hk1 hS => ?_)
    have hP := pu_keep hP hk1
    clear hk1 hz1 hvm hB ht hFc
    obtain ⟨hb_20, hx_21⟩ := w_18
    refine lv_iadd hx hb dX10_owedOn_52 ?_
    refine lv_topi (fun x_22 ex_22 => ?_)
    have hx_22 : x_22.toInt = r_15.toInt + r_19.toInt := (iv_to ex_22).trans (ad_i rfl rfl (by omega) (by omega))
    clear ex_22
    refine lv_isub hx hb dX10_owedOn_53 ?_
    refine lv_topi (fun x_23 ex_23 => ?_)
    have hx_23 : x_23.toInt = x_13.toInt - x_22.toInt := (iv_to ex_23).trans (sb_i rfl rfl (by omega) (by omega))
    clear ex_23
    refine lv_istore (lv' := [(4, .int x_23), (0, .ref o), (1, .ref a1), (2, .int x2), (3, .int x3)]) hx hb dX10_owedOn_54 hl (by decide) rfl (fun ls hl => ?_)
    refine lv_iconst (v := 0) hx hb dX10_owedOn_56 (by decide) ?_
    refine lv_istore (lv' := [(5, .int 0), (4, .int x_23), (0, .ref o), (1, .ref a1), (2, .int x2), (3, .int x3)]) hx hb dX10_owedOn_57 hl (by decide) rfl (fun ls hl => ?_)
    have cut_24 : ∀ (n : Nat) (y_25 : Int32) (y_26 : Int32) (S_27 : oS) (H : Heap) (locs : List Loc) (ls : Array Slot), 6 - y_25.toInt ≤ (n : Int) → (0 ≤ y_25.toInt ∧ y_25.toInt ≤ 6) → (-1200000 ≤ y_26.toInt ∧ y_26.toInt ≤ 1100000) → y_26.toInt = ((bsF v fa a x2.toInt x3.toInt) - (nvF v fa a x2.toInt x3.toInt) - (almV v fa a x2.toInt x3.toInt)) - fnF v fa a x2.toInt x3.toInt y_25.toNatClampNeg → y_25.toInt ≤ (fa 30 a).toInt → oInv S_27 → oX [2108, 5001] Z S_27 → va_P (dC, dI) vwCl (oW cq S_27) H → va_D A (oW cq S_27) → va_S A s.heap H locs → oP S_27 a1 0 = some ama1 → oP S_27 a1 1 = some ava1 → oP S_27 o 8 = some lw → lv_has ls 9 [(5, .int y_25), (4, .int y_26), (0, .ref o), (1, .ref a1), (2, .int x2), (3, .int x3)] → W p l e (headSpec wsX10_owedOn { frames := 5, cells := 0, slots := 0, locals := 130 }).room s m #[Value.ref o, Value.ref a1, Value.int x2, Value.int x3] below meth c H locs 0 0 (MQ below (va_Qi (fun (r : Int32) (u : oS) => oInv u ∧ oX [2108, 5001] Z u ∧ (r.toInt = owF v fa a x2 x3.toInt)) (fun u t => va_P (dC, dI) vwCl (oW cq u) t.heap ∧ va_K (dC, dI) vwCl (oT cq) t ∧ va_D A (oW cq u)) A) #[Value.ref o, Value.ref a1, Value.int x2, Value.int x3] s 0 0 A) (F0 m 59 ls []) := by
      intro n
      induction n using Nat.strongRecOn with
      | ind n ih =>
        intro y_25 y_26 S_27 H locs ls hm hy_25 hy_26 hq0_cut_24 hq1_cut_24 hIS_27 XS_27 hP hD hS pk_28 pk_29 pk_30 hl
        have YS_27 : oX [2108, 5001] Z S_27 := oX.st oX.rf XS_27 (fun _ q => q)
        have hE_31 := RX_fr (W := [2108, 5001]) (z := v) (fz := fa) (oX.st oX.rf XS_27 (by decide)) gI to (by decide) (RC.n hR).2.2.2.1 (RC.A hR) rfl (fun _ _ => rfl) hE
        have fE9 := (hE_31).1 a ha
        rw [← (ea.trans (agA_o (W := [2108, 5001]) (oX.st oX.rf XS_27 (by decide)) gI to (by decide) (by decide) _).symm)] at fE9
        obtain ⟨-, -, -, ⟨ff19, ff29⟩, -⟩ := fE9
        have hb59 := fnF_b (v := v) (d := x2.toInt) (k := x3.toInt) hOw (n := y_25.toNatClampNeg) (show y_25.toInt.toNat ≤ (fa 30 a).toInt.toNat by omega)
        have nb59 : ((y_25.toNatClampNeg : Nat) : Int) = y_25.toInt := tn_i (by omega)
        refine lv_iload hx hb dX10_owedOn_59 (lv_at hl 0 rfl) ?_
        refine lv_aload_n hx hb dX10_owedOn_61 rfl (lv_at hl 3 rfl) ?_
        have t_32 : oty S_27 a1 1 := (oX.ty XS_27 ta1)
        obtain ⟨q_33, hq_33⟩ := og (cq := cq) t_32.1 (oE_1 t_32.2)
        refine va_get (D := (dC, dI)) (ci := 1) (v := .int (oI S_27 a1 13)) (C := RX1) (T := TX1) (N := 18) hx hb hts in_wsX10_owedOn_X1 hown hK hP q_33 hq_33 rfl 13 (by decide) (hts (.fieldLink RX10 258 "ShipOffice$Agreement" "fineCount" "I") iw_X10_owedOn_4) (fun _ h9 => h9) rfl dX10_owedOn_62 ?_
        refine lv_topi (fun x_34 ex_34 => ?_)
        have hx_34 : 0 ≤ x_34.toInt ∧ x_34.toInt ≤ 6 := iv_of ex_34 (oInv.iv hIS_27 t_32.2 rfl rfl)
        have gx_34 : x_34.toInt = (oI S_27 a1 13).toInt := iv_to ex_34
        clear ex_34
        refine lv_icmp_ge (tgt := 106) hx hb dX10_owedOn_65 (by decide) (fun c_35 => ?_) (fun c_35 => ?_)
        · have dc_35 := c_le (a := x_34.toInt) (b := y_25.toInt) rfl rfl c_35
          refine lv_iload hx hb dX10_owedOn_106 (lv_at hl 1 rfl) ?_
          refine lv_aload_n hx hb dX10_owedOn_108 rfl (lv_at hl 3 rfl) ?_
          refine lv_iload_n hx hb dX10_owedOn_109 rfl (lv_at hl 5 rfl) ?_
          have t_36 : oty S_27 o 10 := (oX.ty XS_27 to)
          have hR_37 := RC_o (W := [2108, 5001]) (oX.st oX.rf XS_27 (by decide)) gI to (by decide) hR
          have hFc : ∀ q, va_A [] H.size q → A q := pu_free hS hA
          refine va_calli (va_runV (As := [.int x3]) (rest := [.int y_26]) ⟨hx, hb, hml, hown, hts⟩ (c_X1_shortPence_c l dC dI H.size cq S_27 hIS_27 a1 t_32 x3 o t_36 v fa hR_37 a ha (ea.trans (agA_o (W := [2108, 5001]) (oX.st oX.rf XS_27 (by decide)) gI to (by decide) (by decide) _).symm) hE_31) (cwV 1 hts gX10_owedOn_X1_shortPence rfl rfl rfl (by decide +kernel) ⟨(Nat.le_of_ble_eq_true rfl), (Nat.le_of_ble_eq_true rfl)⟩) (pr_V (r := (RX1, TX1, 18)) hP hK hD q_33 1 rfl hq_33) rfl rfl hl.1 rfl (lv_room (Nat.le_of_ble_eq_true rfl)) dX10_owedOn_110 ⟨(Nat.le_of_ble_eq_true rfl), (Nat.le_of_ble_eq_true rfl)⟩) hS (fun q _ h => hFc q h) hFc (fun r_39 u t H locs ht hvm w_38 hB hz1 hk1 hS => ?_)
          have hP := pu_keep hP hk1
          clear hk1 hz1 hvm hB ht hFc
          obtain ⟨hb_40, hx_41⟩ := w_38
          refine lv_iadd hx hb dX10_owedOn_113 ?_
          refine lv_topi (fun x_42 ex_42 => ?_)
          have hx_42 : x_42.toInt = y_26.toInt + r_39.toInt := (iv_to ex_42).trans (ad_i rfl rfl (by omega) (by omega))
          clear ex_42
          refine lv_istore (lv' := [(4, .int x_42), (5, .int y_25), (0, .ref o), (1, .ref a1), (2, .int x2), (3, .int x3)]) hx hb dX10_owedOn_114 hl (by decide) rfl (fun ls hl => ?_)
          refine lv_aload_n hx hb dX10_owedOn_116 rfl (lv_at hl 3 rfl) ?_
          refine lv_iload_n hx hb dX10_owedOn_117 rfl (lv_at hl 4 rfl) ?_
          refine lv_iload_n hx hb dX10_owedOn_118 rfl (lv_at hl 5 rfl) ?_
          refine lv_aload_n hx hb dX10_owedOn_119 rfl (lv_at hl 2 rfl) ?_
          obtain ⟨q_43, hq_43⟩ := og (cq := cq) t_36.1 (oE_10 t_36.2)
          refine va_get (D := (dC, dI)) (ci := 10) (v := .ref lw) (C := RX10) (T := TX10) (N := 16) hx hb hts in_wsX10_owedOn_X10 hown hK hP q_43 hq_43 rfl 8 (by decide) (hts (.fieldLink RX10 30 "ShipOffice" "law" "LShipOffice$Law;") iw_X10_owedOn_3) (fun _ h9 => h9) (o_rd pk_30) dX10_owedOn_120 ?_
          have t_44 : oty S_27 lw 5 := (oX.ty XS_27 tlw)
          have hL_45 := rLw_o (W := [2108, 5001]) (oX.st oX.rf XS_27 (by decide)) gI tlw (by decide) hLr
          have hFc : ∀ q, va_A [] H.size q → A q := pu_free hS hA
          refine va_callq (va_runV (As := [.int x2, .int x3, .ref lw]) (rest := []) ⟨hx, hb, hml, hown, hts⟩ (c_X1_leavingOn_c l dC dI H.size cq S_27 hIS_27 a1 t_32 x2 (by omega) x3 (by omega) lw t_44 o t_36 v fa hR_37 a ha (ea.trans (agA_o (W := [2108, 5001]) (oX.st oX.rf XS_27 (by decide)) gI to (by decide) (by decide) _).symm) hL_45 (by omega)) (cwV 3 hts gX10_owedOn_X1_leavingOn rfl rfl rfl (by decide +kernel) ⟨(Nat.le_of_ble_eq_true rfl), (Nat.le_of_ble_eq_true rfl)⟩) (pr_V (r := (RX1, TX1, 18)) hP hK hD q_33 1 rfl hq_33) rfl rfl hl.1 rfl (lv_room (Nat.le_of_ble_eq_true rfl)) dX10_owedOn_123 ⟨(Nat.le_of_ble_eq_true rfl), (Nat.le_of_ble_eq_true rfl)⟩) hS (fun q _ h => hFc q h) hFc (fun r_47 u t H locs ht hvm w_46 hB hz1 hk1 hS => ?_)
          have hP := pu_keep hP hk1
          clear hk1 hz1 hvm hB ht hFc
          obtain ⟨hk_48, hx_49⟩ := w_46
          rcases r_47 with _ | b_50
          · refine W.eq (g2 := F0 m 126 ls [.null]) rfl ?_
            have hlv9 := lvR_n hx_49
            refine lv_astoreN (lv' := [(5, .null), (4, .int x_42), (0, .ref o), (1, .ref a1), (2, .int x2), (3, .int x3)]) hx hb dX10_owedOn_126 hl (by decide) rfl (fun ls hl => ?_)
            refine lv_iload hx hb dX10_owedOn_128 (lv_at hl 1 rfl) ?_
            refine lv_if_le (tgt := 146) hx hb dX10_owedOn_130 (by decide) (fun c_51 => ?_) (fun c_51 => ?_)
            · have dc_51 := c_le (a := x_42.toInt) (b := 0) rfl (by decide) c_51
              refine lv_iload hx hb dX10_owedOn_146 (lv_at hl 1 rfl) ?_
              exact W.iret (v := x_42) hx hb hr (fun t ht hW => ⟨⟨x_42, S_27, rfl, ⟨hIS_27, YS_27, (by have q9 := hq0_cut_24; rw [show y_25.toNatClampNeg = (fa 30 a).toNatClampNeg from (show y_25.toInt.toNat = (fa 30 a).toInt.toNat by omega)] at q9; have q8 := hx_41; have eO : x_42.toInt = owV v fa a x2.toInt x3.toInt := (by unfold owV; omega); unfold owF; rw [if_neg (by omega), if_pos (by omega)]; omega)⟩, ⟨by rw [ht]; exact hP, va_K.moved hW.alike hK, hD⟩⟩, hS.F ht⟩) hS.2.2 dX10_owedOn_148
            · have dc_51 := c_nle (a := x_42.toInt) (b := 0) rfl (by decide) c_51
              refine lv_aloadN hx hb dX10_owedOn_133 (lv_at hl 0 rfl) ?_
              refine lv_ifnullN (tgt := 146) hx hb dX10_owedOn_135 (by decide) ?_
              refine lv_iload hx hb dX10_owedOn_146 (lv_at hl 1 rfl) ?_
              exact W.iret (v := x_42) hx hb hr (fun t ht hW => ⟨⟨x_42, S_27, rfl, ⟨hIS_27, YS_27, (by have q9 := hq0_cut_24; rw [show y_25.toNatClampNeg = (fa 30 a).toNatClampNeg from (show y_25.toInt.toNat = (fa 30 a).toInt.toNat by omega)] at q9; have q8 := hx_41; have eO : x_42.toInt = owV v fa a x2.toInt x3.toInt := (by unfold owV; omega); unfold owF; rw [if_neg (by omega), if_pos (by omega)]; omega)⟩, ⟨by rw [ht]; exact hP, va_K.moved hW.alike hK, hD⟩⟩, hS.F ht⟩) hS.2.2 dX10_owedOn_148
          · refine W.eq (g2 := F0 m 126 ls [.ref b_50]) rfl ?_
            have tb_50 : oty S_27 b_50 3 := hk_48 b_50 rfl
            obtain ⟨hl39, hlw9, hlp9⟩ := lvR_s hx_49
            refine lv_astore (lv' := [(5, .ref b_50), (4, .int x_42), (0, .ref o), (1, .ref a1), (2, .int x2), (3, .int x3)]) hx hb dX10_owedOn_126 hl (by decide) rfl (fun ls hl => ?_)
            refine lv_iload hx hb dX10_owedOn_128 (lv_at hl 1 rfl) ?_
            refine lv_if_le (tgt := 146) hx hb dX10_owedOn_130 (by decide) (fun c_52 => ?_) (fun c_52 => ?_)
            · have dc_52 := c_le (a := x_42.toInt) (b := 0) rfl (by decide) c_52
              refine lv_iload hx hb dX10_owedOn_146 (lv_at hl 1 rfl) ?_
              exact W.iret (v := x_42) hx hb hr (fun t ht hW => ⟨⟨x_42, S_27, rfl, ⟨hIS_27, YS_27, (by have q9 := hq0_cut_24; rw [show y_25.toNatClampNeg = (fa 30 a).toNatClampNeg from (show y_25.toInt.toNat = (fa 30 a).toInt.toNat by omega)] at q9; have q8 := hx_41; have eO : x_42.toInt = owV v fa a x2.toInt x3.toInt := (by unfold owV; omega); unfold owF; rw [if_neg (by omega), if_pos (by omega)]; omega)⟩, ⟨by rw [ht]; exact hP, va_K.moved hW.alike hK, hD⟩⟩, hS.F ht⟩) hS.2.2 dX10_owedOn_148
            · have dc_52 := c_nle (a := x_42.toInt) (b := 0) rfl (by decide) c_52
              refine lv_aload hx hb dX10_owedOn_133 (lv_at hl 0 rfl) ?_
              refine lv_ifnull hx hb dX10_owedOn_135 ?_
              refine lv_aload hx hb dX10_owedOn_138 (lv_at hl 0 rfl) ?_
              obtain ⟨q_53, hq_53⟩ := og (cq := cq) tb_50.1 (oE_3 tb_50.2)
              refine va_get (D := (dC, dI)) (ci := 3) (v := .int (oI S_27 b_50 3)) (C := RX3) (T := TX3) (N := 6) hx hb hts in_wsX10_owedOn_X3 hown hK hP q_53 hq_53 rfl 3 (by decide) (hts (.fieldLink RX10 326 "ShipOffice$Happening" "way" "I") iw_X10_owedOn_5) (fun _ h9 => h9) rfl dX10_owedOn_140 ?_
              refine lv_topi (fun x_54 ex_54 => ?_)
              have gx_54 : x_54.toInt = (oI S_27 b_50 3).toInt := iv_to ex_54
              clear ex_54
              refine lv_if_eq (tgt := 149) hx hb dX10_owedOn_143 (by decide) (fun c_55 => ?_) (fun c_55 => ?_)
              · have dc_55 := c_eq (a := x_54.toInt) (b := 0) rfl (by decide) c_55
                refine lv_aload_n hx hb dX10_owedOn_149 rfl (lv_at hl 2 rfl) ?_
                refine lv_iconst (v := 2) hx hb dX10_owedOn_150 (by decide) ?_
                refine lv_aload_n hx hb dX10_owedOn_151 rfl (lv_at hl 3 rfl) ?_
                refine lv_iload_n hx hb dX10_owedOn_152 rfl (lv_at hl 4 rfl) ?_
                refine lv_iload_n hx hb dX10_owedOn_153 rfl (lv_at hl 5 rfl) ?_
                refine lv_iconst (v := 0) hx hb dX10_owedOn_154 (by decide) ?_
                refine lv_iconst (v := 0) hx hb dX10_owedOn_155 (by decide) ?_
                have hFc := o_free hD hS hA
                refine va_calli (va_runV (As := [.int 2, .ref a1, .int x2, .int x3, .int 0, .int 0]) (rest := []) ⟨hx, hb, hml, hown, hts⟩ (c_X10_worthFor_c l dC dI H.size cq S_27 hIS_27 o t_36 2 (by decide) a1 t_32 x2 (by omega) x3 (by omega) 0 0 v fa hR_37 (by decide) (by decide) (by omega) a ha (ea.trans (agA_o (W := [2108, 5001]) (oX.st oX.rf XS_27 (by decide)) gI to (by decide) (by decide) _).symm)) (cwV 6 hts gX10_owedOn_X10_worthFor rfl rfl rfl (by decide +kernel) ⟨(Nat.le_of_ble_eq_true rfl), (Nat.le_of_ble_eq_true rfl)⟩) (pr_V (r := (RX10, TX10, 16)) hP hK hD q_43 10 rfl hq_43) rfl rfl hl.1 rfl (lv_room (Nat.le_of_ble_eq_true rfl)) dX10_owedOn_156 ⟨(Nat.le_of_ble_eq_true rfl), (Nat.le_of_ble_eq_true rfl)⟩) hS (fun q _ h => hFc q h) hFc (fun r_57 u t H locs ht hvm w_56 hB hz1 hk1 hS => ?_)
                obtain ⟨S_58, rfl⟩ : ∃ z, z = u := ⟨_, rfl⟩
                obtain ⟨hP1, hK1, hD1⟩ := hB
                rw [ht] at hP1
                have hP : va_P (dC, dI) vwCl (oW cq S_58) H := hP1
                have hD : va_D A (oW cq S_58) := hD1.weaken (fun _ _ _ h => hFc _ h)
                clear hP1 hK1 hD1 hk1 hz1 hvm ht hFc
                obtain ⟨hIS_58, XS_58, hx_59⟩ := w_56
                have X_60 : oX [2108, 5001] Z S_58 := oX.st YS_27 XS_58 (by decide)
                have g_61 : (oI S_58 a1 2).toInt = (oI S_27 a1 2).toInt := by rw [oX.i XS_58 t_32 (by decide)]
                have g_62 : (oI S_58 a1 4).toInt = (oI S_27 a1 4).toInt := by rw [oX.i XS_58 t_32 (by decide)]
                have g_63 : (oI S_58 a1 11).toInt = (oI S_27 a1 11).toInt := by rw [oX.i XS_58 t_32 (by decide)]
                have g_64 : (oI S_58 a1 13).toInt = (oI S_27 a1 13).toInt := by rw [oX.i XS_58 t_32 (by decide)]
                have g_65 : (oI S_58 b_50 3).toInt = (oI S_27 b_50 3).toInt := by rw [oX.i XS_58 tb_50 (by decide)]
                have pk_66 : oP S_58 a1 0 = some ama1 := by rw [oX.p XS_58 t_32 (by decide)]; exact pk_28
                have pk_67 : oP S_58 a1 1 = some ava1 := by rw [oX.p XS_58 t_32 (by decide)]; exact pk_29
                have pk_68 : oP S_58 o 8 = some lw := by rw [oX.p XS_58 t_36 (by decide)]; exact pk_30
                refine lv_istore (lv' := [(6, .int r_57), (5, .ref b_50), (4, .int x_42), (0, .ref o), (1, .ref a1), (2, .int x2), (3, .int x3)]) hx hb dX10_owedOn_159 hl (by decide) rfl (fun ls hl => ?_)
                refine lv_iconst (v := 0) hx hb dX10_owedOn_161 (by decide) ?_
                refine lv_bipush (v := 100) hx hb dX10_owedOn_162 (by decide) ?_
                refine lv_iload hx hb dX10_owedOn_164 (lv_at hl 0 rfl) ?_
                refine va_mmin hx hb (by rw [hml]; exact hl.1.symm) hown (hts (.methodLink RX10 378 Lib.Math.min.name) iw_X10_owedOn_6) (hts (.static Lib.Math.min.name) iw_X10_owedOn_7) (hts (.initialized "java/lang/Math") iw_X10_owedOn_8) (hts (.code Lib.Math.min.name Lib.Math.min.code 2 (some .int)) (by decide +kernel)) (Nat.le_of_ble_eq_true rfl) (Nat.le_of_ble_eq_true rfl) (Nat.le_of_ble_eq_true rfl) (Nat.le_of_ble_eq_true rfl) dX10_owedOn_166 ?_
                refine lv_topi (fun x_69 ex_69 => ?_)
                have hx_69 := mmin_i ex_69
                clear ex_69
                refine va_mmax hx hb (by rw [hml]; exact hl.1.symm) hown (hts (.methodLink RX10 383 Lib.Math.max.name) iw_X10_owedOn_9) (hts (.static Lib.Math.max.name) iw_X10_owedOn_10) (hts (.initialized "java/lang/Math") iw_X10_owedOn_8) (hts (.code Lib.Math.max.name Lib.Math.max.code 2 (some .int)) (by decide +kernel)) (Nat.le_of_ble_eq_true rfl) (Nat.le_of_ble_eq_true rfl) (Nat.le_of_ble_eq_true rfl) (Nat.le_of_ble_eq_true rfl) dX10_owedOn_169 ?_
                refine lv_topi (fun x_70 ex_70 => ?_)
                have hx_70 := mmax_i ex_70
                clear ex_70
                have kz0 : (0 : Int32).toInt = 0 := (by decide)
                have kz1 : (100 : Int32).toInt = 100 := (by decide)
                refine lv_i2l (v := (x_70 : Int32).toInt64) hx hb dX10_owedOn_172 rfl ?_
                refine lv_topl (fun l_71 el_71 => ?_)
                have hl_71 : l_71.toInt = x_70.toInt := by rw [el_71]; exact Int32.toInt_toInt64 _
                refine lv_lstore (lv' := [(7, .long l_71), (6, .int r_57), (5, .ref b_50), (4, .int x_42), (0, .ref o), (1, .ref a1), (2, .int x2), (3, .int x3)]) hx hb dX10_owedOn_173 hl (by decide) rfl (fun ls hl => ?_)
                refine lv_iload hx hb dX10_owedOn_175 (lv_at hl 3 rfl) ?_
                refine lv_iload hx hb dX10_owedOn_177 (lv_at hl 3 rfl) ?_
                have kz0 : (0 : Int32).toInt = 0 := (by decide)
                have kz1 : (100 : Int32).toInt = 100 := (by decide)
                refine lv_i2l (v := (x_42 : Int32).toInt64) hx hb dX10_owedOn_179 rfl ?_
                refine lv_topl (fun l_72 el_72 => ?_)
                have hl_72 : l_72.toInt = x_42.toInt := by rw [el_72]; exact Int32.toInt_toInt64 _
                refine lv_lload hx hb dX10_owedOn_180 (lv_at hl 0 rfl) ?_
                refine lv_lmul hx hb dX10_owedOn_182 ?_
                refine lv_topl (fun l_73 el_73 => ?_)
                have hl_73 : l_73.toInt = l_72.toInt * l_71.toInt := by rw [el_73]; exact lmu_i rfl rfl (by omega) (by omega)
                refine lv_ldc2 (v := 100) hx hb hown (hts (.constantLong RX10 253 (100)) (by decide +kernel)) dX10_owedOn_183 ?_
                refine lv_ldiv hx hb dX10_owedOn_186 (by decide) ?_
                refine lv_topl (fun l_74 el_74 => ?_)
                have hl_74 : l_74.toInt = l_73.toInt.tdiv 100 := by rw [el_74]; exact ldv_i rfl (by decide) (by decide)
                have hbl_74 := dm_b hl_74 hl_73 (by omega) (by omega)
                refine lv_l2i (v := (l_74 : Int64).toInt32) hx hb dX10_owedOn_187 rfl ?_
                refine lv_topi (fun x_75 ex_75 => ?_)
                have h2ix_75 := l2i_i ex_75 (a := l_74.toInt) rfl (by omega) (by omega)
                have h2jx_75 : 0 ≤ x_75.toInt ∧ x_75.toInt ≤ 1978020 + 1000234 := by omega
                refine lv_isub hx hb dX10_owedOn_188 ?_
                refine lv_topi (fun x_76 ex_76 => ?_)
                have hx_76 : x_76.toInt = x_42.toInt - x_75.toInt := (iv_to ex_76).trans (sb_i rfl rfl (by omega) (by omega))
                clear ex_76
                exact W.iret (v := x_76) hx hb hr (fun t ht hW => ⟨⟨x_76, S_58, rfl, ⟨hIS_58, X_60, (by have q9 := hq0_cut_24; rw [show y_25.toNatClampNeg = (fa 30 a).toNatClampNeg from (show y_25.toInt.toNat = (fa 30 a).toInt.toNat by omega)] at q9; have q8 := hx_41; have eO : x_42.toInt = owV v fa a x2.toInt x3.toInt := (by unfold owV; omega); have hw9 := hx_59; rw [show (2 : Int32).toInt = 2 from (by decide)] at hw9; have hi9 : r_57.toInt = ffW v fa a x2 x3.toInt := congrArg Int32.toInt hw9; have ef : x_70.toInt = clF (ffW v fa a x2 x3.toInt) := (by have k0 : (0 : Int32).toInt = 0 := (by decide); have k1 : (100 : Int32).toInt = 100 := (by decide); unfold clF; (repeat (first | rw [if_pos (by omega)] | rw [if_neg (by omega)])); (first | done | omega)); have em : l_74.toInt = (owV v fa a x2.toInt x3.toInt * clF (ffW v fa a x2 x3.toInt)).tdiv 100 := (by rw [hl_74, hl_73, hl_72, hl_71, ← eO, ← ef]); unfold owF; rw [if_neg (by omega), if_neg (by omega)]; omega)⟩, ⟨by rw [ht]; exact hP, va_K.moved hW.alike hK, hD⟩⟩, hS.F ht⟩) hS.2.2 dX10_owedOn_189
              · have dc_55 := c_ne (a := x_54.toInt) (b := 0) rfl (by decide) c_55
                refine lv_iload hx hb dX10_owedOn_146 (lv_at hl 1 rfl) ?_
                exact W.iret (v := x_42) hx hb hr (fun t ht hW => ⟨⟨x_42, S_27, rfl, ⟨hIS_27, YS_27, (by have q9 := hq0_cut_24; rw [show y_25.toNatClampNeg = (fa 30 a).toNatClampNeg from (show y_25.toInt.toNat = (fa 30 a).toInt.toNat by omega)] at q9; have q8 := hx_41; have eO : x_42.toInt = owV v fa a x2.toInt x3.toInt := (by unfold owV; omega); unfold owF; rw [if_neg (by omega), if_pos (by omega)]; omega)⟩, ⟨by rw [ht]; exact hP, va_K.moved hW.alike hK, hD⟩⟩, hS.F ht⟩) hS.2.2 dX10_owedOn_148
        · have dc_35 := c_nle (a := x_34.toInt) (b := y_25.toInt) rfl rfl c_35
          refine lv_aload_n hx hb dX10_owedOn_68 rfl (lv_at hl 3 rfl) ?_
          obtain ⟨b_77, hb_77⟩ := oInv.nn (i := 12) hIS_27 t_32 rfl
          refine va_get (D := (dC, dI)) (ci := 1) (v := .ref b_77) (C := RX1) (T := TX1) (N := 18) hx hb hts in_wsX10_owedOn_X1 hown hK hP q_33 hq_33 rfl 12 (by decide) (hts (.fieldLink RX10 261 "ShipOffice$Agreement" "fines" "[LShipOffice$Fine;") iw_X10_owedOn_11) (fun _ h9 => h9) (o_rd hb_77) dX10_owedOn_69 ?_
          have tb_77 : oty S_27 b_77 17 := oInv.rd hIS_27 t_32.2 hb_77 rfl rfl
          refine lv_iload hx hb dX10_owedOn_72 (lv_at hl 0 rfl) ?_
          obtain ⟨q_78, hq_78⟩ := og (cq := cq) tb_77.1 (oE_17 tb_77.2)
          refine va_aldq hx hb hK hP q_78 6 hq_78 rfl (vp_in_iff.mpr (by omega)) dX10_owedOn_74 ?_
          obtain ⟨b_79, hb_79⟩ := oInv.el (i := 13) (x := y_25) hIS_27 t_32 rfl hb_77 (by omega) (by omega)
          refine W.eq (g2 := F0 m 75 ls [.ref b_79]) (congrArg (fun z => F0 m 75 ls [va_rf z]) hb_79) ?_
          have tb_79 : oty S_27 b_79 2 := oInv.rd hIS_27 tb_77.2 hb_79 rfl rfl
          have fFb_79 := ff29 y_25.toNatClampNeg (show y_25.toInt.toNat < (fa 30 a).toInt.toNat by omega)
          unfold fnA at fFb_79
          rw [oQ_e hb_77, oQ_e hb_79] at fFb_79
          obtain ⟨fd1b_79, fd2b_79, fd3b_79, fd4b_79, fd5b_79, fd6b_79, fd7b_79⟩ := id fFb_79
          obtain ⟨q_80, hq_80⟩ := og (cq := cq) tb_79.1 (oE_2 tb_79.2)
          refine va_get (D := (dC, dI)) (ci := 2) (v := .int (oI S_27 b_79 0)) (C := RX2) (T := TX2) (N := 3) hx hb hts in_wsX10_owedOn_X2 hown hK hP q_80 hq_80 rfl 0 (by decide) (hts (.fieldLink RX10 277 "ShipOffice$Fine" "day" "I") iw_X10_owedOn_12) (fun _ h9 => h9) rfl dX10_owedOn_75 ?_
          refine lv_topi (fun x_81 ex_81 => ?_)
          have gx_81 : x_81.toInt = (oI S_27 b_79 0).toInt := iv_to ex_81
          clear ex_81
          refine lv_iload_n hx hb dX10_owedOn_78 rfl (lv_at hl 4 rfl) ?_
          refine lv_icmp_gt (tgt := 100) hx hb dX10_owedOn_79 (by decide) (fun c_82 => ?_) (fun c_82 => ?_)
          · have dc_82 := c_lt (a := x2.toInt) (b := x_81.toInt) rfl rfl c_82
            obtain ⟨x_83, ex_83⟩ : ∃ zq : Int32, y_25 + 1 = zq := ⟨_, rfl⟩
            have hx_83 : x_83.toInt = y_25.toInt + 1 := (iv_to ex_83).symm.trans (ad_i rfl (by decide) (by omega) (by omega))
            refine lv_iinc (v := x_83) (lv' := [(5, .int x_83), (4, .int y_26), (0, .ref o), (1, .ref a1), (2, .int x2), (3, .int x3)]) hx hb dX10_owedOn_100 hl (k := 0) rfl ex_83 (by decide) rfl (fun ls hl => ?_)
            clear ex_83
            refine lv_goto (tgt := 59) hx hb dX10_owedOn_103 (by decide) ?_
            exact ih (n - 1) (by omega) x_83 y_26 S_27 _ _ ls (by omega) (by omega) (by omega) (fn_s hq0_cut_24 (by omega) (by omega) (by omega)) (by omega) hIS_27 (oX.st oX.rf XS_27 (by decide)) hP hD hS pk_28 pk_29 pk_30 (lv_sub hl [0, 1, 2, 3, 4, 5] rfl)
          · have dc_82 := c_nlt (a := x2.toInt) (b := x_81.toInt) rfl rfl c_82
            refine lv_iload hx hb dX10_owedOn_82 (lv_at hl 1 rfl) ?_
            refine lv_aload_n hx hb dX10_owedOn_84 rfl (lv_at hl 2 rfl) ?_
            refine lv_aload_n hx hb dX10_owedOn_85 rfl (lv_at hl 3 rfl) ?_
            refine lv_aload_n hx hb dX10_owedOn_86 rfl (lv_at hl 3 rfl) ?_
            refine va_get (D := (dC, dI)) (ci := 1) (v := .ref b_77) (C := RX1) (T := TX1) (N := 18) hx hb hts in_wsX10_owedOn_X1 hown hK hP q_33 hq_33 rfl 12 (by decide) (hts (.fieldLink RX10 261 "ShipOffice$Agreement" "fines" "[LShipOffice$Fine;") iw_X10_owedOn_11) (fun _ h9 => h9) (o_rd hb_77) dX10_owedOn_87 ?_
            refine lv_iload hx hb dX10_owedOn_90 (lv_at hl 0 rfl) ?_
            refine va_aldq hx hb hK hP q_78 6 hq_78 rfl (vp_in_iff.mpr (by omega)) dX10_owedOn_92 ?_
            obtain ⟨b_84, hb_84⟩ := oInv.el (i := 13) (x := y_25) hIS_27 t_32 rfl hb_77 (by omega) (by omega)
            refine W.eq (g2 := F0 m 93 ls [.ref b_84, .ref a1, .ref o, .int y_26]) (congrArg (fun z => F0 m 93 ls [va_rf z, .ref a1, .ref o, .int y_26]) hb_84) ?_
            have tb_84 : oty S_27 b_84 2 := oInv.rd hIS_27 tb_77.2 hb_84 rfl rfl
            have fFb_84 := ff29 y_25.toNatClampNeg (show y_25.toInt.toNat < (fa 30 a).toInt.toNat by omega)
            unfold fnA at fFb_84
            rw [oQ_e hb_77, oQ_e hb_84] at fFb_84
            obtain ⟨fd1b_84, fd2b_84, fd3b_84, fd4b_84, fd5b_84, fd6b_84, fd7b_84⟩ := id fFb_84
            refine lv_iload_n hx hb dX10_owedOn_93 rfl (lv_at hl 5 rfl) ?_
            have t_85 : oty S_27 o 10 := (oX.ty XS_27 to)
            have hR_86 := RC_o (W := [2108, 5001]) (oX.st oX.rf XS_27 (by decide)) gI to (by decide) hR
            have hFc := o_free hD hS hA
            obtain ⟨q_87, hq_87⟩ := og (cq := cq) t_85.1 (oE_10 t_85.2)
            refine va_calli (va_runV (As := [.ref a1, .ref b_84, .int x3]) (rest := [.int y_26]) ⟨hx, hb, hml, hown, hts⟩ (c_X10_standing_c l dC dI H.size cq S_27 hIS_27 o t_85 a1 t_32 b_84 tb_84 x3 (by omega) v fa hR_86 a ha (ea.trans (agA_o (W := [2108, 5001]) (oX.st oX.rf XS_27 (by decide)) gI to (by decide) (by decide) _).symm) (6 * a + y_25.toNatClampNeg) fFb_84 (by omega)) (cwV 3 hts gX10_owedOn_X10_standing rfl rfl rfl (by decide +kernel) ⟨(Nat.le_of_ble_eq_true rfl), (Nat.le_of_ble_eq_true rfl)⟩) (pr_V (r := (RX10, TX10, 16)) hP hK hD q_87 10 rfl hq_87) rfl rfl hl.1 rfl (lv_room (Nat.le_of_ble_eq_true rfl)) dX10_owedOn_94 ⟨(Nat.le_of_ble_eq_true rfl), (Nat.le_of_ble_eq_true rfl)⟩) hS (fun q _ h => hFc q h) hFc (fun r_89 u t H locs ht hvm w_88 hB hz1 hk1 hS => ?_)
            obtain ⟨S_90, rfl⟩ : ∃ z, z = u := ⟨_, rfl⟩
            obtain ⟨hP1, hK1, hD1⟩ := hB
            rw [ht] at hP1
            have hP : va_P (dC, dI) vwCl (oW cq S_90) H := hP1
            have hD : va_D A (oW cq S_90) := hD1.weaken (fun _ _ _ h => hFc _ h)
            clear hP1 hK1 hD1 hk1 hz1 hvm ht hFc
            obtain ⟨hIS_90, XS_90, hx_91⟩ := w_88
            have X_92 : oX [2108, 5001] Z S_90 := oX.st YS_27 XS_90 (by decide)
            have g_93 : (oI S_90 a1 2).toInt = (oI S_27 a1 2).toInt := by rw [oX.i XS_90 t_32 (by decide)]
            have g_94 : (oI S_90 a1 4).toInt = (oI S_27 a1 4).toInt := by rw [oX.i XS_90 t_32 (by decide)]
            have g_95 : (oI S_90 a1 11).toInt = (oI S_27 a1 11).toInt := by rw [oX.i XS_90 t_32 (by decide)]
            have g_96 : (oI S_90 a1 13).toInt = (oI S_27 a1 13).toInt := by rw [oX.i XS_90 t_32 (by decide)]
            have g_97 : (oI S_90 b_79 0).toInt = (oI S_27 b_79 0).toInt := by rw [oX.i XS_90 tb_79 (by decide)]
            have pk_98 : oP S_90 a1 0 = some ama1 := by rw [oX.p XS_90 t_32 (by decide)]; exact pk_28
            have pk_99 : oP S_90 a1 1 = some ava1 := by rw [oX.p XS_90 t_32 (by decide)]; exact pk_29
            have pk_100 : oP S_90 o 8 = some lw := by rw [oX.p XS_90 t_85 (by decide)]; exact pk_30
            have hsv9 := stV_b (v := v) (a := a) (k := x3.toInt) (hOw.2.2.2.1 y_25.toNatClampNeg (show y_25.toInt.toNat < (fa 30 a).toInt.toNat by omega))
            have hsw9 : 0 ≤ r_89.toInt ∧ r_89.toInt ≤ 9999 := by have q := hx_91; omega
            refine lv_isub hx hb dX10_owedOn_97 ?_
            refine lv_topi (fun x_101 ex_101 => ?_)
            have hx_101 : x_101.toInt = y_26.toInt - r_89.toInt := (iv_to ex_101).trans (sb_i rfl rfl (by omega) (by omega))
            clear ex_101
            refine lv_istore (lv' := [(4, .int x_101), (5, .int y_25), (0, .ref o), (1, .ref a1), (2, .int x2), (3, .int x3)]) hx hb dX10_owedOn_98 hl (by decide) rfl (fun ls hl => ?_)
            obtain ⟨x_102, ex_102⟩ : ∃ zq : Int32, y_25 + 1 = zq := ⟨_, rfl⟩
            have hx_102 : x_102.toInt = y_25.toInt + 1 := (iv_to ex_102).symm.trans (ad_i rfl (by decide) (by omega) (by omega))
            refine lv_iinc (v := x_102) (lv' := [(5, .int x_102), (4, .int x_101), (0, .ref o), (1, .ref a1), (2, .int x2), (3, .int x3)]) hx hb dX10_owedOn_100 hl (k := 1) rfl ex_102 (by decide) rfl (fun ls hl => ?_)
            clear ex_102
            refine lv_goto (tgt := 59) hx hb dX10_owedOn_103 (by decide) ?_
            exact ih (n - 1) (by omega) x_102 x_101 S_90 _ _ ls (by omega) (by omega) (by omega) (fn_s hq0_cut_24 (by omega) (by omega) (by omega)) (by omega) hIS_90 (oX.st (oX.st oX.rf XS_27 (by decide)) XS_90 (by decide)) hP hD hS pk_98 pk_99 pk_100 (lv_sub hl [0, 1, 2, 3, 4, 5] rfl)
    have kc_103 : (0 : Int32).toInt = 0 := by decide
    exact cut_24 7 0 x_23 Z _ _ ls (by omega) (by decide) (by omega) (sm_0 (g := fnF v fa a x2.toInt x3.toInt) (by decide) rfl (by omega)).1 (by have rc : (0 : Int32).toInt = 0 := (by decide); omega) gI oX.rf hP hD hS fm3a1 fv3a1 hlw0 (lv_sub hl [0, 1, 2, 3, 4, 5] rfl)
  · have dc_5 := c_nle (a := x_4.toInt) (b := x2.toInt) rfl rfl c_5
    refine lv_iconst (v := 0) hx hb dX10_owedOn_8 (by decide) ?_
    exact W.iret (v := 0) hx hb hr (fun t ht hW => ⟨⟨0, Z, rfl, ⟨gI, oX.rf, (by have rc : (0 : Int32).toInt = 0 := (by decide); unfold owF; rw [if_pos (by omega)]; (first | done | omega))⟩, ⟨by rw [ht]; exact hP, va_K.moved hW.alike hK, hD⟩⟩, hS.F ht⟩) hS.2.2 dX10_owedOn_9
