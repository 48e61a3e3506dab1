

/-- the fine that a call names -/
def fiR (Z : oS) (a : Option Nat) (x : Int32) (r : Option Nat) : Prop := (r = none ∧ ∀ b, a = some b → ¬ (0 ≤ x.toInt ∧ x.toInt < (oI Z b 13).toInt)) ∨ ∃ b, a = some b ∧ (0 ≤ x.toInt ∧ x.toInt < (oI Z b 13).toInt) ∧ r = some (fnA Z b x.toNatClampNeg)
theorem fiR_n {Z : oS} {b : Nat} {x : Int32} (h : fiR Z (some b) x none) : ¬ (0 ≤ x.toInt ∧ x.toInt < (oI Z b 13).toInt) := by
  rcases h with h | ⟨c, -, -, h⟩
  · exact h.2 b rfl
  · exact absurd h (by simp)
theorem fiR_s {Z : oS} {b f : Nat} {x : Int32} (h : fiR Z (some b) x (some f)) : (0 ≤ x.toInt ∧ x.toInt < (oI Z b 13).toInt) ∧ f = fnA Z b x.toNatClampNeg := by
  rcases h with h | ⟨c, h1, h2, h3⟩
  · exact absurd h.1 (by simp)
  · cases h1
    exact ⟨h2, Option.some.inj h3⟩
theorem fiR_0 {Z : oS} {f : Nat} {x : Int32} (h : fiR Z none x (some f)) : False := by
  rcases h with h | ⟨c, h1, -, -⟩
  · exact absurd h.1 (by simp)
  · exact absurd h1 (by simp)
set_option maxHeartbeats 4000000 in
set_option maxRecDepth 100000 in
theorem c_X10_fineAt_c (l : Launch) (dC : Nat → ClassId) (dI : Nat → Nat → Nat) (sz : Nat) (cq : Nat → ClassId) (Z : oS) (gI : oInv Z) (r1 : Option Nat) (tr1 : ∀ b, r1 = some b → oty Z b 1) (x2 : Int32) : Met l yX10_fineAt wsX10_fineAt ({ frames := 0, cells := 0, slots := 0, locals := 0 }) (va_Pc [va_rf r1, .int x2] (pcW (dC, dI) (oT cq) (oW cq Z) sz)) (va_Qq (fun (r : Option Nat) (u : Unit) => (∀ b, r = some b → oty Z b 2) ∧ (fiR Z r1 x2 r)) (fun _ _ => True) (va_A [] sz)) 0 0 (va_A [] sz) := by
  rcases r1 with _ | br1
  · refine Met.ofW (cc := cX10_fineAt) (maxL := 2) (ret := (some (.object "ShipOffice$Fine"))) (by decide) rfl ?_
    intro p e s m args below meth c s₁ B hml hv
    obtain ⟨rfl, hsz, hP, hK, hD0⟩ := hv
    have hx := B.exec
    have hb := B.bytes
    have hr := B.returns
    have hts := atoms_spec (ws := wsX10_fineAt) B.pre
    have hown : s.vm.findClass RX10 = some m.cls := findClass_of_methodNamed B.named
    have hlocks := B.notSynchronized
    subst hsz
    have hD := hD0
    generalize hAe : va_A [] s.heap.size = A at ⊢
    have hA : ∀ q : Nat, s.heap.size ≤ q → A q := fun q h => by rw [← hAe]; exact Or.inr h
    have hS : va_S A s.heap s.heap [] := va_S.rf
    have hP : va_P (dC, dI) vwCl (oW cq Z) s.heap := hP
    have hl := lv_entry ([va_rf none, .int x2]) (n := 2) (Nat.le_of_ble_eq_true rfl)
    rw [lg_entry_eq]
    generalize (lg_sl ([va_rf none, .int x2]) ++ List.replicate (2 - (lg_sl ([va_rf none, .int x2])).length) Slot.unset).toArray = ls at hl ⊢
    have hl : lv_has ls 2 [(0, va_rf none), (1, .int x2)] := hl
    have hl : lv_has ls 2 [(0, .null), (1, .int x2)] := hl
    refine lv_aload_nN hx hb dX10_fineAt_0 rfl (lv_at hl 0 rfl) ?_
    refine lv_ifnullN (tgt := 16) hx hb dX10_fineAt_1 (by decide) ?_
    refine lv_null hx hb dX10_fineAt_16 ?_
    refine lv_goto (tgt := 26) hx hb dX10_fineAt_17 (by decide) ?_
    exact W.aret (v := .null) hx hb hr (Or.inl ⟨_, rfl⟩) (Or.inl rfl) (fun t ht hW => ⟨⟨none, (), rfl, ⟨(fun b h => by cases h), (Or.inl ⟨rfl, fun b h => by cases h⟩)⟩, trivial⟩, hS.F ht⟩) hS.2.2 dX10_fineAt_26
  · refine Met.ofW (cc := cX10_fineAt) (maxL := 2) (ret := (some (.object "ShipOffice$Fine"))) (by decide) rfl ?_
    intro p e s m args below meth c s₁ B hml hv
    obtain ⟨rfl, hsz, hP, hK, hD0⟩ := hv
    have hx := B.exec
    have hb := B.bytes
    have hr := B.returns
    have hts := atoms_spec (ws := wsX10_fineAt) B.pre
    have hown : s.vm.findClass RX10 = some m.cls := findClass_of_methodNamed B.named
    have hlocks := B.notSynchronized
    subst hsz
    have hD := hD0
    generalize hAe : va_A [] s.heap.size = A at ⊢
    have hA : ∀ q : Nat, s.heap.size ≤ q → A q := fun q h => by rw [← hAe]; exact Or.inr h
    have hS : va_S A s.heap s.heap [] := va_S.rf
    have hP : va_P (dC, dI) vwCl (oW cq Z) s.heap := hP
    have hl := lv_entry ([va_rf (some br1), .int x2]) (n := 2) (Nat.le_of_ble_eq_true rfl)
    rw [lg_entry_eq]
    generalize (lg_sl ([va_rf (some br1), .int x2]) ++ List.replicate (2 - (lg_sl ([va_rf (some br1), .int x2])).length) Slot.unset).toArray = ls at hl ⊢
    have hl : lv_has ls 2 [(0, va_rf (some br1)), (1, .int x2)] := hl
    have hl : lv_has ls 2 [(0, .ref br1), (1, .int x2)] := hl
    have tbbr1 : oty Z br1 1 := tr1 br1 rfl
    refine lv_aload_n hx hb dX10_fineAt_0 rfl (lv_at hl 0 rfl) ?_
    refine lv_ifnull hx hb dX10_fineAt_1 ?_
    refine lv_iload_n hx hb dX10_fineAt_4 rfl (lv_at hl 1 rfl) ?_
    refine lv_if_lt (tgt := 16) hx hb dX10_fineAt_5 (by decide) (fun c_1 => ?_) (fun c_1 => ?_)
    · have dc_1 := c_lt (a := x2.toInt) (b := 0) rfl (by decide) c_1
      refine lv_null hx hb dX10_fineAt_16 ?_
      refine lv_goto (tgt := 26) hx hb dX10_fineAt_17 (by decide) ?_
      exact W.aret (v := .null) hx hb hr (Or.inl ⟨_, rfl⟩) (Or.inl rfl) (fun t ht hW => ⟨⟨none, (), rfl, ⟨(fun b h => by cases h), (Or.inl ⟨rfl, fun b h => by cases h; omega⟩)⟩, trivial⟩, hS.F ht⟩) hS.2.2 dX10_fineAt_26
    · have dc_1 := c_nlt (a := x2.toInt) (b := 0) rfl (by decide) c_1
      refine lv_iload_n hx hb dX10_fineAt_8 rfl (lv_at hl 1 rfl) ?_
      refine lv_aload_n hx hb dX10_fineAt_9 rfl (lv_at hl 0 rfl) ?_
      obtain ⟨q_2, hq_2⟩ := og (cq := cq) tbbr1.1 (oE_1 tbbr1.2)
      refine va_get (D := (dC, dI)) (ci := 1) (v := .int (oI Z br1 13)) (C := RX1) (T := TX1) (N := 18) hx hb hts in_wsX10_fineAt_X1 hown hK hP q_2 hq_2 rfl 13 (by decide) (hts (.fieldLink RX10 258 "ShipOffice$Agreement" "fineCount" "I") iw_X10_fineAt_1) (fun _ h9 => h9) rfl dX10_fineAt_10 ?_
      refine lv_topi (fun x_3 ex_3 => ?_)
      have hx_3 : 0 ≤ x_3.toInt ∧ x_3.toInt ≤ 6 := iv_of ex_3 (oInv.iv gI tbbr1.2 rfl rfl)
      have gx_3 : x_3.toInt = (oI Z br1 13).toInt := iv_to ex_3
      clear ex_3
      refine lv_icmp_lt (tgt := 20) hx hb dX10_fineAt_13 (by decide) (fun c_4 => ?_) (fun c_4 => ?_)
      · have dc_4 := c_lt (a := x2.toInt) (b := x_3.toInt) rfl rfl c_4
        refine lv_aload_n hx hb dX10_fineAt_20 rfl (lv_at hl 0 rfl) ?_
        obtain ⟨b_5, hb_5⟩ := oInv.nn (i := 12) gI tbbr1 rfl
        refine va_get (D := (dC, dI)) (ci := 1) (v := .ref b_5) (C := RX1) (T := TX1) (N := 18) hx hb hts in_wsX10_fineAt_X1 hown hK hP q_2 hq_2 rfl 12 (by decide) (hts (.fieldLink RX10 261 "ShipOffice$Agreement" "fines" "[LShipOffice$Fine;") iw_X10_fineAt_2) (fun _ h9 => h9) (o_rd hb_5) dX10_fineAt_21 ?_
        have tb_5 : oty Z b_5 17 := oInv.rd gI tbbr1.2 hb_5 rfl rfl
        refine lv_iload_n hx hb dX10_fineAt_24 rfl (lv_at hl 1 rfl) ?_
        obtain ⟨q_6, hq_6⟩ := og (cq := cq) tb_5.1 (oE_17 tb_5.2)
        refine va_aldq hx hb hK hP q_6 6 hq_6 rfl (vp_in_iff.mpr (by omega)) dX10_fineAt_25 ?_
        obtain ⟨b_7, hb_7⟩ := oInv.el (i := 13) (x := x2) gI tbbr1 rfl hb_5 (by omega) (by omega)
        refine W.eq (g2 := F0 m 26 ls [.ref b_7]) (congrArg (fun z => F0 m 26 ls [va_rf z]) hb_7) ?_
        have tb_7 : oty Z b_7 2 := oInv.rd gI tb_5.2 hb_7 rfl rfl
        exact W.aret (v := .ref b_7) hx hb hr (Or.inl ⟨_, rfl⟩) (Or.inr ⟨_, rfl⟩) (fun t ht hW => ⟨⟨(some b_7), (), rfl, ⟨(fun b h => by cases h; exact tb_7), (Or.inr ⟨_, rfl, ⟨by omega, by omega⟩, by unfold fnA; rw [oQ_e hb_5, oQ_e hb_7]⟩)⟩, trivial⟩, hS.F ht⟩) hS.2.2 dX10_fineAt_26
      · have dc_4 := c_nlt (a := x2.toInt) (b := x_3.toInt) rfl rfl c_4
        refine lv_null hx hb dX10_fineAt_16 ?_
        refine lv_goto (tgt := 26) hx hb dX10_fineAt_17 (by decide) ?_
        exact W.aret (v := .null) hx hb hr (Or.inl ⟨_, rfl⟩) (Or.inl rfl) (fun t ht hW => ⟨⟨none, (), rfl, ⟨(fun b h => by cases h), (Or.inl ⟨rfl, fun b h => by cases h; omega⟩)⟩, trivial⟩, hS.F ht⟩) hS.2.2 dX10_fineAt_26
set_option maxHeartbeats 4000000 in
set_option maxRecDepth 100000 in
theorem c_X10_read_c (l : Launch) (dC : Nat → ClassId) (dI : Nat → Nat → Nat) (sz : Nat) (cq : Nat → ClassId) (Z : oS) (gI : oInv Z) (o : Nat) (to : oty Z o 10) (x1 : Int32) (x2 : Int32) (v : Nat → Int32) (fa : Nat → Nat → Int32) (hR : RC Z o v fa) (hE : RX Z o v fa) : Met l yX10_read wsX10_read ({ frames := 1, cells := 0, slots := 0, locals := 21 }) (va_Pc [.ref o, .int x1, .int x2] (pcW (dC, dI) (oT cq) (oW cq Z) sz)) (va_Qi (fun (r : Int32) (u : oS) => oInv u ∧ oX [202, 2107] Z u ∧ (aRe (v 43).toInt x1.toInt (fa 30 x1.toNatClampNeg).toInt x2.toInt (fa 37 (6 * x1.toNatClampNeg + x2.toNatClampNeg)).toInt (fa 33 (6 * x1.toNatClampNeg + x2.toNatClampNeg)).toInt (v 38).toInt r.toInt ∧ rOo Z o u r (u = setI Z (fnA Z (agA Z o x1.toNatClampNeg) x2.toNatClampNeg) 2 1))) (fun u t => va_P (dC, dI) vwCl (oW cq u) t.heap ∧ va_K (dC, dI) vwCl (oT cq) t ∧ va_D (va_A (oW cq Z) sz) (oW cq u)) (va_A (oW cq Z) sz)) 0 0 (va_A (oW cq Z) sz) := by
  refine Met.ofW (cc := cX10_read) (maxL := 4) (ret := (some .int)) (by decide) rfl ?_
  intro p e s m args below meth c s₁ B hml hv
  obtain ⟨rfl, hsz, hP, hK, hD0⟩ := hv
  have hx := B.exec
  have hb := B.bytes
  have hr := B.returns
  have hts := atoms_spec (ws := wsX10_read) B.pre
  have hown : s.vm.findClass RX10 = some m.cls := findClass_of_methodNamed B.named
  have hlocks := B.notSynchronized
  subst hsz
  have hD := hD0.self (sz := s.heap.size)
  generalize hAe : va_A (oW cq Z) s.heap.size = A at hD ⊢
  have hA : ∀ q : Nat, s.heap.size ≤ q → A q := fun q h => by rw [← hAe]; exact Or.inr h
  have hS : va_S A s.heap s.heap [] := va_S.rf
  have hP : va_P (dC, dI) vwCl (oW cq Z) s.heap := hP
  have hl := lv_entry ([.ref o, .int x1, .int x2]) (n := 4) (Nat.le_of_ble_eq_true rfl)
  rw [lg_entry_eq]
  generalize (lg_sl ([.ref o, .int x1, .int x2]) ++ List.replicate (4 - (lg_sl ([.ref o, .int x1, .int x2])).length) Slot.unset).toArray = ls at hl ⊢
  have hl : lv_has ls 4 [(0, .ref o), (1, .int x1), (2, .int x2)] := hl
  obtain ⟨fn0, fn1, fn2, fn3, fn4⟩ := RC.n hR
  have fb38 : 0 ≤ (v 38).toInt ∧ (v 38).toInt ≤ 3000 := RC.V hR 38
  have fb39 : 0 ≤ (v 39).toInt ∧ (v 39).toInt ≤ 40 := RC.V hR 39
  have fb40 : 0 ≤ (v 40).toInt ∧ (v 40).toInt ≤ 20 := RC.V hR 40
  have fb43 : 0 ≤ (v 43).toInt ∧ (v 43).toInt ≤ 60 := RC.V hR 43
  have fb41 : 0 ≤ (v 41).toInt ∧ (v 41).toInt ≤ 200 := RC.V hR 41
  obtain ⟨lw, hlw0⟩ := oInv.nn (i := 8) gI to rfl
  have tlw : oty Z lw 5 := oInv.rd gI to.2 hlw0 rfl rfl
  have hLr : rLw Z lw v fa := by have q := RC.l hR; rw [oQ_e hlw0] at q; exact q
  refine lv_aload_n hx hb dX10_read_0 rfl (lv_at hl 0 rfl) ?_
  refine lv_iload_n hx hb dX10_read_1 rfl (lv_at hl 1 rfl) ?_
  have hFc : ∀ q, va_A [] s.heap.size q → A q := pu_free hS hA
  obtain ⟨q_1, hq_1⟩ := og (cq := cq) to.1 (oE_10 to.2)
  refine va_callq (va_runV (As := [.int x1]) (rest := []) ⟨hx, hb, hml, hown, hts⟩ (c_X10_agreementAt_c l dC dI s.heap.size cq Z gI o to x1 v fa hR) (cwV 1 hts gX10_read_X10_agreementAt rfl rfl rfl (by decide +kernel) ⟨(Nat.le_of_ble_eq_true rfl), (Nat.le_of_ble_eq_true rfl)⟩) (pr_V (r := (RX10, TX10, 16)) hP hK hD q_1 10 rfl hq_1) rfl rfl hl.1 rfl (lv_room (Nat.le_of_ble_eq_true rfl)) dX10_read_2 ⟨(Nat.le_of_ble_eq_true rfl), (Nat.le_of_ble_eq_true rfl)⟩) hS (fun q _ h => hFc q h) hFc (fun r_3 u t H locs ht hvm w_2 hB hz1 hk1 hS => ?_)
  have hP := pu_keep hP hk1
  clear hk1 hz1 hvm hB ht hFc
  obtain ⟨hk_4, hx_5⟩ := w_2
  rcases r_3 with _ | b_6
  · refine W.eq (g2 := F0 m 5 ls [.null]) rfl ?_
    have hnr_3 := atF_n hx_5
    refine lv_iload_n hx hb dX10_read_5 rfl (lv_at hl 2 rfl) ?_
    have hFc : ∀ q, va_A [] H.size q → A q := pu_free hS hA
    refine va_callq (va_runS (As := [.null, .int x2]) (rest := []) ⟨hx, hb, hml, hown, hts⟩ (c_X10_fineAt_c l dC dI H.size cq Z gI none (fun b h => by cases h) x2) (va_cwS 2 hts gX10_read_X10_fineAt rfl rfl rfl (by decide +kernel) ⟨(Nat.le_of_ble_eq_true rfl), (Nat.le_of_ble_eq_true rfl)⟩) (pr_S hP hK hD) rfl rfl hl.1 rfl (lv_room (Nat.le_of_ble_eq_true rfl)) dX10_read_6 ⟨(Nat.le_of_ble_eq_true rfl), (Nat.le_of_ble_eq_true rfl)⟩) hS (fun q _ h => hFc q h) hFc (fun r_8 u t H locs ht hvm w_7 hB hz1 hk1 hS => ?_)
    have hP := pu_keep hP hk1
    clear hk1 hz1 hvm hB ht hFc
    obtain ⟨hk_9, hx_10⟩ := w_7
    rcases r_8 with _ | b_11
    · refine W.eq (g2 := F0 m 9 ls [.null]) rfl ?_
      refine lv_astore_nN (lv' := [(3, .null), (0, .ref o), (1, .int x1), (2, .int x2)]) hx hb dX10_read_9 rfl hl (by decide) rfl (fun ls hl => ?_)
      refine lv_aload_nN hx hb dX10_read_10 rfl (lv_at hl 0 rfl) ?_
      refine lv_ifnonnullN hx hb dX10_read_11 ?_
      refine lv_aload_n hx hb dX10_read_14 rfl (lv_at hl 1 rfl) ?_
      refine lv_iconst (v := (-1)) hx hb dX10_read_15 (by decide) ?_
      have hFc := o_free hD hS hA
      refine va_calli (va_runV (As := [.int (-1)]) (rest := []) ⟨hx, hb, hml, hown, hts⟩ (c_X10_refuse_c l dC dI H.size cq Z gI o to (-1) (by decide)) (cwV 1 hts gX10_read_X10_refuse rfl rfl rfl (by decide +kernel) ⟨(Nat.le_of_ble_eq_true rfl), (Nat.le_of_ble_eq_true rfl)⟩) (pr_V (r := (RX10, TX10, 16)) hP hK hD q_1 10 rfl hq_1) rfl rfl hl.1 rfl (lv_room (Nat.le_of_ble_eq_true rfl)) dX10_read_16 ⟨(Nat.le_of_ble_eq_true rfl), (Nat.le_of_ble_eq_true rfl)⟩) hS (fun q _ h => hFc q h) hFc (fun r_13 u t H locs ht hvm w_12 hB hz1 hk1 hS => ?_)
      obtain ⟨S_14, rfl⟩ : ∃ z, z = u := ⟨_, rfl⟩
      obtain ⟨hP1, hK1, hD1⟩ := hB
      rw [ht] at hP1
      have hP : va_P (dC, dI) vwCl (oW cq S_14) H := hP1
      have hD : va_D A (oW cq S_14) := hD1.weaken (fun _ _ _ h => hFc _ h)
      clear hP1 hK1 hD1 hk1 hz1 hvm ht hFc
      obtain ⟨hIS_14, XS_14, hb_15, hx_16⟩ := w_12
      have X_17 : oX [202, 2107] Z S_14 := oX.st oX.rf XS_14 (by decide)
      have g_18 : (oI S_14 o 0).toInt = (oI Z o 0).toInt := by rw [oX.i XS_14 to (by decide)]
      have pk_19 : oP S_14 o 8 = some lw := by rw [oX.p XS_14 to (by decide)]; exact hlw0
      have rf_20 : r_13.toInt = -1 := by rw [hx_16.1]; decide
      exact W.iret (v := r_13) hx hb hr (fun t ht hW => ⟨⟨r_13, S_14, rfl, ⟨hIS_14, X_17, ⟨by have kc0 : (0 : Int32).toInt = 0 := (by decide); have kc1 : (1 : Int32).toInt = 1 := (by decide); have kc2 : (2 : Int32).toInt = 2 := (by decide); (first | exact Or.inl ⟨by omega, by omega⟩ | (unfold aRe; omega)), (Or.inl ⟨by omega, by rw [hx_16.1]; exact hx_16.2⟩)⟩⟩, ⟨by rw [ht]; exact hP, va_K.moved hW.alike hK, hD⟩⟩, hS.F ht⟩) hS.2.2 dX10_read_19
    · refine W.eq (g2 := F0 m 9 ls [.ref b_11]) rfl ?_
      have tb_11 : oty Z b_11 2 := hk_9 b_11 rfl
      exact absurd (fiR_0 hx_10) (fun q => q)
  · refine W.eq (g2 := F0 m 5 ls [.ref b_6]) rfl ?_
    have tb_6 : oty Z b_6 1 := hk_4 b_6 rfl
    obtain ⟨hjb_6, ejb_6⟩ := atF_s hx_5
    have ljb_6 := ni_lt hjb_6.1 hjb_6.2
    have njb_6 := tn_i hjb_6.1
    have fAb_6 := RC.a hR ljb_6
    rw [← ejb_6] at fAb_6
    obtain ⟨⟨fm1b_6, fm2b_6, fm3b_6⟩, ⟨fv1b_6, fv2b_6, fv3b_6⟩, fsib_6, fppb_6, fwgb_6, frkb_6, fofb_6, fdeb_6, fchb_6⟩ := fAb_6
    have fBb_6 : 0 ≤ (fa 25 x1.toNatClampNeg).toInt ∧ (fa 25 x1.toNatClampNeg).toInt ≤ 3000 := RC.A hR 25 _
    have lamb_6 : (fa 20 x1.toNatClampNeg).toNatClampNeg < (v 39).toNatClampNeg := ni_lt fm1b_6 fm2b_6
    have namb_6 : (((fa 20 x1.toNatClampNeg).toNatClampNeg : Nat) : Int) = (fa 20 x1.toNatClampNeg).toInt := tn_i fm1b_6
    obtain ⟨amb_6, eamb_6⟩ : ∃ z, z = mnA Z o (fa 20 x1.toNatClampNeg).toNatClampNeg := ⟨_, rfl⟩
    rw [← eamb_6] at fm3b_6
    have tamb_6 : oty Z amb_6 6 := by rw [eamb_6]; exact (RC.tm hR gI to lamb_6).2
    have fMamb_6 := RC.m hR lamb_6
    rw [← eamb_6] at fMamb_6
    obtain ⟨fz0amb_6, fz1amb_6, fz2amb_6, fz3amb_6⟩ := fMamb_6
    rw [namb_6] at fz0amb_6
    have lavb_6 : (fa 21 x1.toNatClampNeg).toNatClampNeg < (v 40).toNatClampNeg := ni_lt fv1b_6 fv2b_6
    have navb_6 : (((fa 21 x1.toNatClampNeg).toNatClampNeg : Nat) : Int) = (fa 21 x1.toNatClampNeg).toInt := tn_i fv1b_6
    obtain ⟨avb_6, eavb_6⟩ : ∃ z, z = voA Z o (fa 21 x1.toNatClampNeg).toNatClampNeg := ⟨_, rfl⟩
    rw [← eavb_6] at fv3b_6
    have tavb_6 : oty Z avb_6 9 := by rw [eavb_6]; exact (RC.tv hR gI to lavb_6).2
    have fVavb_6 := RC.vo hR lavb_6
    rw [← eavb_6] at fVavb_6
    obtain ⟨fy0avb_6, fy1avb_6, fy2avb_6, fy3avb_6, fy4avb_6, fySavb_6, fyLavb_6, fyhavb_6⟩ := fVavb_6
    have fBavb_6 : 0 ≤ (fa 7 ((fa 21 x1.toNatClampNeg).toNatClampNeg)).toInt ∧ (fa 7 ((fa 21 x1.toNatClampNeg).toNatClampNeg)).toInt ≤ 3000 := RC.A hR 7 _
    have fSavb_6 := onc_i fySavb_6
    have fLavb_6 := onc_i fyLavb_6
    rw [navb_6] at fy0avb_6 fSavb_6 fLavb_6
    have fEb_6 := hE.1 x1.toNatClampNeg ljb_6
    rw [← ejb_6] at fEb_6
    obtain ⟨⟨fn1b_6, fn2b_6, fn3b_6⟩, fgb_6, ⟨fl1b_6, fl2b_6, fl3b_6⟩, ⟨ff1b_6, ff2b_6⟩, ⟨fs1b_6, fs2b_6, fs3b_6, fs4b_6, fs5b_6⟩⟩ := fEb_6
    unfold rXg at fgb_6
    have fX_21 : 0 ≤ (fa 30 x1.toNatClampNeg).toInt ∧ (fa 30 x1.toNatClampNeg).toInt ≤ 6 := RC.A hR 30 _
    have fX_22 : 0 ≤ (fa 31 x1.toNatClampNeg).toInt ∧ (fa 31 x1.toNatClampNeg).toInt ≤ 20 := RC.A hR 31 _
    refine lv_iload_n hx hb dX10_read_5 rfl (lv_at hl 2 rfl) ?_
    have hFc : ∀ q, va_A [] H.size q → A q := pu_free hS hA
    refine va_callq (va_runS (As := [.ref b_6, .int x2]) (rest := []) ⟨hx, hb, hml, hown, hts⟩ (c_X10_fineAt_c l dC dI H.size cq Z gI (some b_6) (fun b h => by cases h; exact tb_6) x2) (va_cwS 2 hts gX10_read_X10_fineAt rfl rfl rfl (by decide +kernel) ⟨(Nat.le_of_ble_eq_true rfl), (Nat.le_of_ble_eq_true rfl)⟩) (pr_S hP hK hD) rfl rfl hl.1 rfl (lv_room (Nat.le_of_ble_eq_true rfl)) dX10_read_6 ⟨(Nat.le_of_ble_eq_true rfl), (Nat.le_of_ble_eq_true rfl)⟩) hS (fun q _ h => hFc q h) hFc (fun r_24 u t H locs ht hvm w_23 hB hz1 hk1 hS => ?_)
    have hP := pu_keep hP hk1
    clear hk1 hz1 hvm hB ht hFc
    obtain ⟨hk_25, hx_26⟩ := w_23
    rcases r_24 with _ | b_27
    · refine W.eq (g2 := F0 m 9 ls [.null]) rfl ?_
      have hfr_24 := fiR_n hx_26
      refine lv_astore_nN (lv' := [(3, .null), (0, .ref o), (1, .int x1), (2, .int x2)]) hx hb dX10_read_9 rfl hl (by decide) rfl (fun ls hl => ?_)
      refine lv_aload_nN hx hb dX10_read_10 rfl (lv_at hl 0 rfl) ?_
      refine lv_ifnonnullN hx hb dX10_read_11 ?_
      refine lv_aload_n hx hb dX10_read_14 rfl (lv_at hl 1 rfl) ?_
      refine lv_iconst (v := (-1)) hx hb dX10_read_15 (by decide) ?_
      have hFc := o_free hD hS hA
      refine va_calli (va_runV (As := [.int (-1)]) (rest := []) ⟨hx, hb, hml, hown, hts⟩ (c_X10_refuse_c l dC dI H.size cq Z gI o to (-1) (by decide)) (cwV 1 hts gX10_read_X10_refuse rfl rfl rfl (by decide +kernel) ⟨(Nat.le_of_ble_eq_true rfl), (Nat.le_of_ble_eq_true rfl)⟩) (pr_V (r := (RX10, TX10, 16)) hP hK hD q_1 10 rfl hq_1) rfl rfl hl.1 rfl (lv_room (Nat.le_of_ble_eq_true rfl)) dX10_read_16 ⟨(Nat.le_of_ble_eq_true rfl), (Nat.le_of_ble_eq_true rfl)⟩) hS (fun q _ h => hFc q h) hFc (fun r_29 u t H locs ht hvm w_28 hB hz1 hk1 hS => ?_)
      obtain ⟨S_30, rfl⟩ : ∃ z, z = u := ⟨_, rfl⟩
      obtain ⟨hP1, hK1, hD1⟩ := hB
      rw [ht] at hP1
      have hP : va_P (dC, dI) vwCl (oW cq S_30) H := hP1
      have hD : va_D A (oW cq S_30) := hD1.weaken (fun _ _ _ h => hFc _ h)
      clear hP1 hK1 hD1 hk1 hz1 hvm ht hFc
      obtain ⟨hIS_30, XS_30, hb_31, hx_32⟩ := w_28
      have X_33 : oX [202, 2107] Z S_30 := oX.st oX.rf XS_30 (by decide)
      have g_34 : (oI S_30 o 0).toInt = (oI Z o 0).toInt := by rw [oX.i XS_30 to (by decide)]
      have pk_35 : oP S_30 o 8 = some lw := by rw [oX.p XS_30 to (by decide)]; exact hlw0
      have pk_36 : oP S_30 b_6 0 = some amb_6 := by rw [oX.p XS_30 tb_6 (by decide)]; exact fm3b_6
      have pk_37 : oP S_30 b_6 1 = some avb_6 := by rw [oX.p XS_30 tb_6 (by decide)]; exact fv3b_6
      have rf_38 : r_29.toInt = -1 := by rw [hx_32.1]; decide
      exact W.iret (v := r_29) hx hb hr (fun t ht hW => ⟨⟨r_29, S_30, rfl, ⟨hIS_30, X_33, ⟨by try clear fppb_6; try clear fSavb_6; try clear fLavb_6; try clear fy4avb_6; have kc0 : (0 : Int32).toInt = 0 := (by decide); have kc1 : (1 : Int32).toInt = 1 := (by decide); have kc2 : (2 : Int32).toInt = 2 := (by decide); (first | exact Or.inl ⟨by omega, by omega⟩ | (unfold aRe; omega)), (Or.inl ⟨by omega, by rw [hx_32.1]; exact hx_32.2⟩)⟩⟩, ⟨by rw [ht]; exact hP, va_K.moved hW.alike hK, hD⟩⟩, hS.F ht⟩) hS.2.2 dX10_read_19
    · refine W.eq (g2 := F0 m 9 ls [.ref b_27]) rfl ?_
      have tb_27 : oty Z b_27 2 := hk_25 b_27 rfl
      obtain ⟨hfb_27, efb_27⟩ := fiR_s hx_26
      have fFb_27 := ff2b_6 x2.toNatClampNeg (show x2.toInt.toNat < (fa 30 x1.toNatClampNeg).toInt.toNat by omega)
      rw [← efb_27] at fFb_27
      obtain ⟨fd1b_27, fd2b_27, fd3b_27, fd4b_27, fd5b_27, fd6b_27, fd7b_27⟩ := fFb_27
      refine lv_astore_n (lv' := [(3, .ref b_27), (0, .ref o), (1, .int x1), (2, .int x2)]) hx hb dX10_read_9 rfl hl (by decide) rfl (fun ls hl => ?_)
      refine lv_aload_n hx hb dX10_read_10 rfl (lv_at hl 0 rfl) ?_
      refine lv_ifnonnull (tgt := 20) hx hb dX10_read_11 (by decide) ?_
      refine lv_aload_n hx hb dX10_read_20 rfl (lv_at hl 0 rfl) ?_
      obtain ⟨q_39, hq_39⟩ := og (cq := cq) tb_27.1 (oE_2 tb_27.2)
      refine va_get (D := (dC, dI)) (ci := 2) (v := .int (oI Z b_27 2)) (C := RX2) (T := TX2) (N := 3) hx hb hts in_wsX10_read_X2 hown hK hP q_39 hq_39 rfl 2 (by decide) (hts (.fieldLink RX10 274 "ShipOffice$Fine" "isRead" "Z") iw_X10_read_1) (fun _ h9 => h9) rfl dX10_read_21 ?_
      refine lv_topi (fun x_40 ex_40 => ?_)
      have gx_40 : x_40.toInt = (oI Z b_27 2).toInt := iv_to ex_40
      clear ex_40
      refine lv_if_ne (tgt := 38) hx hb dX10_read_24 (by decide) (fun c_41 => ?_) (fun c_41 => ?_)
      · have dc_41 := c_ne (a := x_40.toInt) (b := 0) rfl (by decide) c_41
        refine lv_aload_n hx hb dX10_read_38 rfl (lv_at hl 1 rfl) ?_
        refine lv_bipush (v := (-3)) hx hb dX10_read_39 (by decide) ?_
        have hFc := o_free hD hS hA
        refine va_calli (va_runV (As := [.int (-3)]) (rest := []) ⟨hx, hb, hml, hown, hts⟩ (c_X10_refuse_c l dC dI H.size cq Z gI o to (-3) (by decide)) (cwV 1 hts gX10_read_X10_refuse rfl rfl rfl (by decide +kernel) ⟨(Nat.le_of_ble_eq_true rfl), (Nat.le_of_ble_eq_true rfl)⟩) (pr_V (r := (RX10, TX10, 16)) hP hK hD q_1 10 rfl hq_1) rfl rfl hl.1 rfl (lv_room (Nat.le_of_ble_eq_true rfl)) dX10_read_41 ⟨(Nat.le_of_ble_eq_true rfl), (Nat.le_of_ble_eq_true rfl)⟩) hS (fun q _ h => hFc q h) hFc (fun r_43 u t H locs ht hvm w_42 hB hz1 hk1 hS => ?_)
        obtain ⟨S_44, rfl⟩ : ∃ z, z = u := ⟨_, rfl⟩
        obtain ⟨hP1, hK1, hD1⟩ := hB
        rw [ht] at hP1
        have hP : va_P (dC, dI) vwCl (oW cq S_44) H := hP1
        have hD : va_D A (oW cq S_44) := hD1.weaken (fun _ _ _ h => hFc _ h)
        clear hP1 hK1 hD1 hk1 hz1 hvm ht hFc
        obtain ⟨hIS_44, XS_44, hb_45, hx_46⟩ := w_42
        have X_47 : oX [202, 2107] Z S_44 := oX.st oX.rf XS_44 (by decide)
        have g_48 : (oI S_44 b_27 2).toInt = (oI Z b_27 2).toInt := by rw [oX.i XS_44 tb_27 (by decide)]
        have g_49 : (oI S_44 o 0).toInt = (oI Z o 0).toInt := by rw [oX.i XS_44 to (by decide)]
        have pk_50 : oP S_44 o 8 = some lw := by rw [oX.p XS_44 to (by decide)]; exact hlw0
        have pk_51 : oP S_44 b_6 0 = some amb_6 := by rw [oX.p XS_44 tb_6 (by decide)]; exact fm3b_6
        have pk_52 : oP S_44 b_6 1 = some avb_6 := by rw [oX.p XS_44 tb_6 (by decide)]; exact fv3b_6
        have rf_53 : r_43.toInt = -3 := by rw [hx_46.1]; decide
        exact W.iret (v := r_43) hx hb hr (fun t ht hW => ⟨⟨r_43, S_44, rfl, ⟨hIS_44, X_47, ⟨by try clear fppb_6; try clear fSavb_6; try clear fLavb_6; try clear fy4avb_6; have kc0 : (0 : Int32).toInt = 0 := (by decide); have kc1 : (1 : Int32).toInt = 1 := (by decide); have kc2 : (2 : Int32).toInt = 2 := (by decide); (first | exact Or.inr (Or.inl ⟨by omega, by omega, by omega⟩) | (unfold aRe; omega)), (Or.inl ⟨by omega, by rw [hx_46.1]; exact hx_46.2⟩)⟩⟩, ⟨by rw [ht]; exact hP, va_K.moved hW.alike hK, hD⟩⟩, hS.F ht⟩) hS.2.2 dX10_read_44
      · have dc_41 := c_eq (a := x_40.toInt) (b := 0) rfl (by decide) c_41
        refine lv_aload_n hx hb dX10_read_27 rfl (lv_at hl 0 rfl) ?_
        refine va_get (D := (dC, dI)) (ci := 2) (v := .int (oI Z b_27 0)) (C := RX2) (T := TX2) (N := 3) hx hb hts in_wsX10_read_X2 hown hK hP q_39 hq_39 rfl 0 (by decide) (hts (.fieldLink RX10 277 "ShipOffice$Fine" "day" "I") iw_X10_read_2) (fun _ h9 => h9) rfl dX10_read_28 ?_
        refine lv_topi (fun x_54 ex_54 => ?_)
        have gx_54 : x_54.toInt = (oI Z b_27 0).toInt := iv_to ex_54
        clear ex_54
        refine lv_aload_n hx hb dX10_read_31 rfl (lv_at hl 1 rfl) ?_
        refine va_get (D := (dC, dI)) (ci := 10) (v := .int (oI Z o 0)) (C := RX10) (T := TX10) (N := 16) hx hb hts in_wsX10_read_X10 hown hK hP q_1 hq_1 rfl 0 (by decide) (hts (.fieldLink RX10 73 "ShipOffice" "now" "I") iw_X10_read_3) (fun _ h9 => h9) rfl dX10_read_32 ?_
        refine lv_topi (fun x_55 ex_55 => ?_)
        have hx_55 : 0 ≤ x_55.toInt ∧ x_55.toInt ≤ 3000 := iv_of ex_55 (oInv.iv gI to.2 rfl rfl)
        have gx_55 : x_55.toInt = (oI Z o 0).toInt := iv_to ex_55
        clear ex_55
        refine lv_icmp_eq (tgt := 45) hx hb dX10_read_35 (by decide) (fun c_56 => ?_) (fun c_56 => ?_)
        · have dc_56 := c_eq (a := x_54.toInt) (b := x_55.toInt) rfl rfl c_56
          refine lv_aload_n hx hb dX10_read_45 rfl (lv_at hl 0 rfl) ?_
          refine lv_iconst (v := 1) hx hb dX10_read_46 (by decide) ?_
          refine va_put (D := (dC, dI)) (ci := 2) (v := .int 1) (ty := .boolean) (C := RX2) (T := TX2) (N := 3) hx hb hts in_wsX10_read_X2 tyX2 tyX2_ok nmX2 hown hK hP hD hS q_39 hq_39 rfl 2 (by decide) (hts (.fieldLink RX10 274 "ShipOffice$Fine" "isRead" "Z") iw_X10_read_1) (fun _ h9 => h9) rfl (by decide +kernel) rfl rfl (Nat.le_of_ble_eq_true rfl) dX10_read_47 (fun H locs hP1 hD1 hS => ?_)
          obtain ⟨S_57, eS_57⟩ : ∃ zq, zq = setI Z b_27 2 1 := ⟨_, rfl⟩
          have hP : va_P (dC, dI) vwCl (oW cq S_57) H := by rw [eS_57]; exact cP (oset tb_27.1 hq_39 hD rfl (he_2_2 tb_27.2) neI) hP1
          have hD : va_D A (oW cq S_57) := by rw [eS_57]; exact cD (oset tb_27.1 hq_39 hD rfl (he_2_2 tb_27.2) neI) hD1
          clear hP1 hD1
          have hIS_57 : oInv S_57 := by rw [eS_57]; exact oInv.I0 (k := 2) (lo := -2147483648) (hi := 2147483647) gI tb_27.2 (by decide) rfl rfl rfl (iv_all _)
          have XS_57 : oX [202] Z S_57 := by rw [eS_57]; exact oX.I (k := 2) (key := 202) tb_27.2 rfl (List.mem_singleton.mpr rfl)
          have pk_58 : oP S_57 o 8 = some lw := by rw [eS_57]; exact hlw0
          have pk_59 : oP S_57 b_6 0 = some amb_6 := by rw [eS_57]; exact fm3b_6
          have pk_60 : oP S_57 b_6 1 = some avb_6 := by rw [eS_57]; exact fv3b_6
          have X_61 : oX [202, 2107] Z S_57 := oX.st oX.rf XS_57 (by decide)
          have g_62 : (oI S_57 b_27 0).toInt = (oI Z b_27 0).toInt := by rw [eS_57, setI_ne (by decide)]
          have g_63 : (oI S_57 b_27 2).toInt = 1 := by rw [eS_57, setI_same]; decide
          have g_64 : (oI S_57 o 0).toInt = (oI Z o 0).toInt := by rw [eS_57, setI_oth (ty_ne to tb_27 (by decide))]
          refine lv_iconst (v := 1) hx hb dX10_read_50 (by decide) ?_
          exact W.iret (v := 1) hx hb hr (fun t ht hW => ⟨⟨1, S_57, rfl, ⟨hIS_57, X_61, ⟨by have rc : (1 : Int32).toInt = 1 := (by decide); try clear fppb_6; try clear fSavb_6; try clear fLavb_6; try clear fy4avb_6; have kc0 : (0 : Int32).toInt = 0 := (by decide); have kc1 : (1 : Int32).toInt = 1 := (by decide); have kc2 : (2 : Int32).toInt = 2 := (by decide); (first | exact Or.inr (Or.inr (⟨by omega, by omega, by omega, by omega⟩)) | (unfold aRe; omega)), Or.inr ⟨by have rc : (1 : Int32).toInt = 1 := (by decide); try clear fppb_6; try clear fSavb_6; try clear fLavb_6; try clear fy4avb_6; have kc0 : (0 : Int32).toInt = 0 := (by decide); have kc1 : (1 : Int32).toInt = 1 := (by decide); have kc2 : (2 : Int32).toInt = 2 := (by decide); omega, (by rw [← ejb_6, ← efb_27, eS_57])⟩⟩⟩, ⟨by rw [ht]; exact hP, va_K.moved hW.alike hK, hD⟩⟩, hS.F ht⟩) hS.2.2 dX10_read_51
        · have dc_56 := c_ne (a := x_54.toInt) (b := x_55.toInt) rfl rfl c_56
          refine lv_aload_n hx hb dX10_read_38 rfl (lv_at hl 1 rfl) ?_
          refine lv_bipush (v := (-3)) hx hb dX10_read_39 (by decide) ?_
          have hFc := o_free hD hS hA
          refine va_calli (va_runV (As := [.int (-3)]) (rest := []) ⟨hx, hb, hml, hown, hts⟩ (c_X10_refuse_c l dC dI H.size cq Z gI o to (-3) (by decide)) (cwV 1 hts gX10_read_X10_refuse rfl rfl rfl (by decide +kernel) ⟨(Nat.le_of_ble_eq_true rfl), (Nat.le_of_ble_eq_true rfl)⟩) (pr_V (r := (RX10, TX10, 16)) hP hK hD q_1 10 rfl hq_1) rfl rfl hl.1 rfl (lv_room (Nat.le_of_ble_eq_true rfl)) dX10_read_41 ⟨(Nat.le_of_ble_eq_true rfl), (Nat.le_of_ble_eq_true rfl)⟩) hS (fun q _ h => hFc q h) hFc (fun r_66 u t H locs ht hvm w_65 hB hz1 hk1 hS => ?_)
          obtain ⟨S_67, rfl⟩ : ∃ z, z = u := ⟨_, rfl⟩
          obtain ⟨hP1, hK1, hD1⟩ := hB
          rw [ht] at hP1
          have hP : va_P (dC, dI) vwCl (oW cq S_67) H := hP1
          have hD : va_D A (oW cq S_67) := hD1.weaken (fun _ _ _ h => hFc _ h)
          clear hP1 hK1 hD1 hk1 hz1 hvm ht hFc
          obtain ⟨hIS_67, XS_67, hb_68, hx_69⟩ := w_65
          have X_70 : oX [202, 2107] Z S_67 := oX.st oX.rf XS_67 (by decide)
          have g_71 : (oI S_67 b_27 0).toInt = (oI Z b_27 0).toInt := by rw [oX.i XS_67 tb_27 (by decide)]
          have g_72 : (oI S_67 b_27 2).toInt = (oI Z b_27 2).toInt := by rw [oX.i XS_67 tb_27 (by decide)]
          have g_73 : (oI S_67 o 0).toInt = (oI Z o 0).toInt := by rw [oX.i XS_67 to (by decide)]
          have pk_74 : oP S_67 o 8 = some lw := by rw [oX.p XS_67 to (by decide)]; exact hlw0
          have pk_75 : oP S_67 b_6 0 = some amb_6 := by rw [oX.p XS_67 tb_6 (by decide)]; exact fm3b_6
          have pk_76 : oP S_67 b_6 1 = some avb_6 := by rw [oX.p XS_67 tb_6 (by decide)]; exact fv3b_6
          have rf_77 : r_66.toInt = -3 := by rw [hx_69.1]; decide
          exact W.iret (v := r_66) hx hb hr (fun t ht hW => ⟨⟨r_66, S_67, rfl, ⟨hIS_67, X_70, ⟨by try clear fppb_6; try clear fSavb_6; try clear fLavb_6; try clear fy4avb_6; have kc0 : (0 : Int32).toInt = 0 := (by decide); have kc1 : (1 : Int32).toInt = 1 := (by decide); have kc2 : (2 : Int32).toInt = 2 := (by decide); (first | exact Or.inr (Or.inl ⟨by omega, by omega, by omega⟩) | (unfold aRe; omega)), (Or.inl ⟨by omega, by rw [hx_69.1]; exact hx_69.2⟩)⟩⟩, ⟨by rw [ht]; exact hP, va_K.moved hW.alike hK, hD⟩⟩, hS.F ht⟩) hS.2.2 dX10_read_44
