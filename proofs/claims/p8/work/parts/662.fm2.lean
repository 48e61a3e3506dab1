

/-- the man is there, the rank and the wage are in their bounds; what a refused ask answers -/
def gaok (men m k x : Int) : Prop := 0 ≤ m ∧ m < men ∧ 0 ≤ k ∧ k ≤ 3 ∧ 0 ≤ x ∧ x ≤ 9999
def gao (men m k x r : Int) : Prop := (¬ (0 ≤ m ∧ m < men) ∧ r = -1) ∨ ((0 ≤ m ∧ m < men) ∧ (k < 0 ∨ x < 0) ∧ r = -4) ∨ ((0 ≤ m ∧ m < men) ∧ ¬ (k < 0 ∨ x < 0) ∧ (3 < k ∨ 9999 < x) ∧ r = -6)
/-- of the office: the man's own row of wages -/
def gas (Z u : oS) (row : Nat) (men : Int) (m k x r : Int32) : Prop := (gao men m.toInt k.toInt x.toInt r.toInt ∧ ∀ a, oty Z a 104 → oI u a = oI Z a) ∨ (gaok men m.toInt k.toInt x.toInt ∧ ∃ man w, oP Z row m.toNatClampNeg = some man ∧ oP Z man 4 = some w ∧ r = oI Z w k.toNatClampNeg ∧ oI u w = upd (oI Z w) k.toNatClampNeg x ∧ ∀ a, oty Z a 104 → a ≠ w → oI u a = oI Z a)
/-- of the reference: one row -/
def gar (men : Int) (f : Nat → Int32) (m k x r : Int32) (f1 : Nat → Int32) : Prop := (gao men m.toInt k.toInt x.toInt r.toInt ∧ f1 = f) ∨ (gaok men m.toInt k.toInt x.toInt ∧ ∃ i : Int32, i.toInt = 4 * m.toInt + k.toInt ∧ r = f i.toNatClampNeg ∧ f1 = upd f i.toNatClampNeg x)
/-- the man of a number -/
def gat (Z : oS) (row : Nat) (men : Int) (m : Int32) (r : Option Nat) : Prop := (r = none ∧ ¬ (0 ≤ m.toInt ∧ m.toInt < men)) ∨ ((0 ≤ m.toInt ∧ m.toInt < men) ∧ ∃ b, r = some b ∧ oP Z row m.toNatClampNeg = some b)
set_option maxHeartbeats 4000000 in
set_option maxRecDepth 100000 in
theorem c_X10_manAt_f (l : Launch) (dC : Nat → ClassId) (dI : Nat → Nat → Nat) (sz : Nat) (cq : Nat → ClassId) (Z : oS) (gI : oInv Z) (o : Nat) (to : oty Z o 10) (x1 : Int32) : Met l yX10_manAt wsX10_manAt ({ frames := 0, cells := 0, slots := 0, locals := 0 }) (va_Pc [.ref o, .int x1] (pcW (dC, dI) (oT cq) (oW cq Z) sz)) (va_Qq (fun (r : Option Nat) (u : Unit) => (∀ b, r = some b → oty Z b 6) ∧ (∀ row, oP Z o 1 = some row → gat Z row (oI Z o 2).toInt x1 r)) (fun _ _ => True) (va_A [] sz)) 0 0 (va_A [] sz) := by
  refine Met.ofW (cc := cX10_manAt) (maxL := 2) (ret := (some (.object "ShipOffice$Man"))) (by decide +kernel) rfl ?_
  intro p e s m args below meth c s₁ B hml hv
  obtain ⟨rfl, hsz, hP, hK, hD0⟩ := hv
  have hx := B.exec
  have hb := B.bytes
  have hr := B.returns
  have hts := atoms_spec (ws := wsX10_manAt) B.pre
  have hown : s.vm.findClass RX10 = some m.cls := findClass_of_methodNamed B.named
  have hlocks := B.notSynchronized
  subst hsz
  have hD := hD0
  generalize hAe : va_A [] s.heap.size = A at ⊢
  have hA : ∀ q : Nat, s.heap.size ≤ q → A q := fun q h => by rw [← hAe]; exact Or.inr h
  have hS : va_S A s.heap s.heap [] := va_S.rf
  have hP : va_P (dC, dI) vwCl (oW cq Z) s.heap := hP
  have hl := lv_entry ([.ref o, .int x1]) (n := 2) (Nat.le_of_ble_eq_true rfl)
  rw [lg_entry_eq]
  generalize (lg_sl ([.ref o, .int x1]) ++ List.replicate (2 - (lg_sl ([.ref o, .int x1])).length) Slot.unset).toArray = ls at hl ⊢
  have hl : lv_has ls 2 [(0, .ref o), (1, .int x1)] := hl
  refine lv_iload_n hx hb dX10_manAt_0 rfl (lv_at hl 1 rfl) ?_
  refine lv_if_lt (tgt := 12) hx hb dX10_manAt_1 (by decide +kernel) (fun c_1 => ?_) (fun c_1 => ?_)
  · have dc_1 := c_lt (a := x1.toInt) (b := 0) rfl (by decide +kernel) c_1
    refine lv_null hx hb dX10_manAt_12 ?_
    refine lv_goto (tgt := 22) hx hb dX10_manAt_13 (by decide +kernel) ?_
    exact W.aret (v := .null) hx hb hr (Or.inl ⟨_, rfl⟩) (Or.inl rfl) (fun t ht hW => ⟨⟨none, (), rfl, ⟨(fun b h => by cases h), (fun row hq => Or.inl ⟨rfl, by omega⟩)⟩, trivial⟩, hS.F ht⟩) hS.2.2 dX10_manAt_22
  · have dc_1 := c_nlt (a := x1.toInt) (b := 0) rfl (by decide +kernel) c_1
    refine lv_iload_n hx hb dX10_manAt_4 rfl (lv_at hl 1 rfl) ?_
    refine lv_aload_n hx hb dX10_manAt_5 rfl (lv_at hl 0 rfl) ?_
    obtain ⟨q_2, hq_2⟩ := og (cq := cq) to.1 (oE_10 to.2)
    refine va_get (D := (dC, dI)) (ci := 10) (v := .int (oI Z o 2)) (C := RX10) (T := TX10) (N := 16) hx hb hts in_wsX10_manAt_X10 hown hK hP q_2 hq_2 rfl 2 (by decide +kernel) (hts (.fieldLink RX10 86 "ShipOffice" "manCount" "I") iw_X10_manAt_1) (fun _ h9 => h9) rfl dX10_manAt_6 ?_
    refine lv_topi (fun x_3 ex_3 => ?_)
    have hx_3 : 0 ≤ x_3.toInt ∧ x_3.toInt ≤ 40 := iv_of ex_3 (oInv.iv gI to.2 rfl rfl)
    have gx_3 : x_3.toInt = (oI Z o 2).toInt := iv_to ex_3
    clear ex_3
    refine lv_icmp_lt (tgt := 16) hx hb dX10_manAt_9 (by decide +kernel) (fun c_4 => ?_) (fun c_4 => ?_)
    · have dc_4 := c_lt (a := x1.toInt) (b := x_3.toInt) rfl rfl c_4
      refine lv_aload_n hx hb dX10_manAt_16 rfl (lv_at hl 0 rfl) ?_
      obtain ⟨b_5, hb_5⟩ := oInv.nn (i := 1) gI to rfl
      refine va_get (D := (dC, dI)) (ci := 10) (v := .ref b_5) (C := RX10) (T := TX10) (N := 16) hx hb hts in_wsX10_manAt_X10 hown hK hP q_2 hq_2 rfl 1 (by decide +kernel) (hts (.fieldLink RX10 11 "ShipOffice" "men" "[LShipOffice$Man;") iw_X10_manAt_2) (fun _ h9 => h9) (o_rd hb_5) dX10_manAt_17 ?_
      have tb_5 : oty Z b_5 14 := oInv.rd gI to.2 hb_5 rfl rfl
      refine lv_iload_n hx hb dX10_manAt_20 rfl (lv_at hl 1 rfl) ?_
      obtain ⟨q_6, hq_6⟩ := og (cq := cq) tb_5.1 (oE_14 tb_5.2)
      refine va_aldq hx hb hK hP q_6 3 hq_6 rfl (vp_in_iff.mpr (by omega)) dX10_manAt_21 ?_
      obtain ⟨b_7, hb_7⟩ := oInv.el (i := 2) (x := x1) gI to rfl hb_5 (by omega) (by omega)
      refine W.eq (g2 := F0 m 22 ls [.ref b_7]) (congrArg (fun z => F0 m 22 ls [va_rf z]) hb_7) ?_
      have tb_7 : oty Z b_7 6 := oInv.rd gI tb_5.2 hb_7 rfl rfl
      exact W.aret (v := .ref b_7) hx hb hr (Or.inl ⟨_, rfl⟩) (Or.inr ⟨_, rfl⟩) (fun t ht hW => ⟨⟨(some b_7), (), rfl, ⟨(fun b h => by cases h; exact tb_7), (fun row hq => by obtain rfl : row = b_5 := Option.some.inj (hq.symm.trans hb_5); exact Or.inr ⟨by omega, b_7, rfl, hb_7⟩)⟩, trivial⟩, hS.F ht⟩) hS.2.2 dX10_manAt_22
    · have dc_4 := c_nlt (a := x1.toInt) (b := x_3.toInt) rfl rfl c_4
      refine lv_null hx hb dX10_manAt_12 ?_
      refine lv_goto (tgt := 22) hx hb dX10_manAt_13 (by decide +kernel) ?_
      exact W.aret (v := .null) hx hb hr (Or.inl ⟨_, rfl⟩) (Or.inl rfl) (fun t ht hW => ⟨⟨none, (), rfl, ⟨(fun b h => by cases h), (fun row hq => Or.inl ⟨rfl, by omega⟩)⟩, trivial⟩, hS.F ht⟩) hS.2.2 dX10_manAt_22
set_option maxHeartbeats 4000000 in
set_option maxRecDepth 100000 in
theorem c_X10_ask_f (l : Launch) (dC : Nat → ClassId) (dI : Nat → Nat → Nat) (sz : Nat) (cq : Nat → ClassId) (Z : oS) (gI : oInv Z) (o : Nat) (to : oty Z o 10) (x1 : Int32) (x2 : Int32) (x3 : Int32) : Met l yX10_ask wsX10_ask ({ frames := 1, cells := 0, slots := 0, locals := 21 }) (va_Pc [.ref o, .int x1, .int x2, .int x3] (pcW (dC, dI) (oT cq) (oW cq Z) sz)) (va_Qi (fun (r : Int32) (u : oS) => oInv u ∧ oX [2104, 2107] Z u ∧ (∀ row, oP Z o 1 = some row → gas Z u row (oI Z o 2).toInt x1 x2 x3 r)) (fun u t => va_P (dC, dI) vwCl (oW cq u) t.heap ∧ va_K (dC, dI) vwCl (oT cq) t ∧ va_D (va_A (oW cq Z) sz) (oW cq u)) (va_A (oW cq Z) sz)) 0 0 (va_A (oW cq Z) sz) := by
  refine Met.ofW (cc := cX10_ask) (maxL := 6) (ret := (some .int)) (by decide +kernel) rfl ?_
  intro p e s m args below meth c s₁ B hml hv
  obtain ⟨rfl, hsz, hP, hK, hD0⟩ := hv
  have hx := B.exec
  have hb := B.bytes
  have hr := B.returns
  have hts := atoms_spec (ws := wsX10_ask) B.pre
  have hown : s.vm.findClass RX10 = some m.cls := findClass_of_methodNamed B.named
  have hlocks := B.notSynchronized
  subst hsz
  have hD := hD0.self (sz := s.heap.size)
  generalize hAe : va_A (oW cq Z) s.heap.size = A at hD ⊢
  have hA : ∀ q : Nat, s.heap.size ≤ q → A q := fun q h => by rw [← hAe]; exact Or.inr h
  have hS : va_S A s.heap s.heap [] := va_S.rf
  have hP : va_P (dC, dI) vwCl (oW cq Z) s.heap := hP
  have hl := lv_entry ([.ref o, .int x1, .int x2, .int x3]) (n := 6) (Nat.le_of_ble_eq_true rfl)
  rw [lg_entry_eq]
  generalize (lg_sl ([.ref o, .int x1, .int x2, .int x3]) ++ List.replicate (6 - (lg_sl ([.ref o, .int x1, .int x2, .int x3])).length) Slot.unset).toArray = ls at hl ⊢
  have hl : lv_has ls 6 [(0, .ref o), (1, .int x1), (2, .int x2), (3, .int x3)] := hl
  refine lv_aload_n hx hb dX10_ask_0 rfl (lv_at hl 0 rfl) ?_
  refine lv_iload_n hx hb dX10_ask_1 rfl (lv_at hl 1 rfl) ?_
  have hFc : ∀ q, va_A [] s.heap.size q → A q := pu_free hS hA
  obtain ⟨q_1, hq_1⟩ := og (cq := cq) to.1 (oE_10 to.2)
  refine va_callq (va_runV (As := [.int x1]) (rest := []) ⟨hx, hb, hml, hown, hts⟩ (c_X10_manAt_f l dC dI s.heap.size cq Z gI o to x1) (cwV 1 hts gX10_ask_X10_manAt rfl rfl rfl (by decide +kernel) ⟨(Nat.le_of_ble_eq_true rfl), (Nat.le_of_ble_eq_true rfl)⟩) (pr_V (r := (RX10, TX10, 16)) hP hK hD q_1 10 rfl hq_1) rfl rfl hl.1 rfl (lv_room (Nat.le_of_ble_eq_true rfl)) dX10_ask_2 ⟨(Nat.le_of_ble_eq_true rfl), (Nat.le_of_ble_eq_true rfl)⟩) hS (fun q _ h => hFc q h) hFc (fun r_3 u t H locs ht hvm w_2 hB hz1 hk1 hS => ?_)
  have hP := pu_keep hP hk1
  clear hk1 hz1 hvm hB ht hFc
  obtain ⟨hk_4, hx_5⟩ := w_2
  rcases r_3 with _ | b_6
  · refine W.eq (g2 := F0 m 5 ls [.null]) rfl ?_
    refine lv_astoreN (lv' := [(4, .null), (0, .ref o), (1, .int x1), (2, .int x2), (3, .int x3)]) hx hb dX10_ask_5 hl (by decide +kernel) rfl (fun ls hl => ?_)
    refine lv_aloadN hx hb dX10_ask_7 (lv_at hl 0 rfl) ?_
    refine lv_ifnonnullN hx hb dX10_ask_9 ?_
    refine lv_aload_n hx hb dX10_ask_12 rfl (lv_at hl 1 rfl) ?_
    refine lv_iconst (v := (-1)) hx hb dX10_ask_13 (by decide +kernel) ?_
    have hFc := o_free hD hS hA
    refine va_calli (va_runV (As := [.int (-1)]) (rest := []) ⟨hx, hb, hml, hown, hts⟩ (c_X10_refuse l dC dI H.size cq Z gI o to (-1) (by decide +kernel)) (cwV 1 hts gX10_ask_X10_refuse rfl rfl rfl (by decide +kernel) ⟨(Nat.le_of_ble_eq_true rfl), (Nat.le_of_ble_eq_true rfl)⟩) (pr_V (r := (RX10, TX10, 16)) hP hK hD q_1 10 rfl hq_1) rfl rfl hl.1 rfl (lv_room (Nat.le_of_ble_eq_true rfl)) dX10_ask_14 ⟨(Nat.le_of_ble_eq_true rfl), (Nat.le_of_ble_eq_true rfl)⟩) hS (fun q _ h => hFc q h) hFc (fun r_8 u t H locs ht hvm w_7 hB hz1 hk1 hS => ?_)
    obtain ⟨S_9, rfl⟩ : ∃ z, z = u := ⟨_, rfl⟩
    obtain ⟨hP1, hK1, hD1⟩ := hB
    rw [ht] at hP1
    have hP : va_P (dC, dI) vwCl (oW cq S_9) H := hP1
    have hD : va_D A (oW cq S_9) := hD1.weaken (fun _ _ _ h => hFc _ h)
    clear hP1 hK1 hD1 hk1 hz1 hvm ht hFc
    obtain ⟨hIS_9, XS_9, hb_10, hx_11⟩ := w_7
    have X_12 : oX [2104, 2107] Z S_9 := oX.st oX.rf XS_9 (by decide +kernel)
    have rf_13 : r_8.toInt = -1 := by rw [hx_11]; decide
    exact W.iret (v := r_8) hx hb hr (fun t ht hW => ⟨⟨r_8, S_9, rfl, ⟨hIS_9, X_12, (fun row hq => match hx_5 row hq with | Or.inl ⟨_, hm⟩ => Or.inl ⟨by unfold gao; omega, fun a t => oX.f XS_9 t (fun _ => nkw (by decide +kernel) (by decide +kernel) (by decide +kernel))⟩ | Or.inr ⟨_, b9, e9, _⟩ => by cases e9)⟩, ⟨by rw [ht]; exact hP, va_K.moved hW.alike hK, hD⟩⟩, hS.F ht⟩) hS.2.2 dX10_ask_17
  · refine W.eq (g2 := F0 m 5 ls [.ref b_6]) rfl ?_
    have tb_6 : oty Z b_6 6 := hk_4 b_6 rfl
    refine lv_astore (lv' := [(4, .ref b_6), (0, .ref o), (1, .int x1), (2, .int x2), (3, .int x3)]) hx hb dX10_ask_5 hl (by decide +kernel) rfl (fun ls hl => ?_)
    refine lv_aload hx hb dX10_ask_7 (lv_at hl 0 rfl) ?_
    refine lv_ifnonnull (tgt := 18) hx hb dX10_ask_9 (by decide +kernel) ?_
    refine lv_iload_n hx hb dX10_ask_18 rfl (lv_at hl 3 rfl) ?_
    refine lv_if_lt (tgt := 26) hx hb dX10_ask_19 (by decide +kernel) (fun c_14 => ?_) (fun c_14 => ?_)
    · have dc_14 := c_lt (a := x2.toInt) (b := 0) rfl (by decide +kernel) c_14
      refine lv_aload_n hx hb dX10_ask_26 rfl (lv_at hl 1 rfl) ?_
      refine lv_bipush (v := (-4)) hx hb dX10_ask_27 (by decide +kernel) ?_
      have hFc := o_free hD hS hA
      refine va_calli (va_runV (As := [.int (-4)]) (rest := []) ⟨hx, hb, hml, hown, hts⟩ (c_X10_refuse l dC dI H.size cq Z gI o to (-4) (by decide +kernel)) (cwV 1 hts gX10_ask_X10_refuse rfl rfl rfl (by decide +kernel) ⟨(Nat.le_of_ble_eq_true rfl), (Nat.le_of_ble_eq_true rfl)⟩) (pr_V (r := (RX10, TX10, 16)) hP hK hD q_1 10 rfl hq_1) rfl rfl hl.1 rfl (lv_room (Nat.le_of_ble_eq_true rfl)) dX10_ask_29 ⟨(Nat.le_of_ble_eq_true rfl), (Nat.le_of_ble_eq_true rfl)⟩) hS (fun q _ h => hFc q h) hFc (fun r_16 u t H locs ht hvm w_15 hB hz1 hk1 hS => ?_)
      obtain ⟨S_17, rfl⟩ : ∃ z, z = u := ⟨_, rfl⟩
      obtain ⟨hP1, hK1, hD1⟩ := hB
      rw [ht] at hP1
      have hP : va_P (dC, dI) vwCl (oW cq S_17) H := hP1
      have hD : va_D A (oW cq S_17) := hD1.weaken (fun _ _ _ h => hFc _ h)
      clear hP1 hK1 hD1 hk1 hz1 hvm ht hFc
      obtain ⟨hIS_17, XS_17, hb_18, hx_19⟩ := w_15
      have X_20 : oX [2104, 2107] Z S_17 := oX.st oX.rf XS_17 (by decide +kernel)
      have rf_21 : r_16.toInt = -4 := by rw [hx_19]; decide
      exact W.iret (v := r_16) hx hb hr (fun t ht hW => ⟨⟨r_16, S_17, rfl, ⟨hIS_17, X_20, (fun row hq => match hx_5 row hq with | Or.inl ⟨e9, _⟩ => by cases e9 | Or.inr ⟨hm, _, _, _⟩ => Or.inl ⟨by unfold gao; omega, fun a t => oX.f XS_17 t (fun _ => nkw (by decide +kernel) (by decide +kernel) (by decide +kernel))⟩)⟩, ⟨by rw [ht]; exact hP, va_K.moved hW.alike hK, hD⟩⟩, hS.F ht⟩) hS.2.2 dX10_ask_32
    · have dc_14 := c_nlt (a := x2.toInt) (b := 0) rfl (by decide +kernel) c_14
      refine lv_iload_n hx hb dX10_ask_22 rfl (lv_at hl 4 rfl) ?_
      refine lv_if_ge (tgt := 33) hx hb dX10_ask_23 (by decide +kernel) (fun c_22 => ?_) (fun c_22 => ?_)
      · have dc_22 := c_le (a := 0) (b := x3.toInt) (by decide +kernel) rfl c_22
        refine lv_iload_n hx hb dX10_ask_33 rfl (lv_at hl 3 rfl) ?_
        refine lv_iconst (v := 4) hx hb dX10_ask_34 (by decide +kernel) ?_
        refine lv_icmp_ge (tgt := 45) hx hb dX10_ask_35 (by decide +kernel) (fun c_23 => ?_) (fun c_23 => ?_)
        · have dc_23 := c_le (a := 4) (b := x2.toInt) (by decide +kernel) rfl c_23
          refine lv_aload_n hx hb dX10_ask_45 rfl (lv_at hl 1 rfl) ?_
          refine lv_bipush (v := (-6)) hx hb dX10_ask_46 (by decide +kernel) ?_
          have hFc := o_free hD hS hA
          refine va_calli (va_runV (As := [.int (-6)]) (rest := []) ⟨hx, hb, hml, hown, hts⟩ (c_X10_refuse l dC dI H.size cq Z gI o to (-6) (by decide +kernel)) (cwV 1 hts gX10_ask_X10_refuse rfl rfl rfl (by decide +kernel) ⟨(Nat.le_of_ble_eq_true rfl), (Nat.le_of_ble_eq_true rfl)⟩) (pr_V (r := (RX10, TX10, 16)) hP hK hD q_1 10 rfl hq_1) rfl rfl hl.1 rfl (lv_room (Nat.le_of_ble_eq_true rfl)) dX10_ask_48 ⟨(Nat.le_of_ble_eq_true rfl), (Nat.le_of_ble_eq_true rfl)⟩) hS (fun q _ h => hFc q h) hFc (fun r_25 u t H locs ht hvm w_24 hB hz1 hk1 hS => ?_)
          obtain ⟨S_26, rfl⟩ : ∃ z, z = u := ⟨_, rfl⟩
          obtain ⟨hP1, hK1, hD1⟩ := hB
          rw [ht] at hP1
          have hP : va_P (dC, dI) vwCl (oW cq S_26) H := hP1
          have hD : va_D A (oW cq S_26) := hD1.weaken (fun _ _ _ h => hFc _ h)
          clear hP1 hK1 hD1 hk1 hz1 hvm ht hFc
          obtain ⟨hIS_26, XS_26, hb_27, hx_28⟩ := w_24
          have X_29 : oX [2104, 2107] Z S_26 := oX.st oX.rf XS_26 (by decide +kernel)
          have rf_30 : r_25.toInt = -6 := by rw [hx_28]; decide
          exact W.iret (v := r_25) hx hb hr (fun t ht hW => ⟨⟨r_25, S_26, rfl, ⟨hIS_26, X_29, (fun row hq => match hx_5 row hq with | Or.inl ⟨e9, _⟩ => by cases e9 | Or.inr ⟨hm, _, _, _⟩ => Or.inl ⟨by unfold gao; omega, fun a t => oX.f XS_26 t (fun _ => nkw (by decide +kernel) (by decide +kernel) (by decide +kernel))⟩)⟩, ⟨by rw [ht]; exact hP, va_K.moved hW.alike hK, hD⟩⟩, hS.F ht⟩) hS.2.2 dX10_ask_51
        · have dc_23 := c_nle (a := 4) (b := x2.toInt) (by decide +kernel) rfl c_23
          refine lv_iload_n hx hb dX10_ask_38 rfl (lv_at hl 4 rfl) ?_
          refine lv_sipush (v := 9999) hx hb dX10_ask_39 (by decide +kernel) ?_
          refine lv_icmp_le (tgt := 52) hx hb dX10_ask_42 (by decide +kernel) (fun c_31 => ?_) (fun c_31 => ?_)
          · have dc_31 := c_le (a := x3.toInt) (b := 9999) rfl (by decide +kernel) c_31
            refine lv_aload hx hb dX10_ask_52 (lv_at hl 0 rfl) ?_
            obtain ⟨q_32, hq_32⟩ := og (cq := cq) tb_6.1 (oE_6 tb_6.2)
            obtain ⟨b_33, hb_33⟩ := oInv.nn (i := 4) gI tb_6 rfl
            refine va_get (D := (dC, dI)) (ci := 6) (v := .ref b_33) (C := RX6) (T := TX6) (N := 6) hx hb hts in_wsX10_ask_X6 hown hK hP q_32 hq_32 rfl 4 (by decide +kernel) (hts (.fieldLink RX10 335 "ShipOffice$Man" "wages" "[I") iw_X10_ask_1) (fun _ h9 => h9) (o_rd hb_33) dX10_ask_54 ?_
            have tb_33 : oty Z b_33 104 := oInv.rd gI tb_6.2 hb_33 rfl rfl
            refine lv_iload_n hx hb dX10_ask_57 rfl (lv_at hl 3 rfl) ?_
            obtain ⟨q_34, hq_34⟩ := og (cq := cq) tb_33.1 (oE_a1 (n := 4) tb_33.2 (by decide +kernel))
            refine va_iald hx hb hK hP q_34 0 hq_34 rfl (vp_in_iff.mpr (by omega)) dX10_ask_58 ?_
            refine lv_topi (fun x_35 ex_35 => ?_)
            refine lv_istore (lv' := [(5, .int x_35), (4, .ref b_6), (0, .ref o), (1, .int x1), (2, .int x2), (3, .int x3)]) hx hb dX10_ask_59 hl (by decide +kernel) rfl (fun ls hl => ?_)
            refine lv_aload hx hb dX10_ask_61 (lv_at hl 1 rfl) ?_
            refine va_get (D := (dC, dI)) (ci := 6) (v := .ref b_33) (C := RX6) (T := TX6) (N := 6) hx hb hts in_wsX10_ask_X6 hown hK hP q_32 hq_32 rfl 4 (by decide +kernel) (hts (.fieldLink RX10 335 "ShipOffice$Man" "wages" "[I") iw_X10_ask_1) (fun _ h9 => h9) (o_rd hb_33) dX10_ask_63 ?_
            refine lv_iload_n hx hb dX10_ask_66 rfl (lv_at hl 4 rfl) ?_
            refine lv_iload_n hx hb dX10_ask_67 rfl (lv_at hl 5 rfl) ?_
            refine va_iast hx hb hK hP hD hS q_34 0 hq_34 rfl (vp_in_iff.mpr (by omega)) dX10_ask_68 (fun H locs hP1 hD1 hS => ?_)
            obtain ⟨S_36, eS_36⟩ : ∃ zq, zq = setI Z b_33 (x2 : Int32).toNatClampNeg x3 := ⟨_, rfl⟩
            have hP : va_P (dC, dI) vwCl (oW cq S_36) H := by rw [eS_36]; exact cP (oset tb_33.1 hq_34 hD rfl (he_a1 (n := 4) tb_33.2 (by decide +kernel)) neI) hP1
            have hD : va_D A (oW cq S_36) := by rw [eS_36]; exact cD (oset tb_33.1 hq_34 hD rfl (he_a1 (n := 4) tb_33.2 (by decide +kernel)) neI) hD1
            clear hP1 hD1
            have hIS_36 : oInv S_36 := by rw [eS_36]; exact oInv.A (k := 104) gI tb_33.2 (by decide +kernel)
            have XS_36 : oX [2104] Z S_36 := by rw [eS_36]; exact oX.I (k := 104) (key := 2104) tb_33.2 rfl (List.mem_singleton.mpr rfl)
            have pk_37 : oP S_36 b_6 4 = some b_33 := by rw [eS_36]; exact hb_33
            have X_38 : oX [2104, 2107] Z S_36 := oX.st oX.rf XS_36 (by decide +kernel)
            refine lv_iload hx hb dX10_ask_69 (lv_at hl 0 rfl) ?_
            exact W.iret (v := x_35) hx hb hr (fun t ht hW => ⟨⟨x_35, S_36, rfl, ⟨hIS_36, X_38, (fun row hq => match hx_5 row hq with | Or.inl ⟨e9, _⟩ => by cases e9 | Or.inr ⟨hm, b9, e9, hb9⟩ => by cases e9; exact Or.inr ⟨by unfold gaok; omega, b_6, b_33, hb9, hb_33, ex_35, by rw [eS_36, setI_fun], fun a t n => by rw [eS_36, setI_oth n]⟩)⟩, ⟨by rw [ht]; exact hP, va_K.moved hW.alike hK, hD⟩⟩, hS.F ht⟩) hS.2.2 dX10_ask_71
          · have dc_31 := c_nle (a := x3.toInt) (b := 9999) rfl (by decide +kernel) c_31
            refine lv_aload_n hx hb dX10_ask_45 rfl (lv_at hl 1 rfl) ?_
            refine lv_bipush (v := (-6)) hx hb dX10_ask_46 (by decide +kernel) ?_
            have hFc := o_free hD hS hA
            refine va_calli (va_runV (As := [.int (-6)]) (rest := []) ⟨hx, hb, hml, hown, hts⟩ (c_X10_refuse l dC dI H.size cq Z gI o to (-6) (by decide +kernel)) (cwV 1 hts gX10_ask_X10_refuse rfl rfl rfl (by decide +kernel) ⟨(Nat.le_of_ble_eq_true rfl), (Nat.le_of_ble_eq_true rfl)⟩) (pr_V (r := (RX10, TX10, 16)) hP hK hD q_1 10 rfl hq_1) rfl rfl hl.1 rfl (lv_room (Nat.le_of_ble_eq_true rfl)) dX10_ask_48 ⟨(Nat.le_of_ble_eq_true rfl), (Nat.le_of_ble_eq_true rfl)⟩) hS (fun q _ h => hFc q h) hFc (fun r_40 u t H locs ht hvm w_39 hB hz1 hk1 hS => ?_)
            obtain ⟨S_41, rfl⟩ : ∃ z, z = u := ⟨_, rfl⟩
            obtain ⟨hP1, hK1, hD1⟩ := hB
            rw [ht] at hP1
            have hP : va_P (dC, dI) vwCl (oW cq S_41) H := hP1
            have hD : va_D A (oW cq S_41) := hD1.weaken (fun _ _ _ h => hFc _ h)
            clear hP1 hK1 hD1 hk1 hz1 hvm ht hFc
            obtain ⟨hIS_41, XS_41, hb_42, hx_43⟩ := w_39
            have X_44 : oX [2104, 2107] Z S_41 := oX.st oX.rf XS_41 (by decide +kernel)
            have rf_45 : r_40.toInt = -6 := by rw [hx_43]; decide
            exact W.iret (v := r_40) hx hb hr (fun t ht hW => ⟨⟨r_40, S_41, rfl, ⟨hIS_41, X_44, (fun row hq => match hx_5 row hq with | Or.inl ⟨e9, _⟩ => by cases e9 | Or.inr ⟨hm, _, _, _⟩ => Or.inl ⟨by unfold gao; omega, fun a t => oX.f XS_41 t (fun _ => nkw (by decide +kernel) (by decide +kernel) (by decide +kernel))⟩)⟩, ⟨by rw [ht]; exact hP, va_K.moved hW.alike hK, hD⟩⟩, hS.F ht⟩) hS.2.2 dX10_ask_51
      · have dc_22 := c_nle (a := 0) (b := x3.toInt) (by decide +kernel) rfl c_22
        refine lv_aload_n hx hb dX10_ask_26 rfl (lv_at hl 1 rfl) ?_
        refine lv_bipush (v := (-4)) hx hb dX10_ask_27 (by decide +kernel) ?_
        have hFc := o_free hD hS hA
        refine va_calli (va_runV (As := [.int (-4)]) (rest := []) ⟨hx, hb, hml, hown, hts⟩ (c_X10_refuse l dC dI H.size cq Z gI o to (-4) (by decide +kernel)) (cwV 1 hts gX10_ask_X10_refuse rfl rfl rfl (by decide +kernel) ⟨(Nat.le_of_ble_eq_true rfl), (Nat.le_of_ble_eq_true rfl)⟩) (pr_V (r := (RX10, TX10, 16)) hP hK hD q_1 10 rfl hq_1) rfl rfl hl.1 rfl (lv_room (Nat.le_of_ble_eq_true rfl)) dX10_ask_29 ⟨(Nat.le_of_ble_eq_true rfl), (Nat.le_of_ble_eq_true rfl)⟩) hS (fun q _ h => hFc q h) hFc (fun r_47 u t H locs ht hvm w_46 hB hz1 hk1 hS => ?_)
        obtain ⟨S_48, rfl⟩ : ∃ z, z = u := ⟨_, rfl⟩
        obtain ⟨hP1, hK1, hD1⟩ := hB
        rw [ht] at hP1
        have hP : va_P (dC, dI) vwCl (oW cq S_48) H := hP1
        have hD : va_D A (oW cq S_48) := hD1.weaken (fun _ _ _ h => hFc _ h)
        clear hP1 hK1 hD1 hk1 hz1 hvm ht hFc
        obtain ⟨hIS_48, XS_48, hb_49, hx_50⟩ := w_46
        have X_51 : oX [2104, 2107] Z S_48 := oX.st oX.rf XS_48 (by decide +kernel)
        have rf_52 : r_47.toInt = -4 := by rw [hx_50]; decide
        exact W.iret (v := r_47) hx hb hr (fun t ht hW => ⟨⟨r_47, S_48, rfl, ⟨hIS_48, X_51, (fun row hq => match hx_5 row hq with | Or.inl ⟨e9, _⟩ => by cases e9 | Or.inr ⟨hm, _, _, _⟩ => Or.inl ⟨by unfold gao; omega, fun a t => oX.f XS_48 t (fun _ => nkw (by decide +kernel) (by decide +kernel) (by decide +kernel))⟩)⟩, ⟨by rw [ht]; exact hP, va_K.moved hW.alike hK, hD⟩⟩, hS.F ht⟩) hS.2.2 dX10_ask_32
set_option maxHeartbeats 4000000 in
set_option maxRecDepth 100000 in
theorem c_X11_ask_f (l : Launch) (dC : Nat → ClassId) (dI : Nat → Nat → Nat) (sz : Nat) (g0 : Nat) (pq : Nat → Nat) (cp : Nat → ClassId) (v : Nat → Int32) (fa : Nat → Nat → Int32) (gV : mV v) (gA : mA fa) (x1 : Int32) (x2 : Int32) (x3 : Int32) : Met l yX11_ask wsX11_ask ({ frames := 2, cells := 0, slots := 0, locals := 42 }) (va_Pc [.ref g0, .int x1, .int x2, .int x3] (pcW (dC, dI) (mT cp) (mW g0 pq cp v fa) sz)) (va_Qi (fun (r : Int32) (u : (Nat → Int32) × (Nat → Nat → Int32)) => mV u.1 ∧ mA u.2 ∧ mX [0, 5] v fa u.1 u.2 ∧ (gar (v 39).toInt (fa 5) x1 x2 x3 r (u.2 5))) (fun u t => va_P (dC, dI) vwCl (mW g0 pq cp u.1 u.2) t.heap ∧ va_K (dC, dI) vwCl (mT cp) t ∧ va_D (va_A (mW g0 pq cp v fa) sz) (mW g0 pq cp u.1 u.2)) (va_A (mW g0 pq cp v fa) sz)) 0 0 (va_A (mW g0 pq cp v fa) sz) := by
  refine Met.ofW (cc := cX11_ask) (maxL := 5) (ret := (some .int)) (by decide +kernel) rfl ?_
  intro p e s m args below meth c s₁ B hml hv
  obtain ⟨rfl, hsz, hP, hK, hD0⟩ := hv
  have hx := B.exec
  have hb := B.bytes
  have hr := B.returns
  have hts := atoms_spec (ws := wsX11_ask) B.pre
  have hown : s.vm.findClass RX11 = some m.cls := findClass_of_methodNamed B.named
  have hlocks := B.notSynchronized
  subst hsz
  have hD := hD0.self (sz := s.heap.size)
  generalize hAe : va_A (mW g0 pq cp v fa) s.heap.size = A at hD ⊢
  have hA : ∀ q : Nat, s.heap.size ≤ q → A q := fun q h => by rw [← hAe]; exact Or.inr h
  have hS : va_S A s.heap s.heap [] := va_S.rf
  have hP : va_P (dC, dI) vwCl (mW g0 pq cp v fa) s.heap := hP
  have hl := lv_entry ([.ref g0, .int x1, .int x2, .int x3]) (n := 5) (Nat.le_of_ble_eq_true rfl)
  rw [lg_entry_eq]
  generalize (lg_sl ([.ref g0, .int x1, .int x2, .int x3]) ++ List.replicate (5 - (lg_sl ([.ref g0, .int x1, .int x2, .int x3])).length) Slot.unset).toArray = ls at hl ⊢
  have hl : lv_has ls 5 [(0, .ref g0), (1, .int x1), (2, .int x2), (3, .int x3)] := hl
  refine lv_aload_n hx hb dX11_ask_0 rfl (lv_at hl 0 rfl) ?_
  refine lv_iload_n hx hb dX11_ask_1 rfl (lv_at hl 1 rfl) ?_
  have hFc : ∀ q, va_A [] s.heap.size q → A q := pu_free hS hA
  refine va_calli (va_runV (As := [.int x1]) (rest := []) ⟨hx, hb, hml, hown, hts⟩ (c_X11_isMan l dC dI s.heap.size g0 pq cp v fa x1) (cwV 1 hts gX11_ask_X11_isMan rfl rfl rfl (by decide +kernel) ⟨(Nat.le_of_ble_eq_true rfl), (Nat.le_of_ble_eq_true rfl)⟩) (pr_V (r := (RX11, TX11, 63)) hP hK hD 0 11 rfl rfl) rfl rfl hl.1 rfl (lv_room (Nat.le_of_ble_eq_true rfl)) dX11_ask_2 ⟨(Nat.le_of_ble_eq_true rfl), (Nat.le_of_ble_eq_true rfl)⟩) hS (fun q _ h => hFc q h) hFc (fun r_2 u t H locs ht hvm w_1 hB hz1 hk1 hS => ?_)
  have hP := pu_keep hP hk1
  clear hk1 hz1 hvm hB ht hFc
  have hbr_2 : 0 ≤ r_2.toInt ∧ r_2.toInt ≤ 1 := iv_of w_1 (isI_i _ _)
  refine lv_if_ne (tgt := 14) hx hb dX11_ask_5 (by decide +kernel) (fun c_3 => ?_) (fun c_3 => ?_)
  · have dc_3 := c_ne (a := r_2.toInt) (b := 0) rfl (by decide +kernel) c_3
    have hi_4 := isI_t w_1 (fun q => c_3 (Int32.toInt_inj.mp q))
    have khi_4 : (v 39).toInt ≤ 40 := (gV 39).2
    refine lv_iload_n hx hb dX11_ask_14 rfl (lv_at hl 2 rfl) ?_
    refine lv_if_lt (tgt := 22) hx hb dX11_ask_15 (by decide +kernel) (fun c_5 => ?_) (fun c_5 => ?_)
    · have dc_5 := c_lt (a := x2.toInt) (b := 0) rfl (by decide +kernel) c_5
      refine lv_aload_n hx hb dX11_ask_22 rfl (lv_at hl 0 rfl) ?_
      refine lv_bipush (v := (-4)) hx hb dX11_ask_23 (by decide +kernel) ?_
      have hFc := va_free (wc := (mW g0 pq cp v fa)) hD hS hA (List.range 48) rfl
      refine va_calli (va_runV (As := [.int (-4)]) (rest := []) ⟨hx, hb, hml, hown, hts⟩ (c_X11_refuse l dC dI H.size g0 pq cp v fa (-4) (by unfold vp_in; decide)) (cwV 1 hts gX11_ask_X11_refuse rfl rfl rfl (by decide +kernel) ⟨(Nat.le_of_ble_eq_true rfl), (Nat.le_of_ble_eq_true rfl)⟩) (pr_V (r := (RX11, TX11, 63)) hP hK hD 0 11 rfl rfl) rfl rfl hl.1 rfl (lv_room (Nat.le_of_ble_eq_true rfl)) dX11_ask_25 ⟨(Nat.le_of_ble_eq_true rfl), (Nat.le_of_ble_eq_true rfl)⟩) hS (fun q _ h => hFc q h) hFc (fun r_7 u t H locs ht hvm w_6 hB hz1 hk1 hS => ?_)
      obtain ⟨v_8, fa_9⟩ := u
      obtain ⟨hP1, hK1, hD1⟩ := hB
      rw [ht] at hP1
      have hP : va_P (dC, dI) vwCl (mW g0 pq cp v_8 fa_9) H := hP1
      have hD : va_D A (mW g0 pq cp v_8 fa_9) := hD1.weaken (fun _ _ _ h => hFc _ h)
      clear hP1 hK1 hD1 hk1 hz1 hvm ht hFc
      obtain ⟨rfl, w_6⟩ := w_6
      have hVv_8 : mV v_8 := sm0_V w_6 gV
      have hAv_8 : mA fa_9 := sm0_A w_6 gA
      have g_10 : (v_8 39).toInt = (v 39).toInt := congrArg Int32.toInt (congrFun w_6.1 39)
      have hRv_8 : mX [0, 5] v fa v_8 fa_9 := mX.st mX.rf (mX.s0 w_6) (by decide +kernel)
      exact W.iret (v := (-4)) hx hb hr (fun t ht hW => ⟨⟨(-4), (v_8, fa_9), rfl, ⟨hVv_8, hAv_8, hRv_8, (Or.inl ⟨by have h0 : ((-4) : Int32).toInt = -4 := (by decide +kernel); unfold gao; omega, w_6.2 5 (by decide +kernel)⟩)⟩, ⟨by rw [ht]; exact hP, va_K.moved hW.alike hK, hD⟩⟩, hS.F ht⟩) hS.2.2 dX11_ask_28
    · have dc_5 := c_nlt (a := x2.toInt) (b := 0) rfl (by decide +kernel) c_5
      refine lv_iload_n hx hb dX11_ask_18 rfl (lv_at hl 3 rfl) ?_
      refine lv_if_ge (tgt := 29) hx hb dX11_ask_19 (by decide +kernel) (fun c_11 => ?_) (fun c_11 => ?_)
      · have dc_11 := c_le (a := 0) (b := x3.toInt) (by decide +kernel) rfl c_11
        refine lv_iload_n hx hb dX11_ask_29 rfl (lv_at hl 2 rfl) ?_
        refine lv_iconst (v := 3) hx hb dX11_ask_30 (by decide +kernel) ?_
        refine lv_icmp_gt (tgt := 41) hx hb dX11_ask_31 (by decide +kernel) (fun c_12 => ?_) (fun c_12 => ?_)
        · have dc_12 := c_lt (a := 3) (b := x2.toInt) (by decide +kernel) rfl c_12
          refine lv_aload_n hx hb dX11_ask_41 rfl (lv_at hl 0 rfl) ?_
          refine lv_bipush (v := (-6)) hx hb dX11_ask_42 (by decide +kernel) ?_
          have hFc := va_free (wc := (mW g0 pq cp v fa)) hD hS hA (List.range 48) rfl
          refine va_calli (va_runV (As := [.int (-6)]) (rest := []) ⟨hx, hb, hml, hown, hts⟩ (c_X11_refuse l dC dI H.size g0 pq cp v fa (-6) (by unfold vp_in; decide)) (cwV 1 hts gX11_ask_X11_refuse rfl rfl rfl (by decide +kernel) ⟨(Nat.le_of_ble_eq_true rfl), (Nat.le_of_ble_eq_true rfl)⟩) (pr_V (r := (RX11, TX11, 63)) hP hK hD 0 11 rfl rfl) rfl rfl hl.1 rfl (lv_room (Nat.le_of_ble_eq_true rfl)) dX11_ask_44 ⟨(Nat.le_of_ble_eq_true rfl), (Nat.le_of_ble_eq_true rfl)⟩) hS (fun q _ h => hFc q h) hFc (fun r_14 u t H locs ht hvm w_13 hB hz1 hk1 hS => ?_)
          obtain ⟨v_15, fa_16⟩ := u
          obtain ⟨hP1, hK1, hD1⟩ := hB
          rw [ht] at hP1
          have hP : va_P (dC, dI) vwCl (mW g0 pq cp v_15 fa_16) H := hP1
          have hD : va_D A (mW g0 pq cp v_15 fa_16) := hD1.weaken (fun _ _ _ h => hFc _ h)
          clear hP1 hK1 hD1 hk1 hz1 hvm ht hFc
          obtain ⟨rfl, w_13⟩ := w_13
          have hVv_15 : mV v_15 := sm0_V w_13 gV
          have hAv_15 : mA fa_16 := sm0_A w_13 gA
          have g_17 : (v_15 39).toInt = (v 39).toInt := congrArg Int32.toInt (congrFun w_13.1 39)
          have hRv_15 : mX [0, 5] v fa v_15 fa_16 := mX.st mX.rf (mX.s0 w_13) (by decide +kernel)
          exact W.iret (v := (-6)) hx hb hr (fun t ht hW => ⟨⟨(-6), (v_15, fa_16), rfl, ⟨hVv_15, hAv_15, hRv_15, (Or.inl ⟨by have h0 : ((-6) : Int32).toInt = -6 := (by decide +kernel); unfold gao; omega, w_13.2 5 (by decide +kernel)⟩)⟩, ⟨by rw [ht]; exact hP, va_K.moved hW.alike hK, hD⟩⟩, hS.F ht⟩) hS.2.2 dX11_ask_47
        · have dc_12 := c_nlt (a := 3) (b := x2.toInt) (by decide +kernel) rfl c_12
          refine lv_iload_n hx hb dX11_ask_34 rfl (lv_at hl 3 rfl) ?_
          refine lv_sipush (v := 9999) hx hb dX11_ask_35 (by decide +kernel) ?_
          refine lv_icmp_le (tgt := 48) hx hb dX11_ask_38 (by decide +kernel) (fun c_18 => ?_) (fun c_18 => ?_)
          · have dc_18 := c_le (a := x3.toInt) (b := 9999) rfl (by decide +kernel) c_18
            refine lv_aload_n hx hb dX11_ask_48 rfl (lv_at hl 0 rfl) ?_
            refine va_get (D := (dC, dI)) (ci := 11) (v := .ref (pq 5)) (C := RX11) (T := TX11) (N := 63) hx hb hts in_wsX11_ask_X11 hown hK hP 0 rfl rfl 5 (by decide +kernel) (hts (.fieldLink RX11 25 "ShipOfficeModel" "asks" "[I") iw_X11_ask_1) (fun _ h9 => h9) rfl dX11_ask_49 ?_
            refine lv_iconst (v := 4) hx hb dX11_ask_52 (by decide +kernel) ?_
            refine lv_iload_n hx hb dX11_ask_53 rfl (lv_at hl 1 rfl) ?_
            refine lv_imul hx hb dX11_ask_54 ?_
            refine lv_topi (fun x_19 ex_19 => ?_)
            have hx_19 : x_19.toInt = 4 * x1.toInt := (iv_to ex_19).trans (mu_i (by decide +kernel) rfl (by omega) (by omega))
            clear ex_19
            refine lv_iload_n hx hb dX11_ask_55 rfl (lv_at hl 2 rfl) ?_
            refine lv_iadd hx hb dX11_ask_56 ?_
            refine lv_topi (fun x_20 ex_20 => ?_)
            have hx_20 : x_20.toInt = x_19.toInt + x2.toInt := (iv_to ex_20).trans (ad_i rfl rfl (by omega) (by omega))
            clear ex_20
            refine va_iald hx hb hK hP 6 5 rfl rfl (vp_in_iff.mpr (by omega)) dX11_ask_57 ?_
            refine lv_topi (fun x_21 ex_21 => ?_)
            have gx_21 : x_21.toInt = (fa 5 (x_20 : Int32).toNatClampNeg).toInt := iv_to ex_21
            clear ex_21
            refine lv_istore (lv' := [(4, .int x_21), (0, .ref g0), (1, .int x1), (2, .int x2), (3, .int x3)]) hx hb dX11_ask_58 hl (by decide +kernel) rfl (fun ls hl => ?_)
            refine lv_aload_n hx hb dX11_ask_60 rfl (lv_at hl 1 rfl) ?_
            refine va_get (D := (dC, dI)) (ci := 11) (v := .ref (pq 5)) (C := RX11) (T := TX11) (N := 63) hx hb hts in_wsX11_ask_X11 hown hK hP 0 rfl rfl 5 (by decide +kernel) (hts (.fieldLink RX11 25 "ShipOfficeModel" "asks" "[I") iw_X11_ask_1) (fun _ h9 => h9) rfl dX11_ask_61 ?_
            refine lv_iconst (v := 4) hx hb dX11_ask_64 (by decide +kernel) ?_
            refine lv_iload_n hx hb dX11_ask_65 rfl (lv_at hl 2 rfl) ?_
            refine lv_imul hx hb dX11_ask_66 ?_
            refine lv_topi (fun x_22 ex_22 => ?_)
            have hx_22 : x_22.toInt = 4 * x1.toInt := (iv_to ex_22).trans (mu_i (by decide +kernel) rfl (by omega) (by omega))
            clear ex_22
            refine lv_iload_n hx hb dX11_ask_67 rfl (lv_at hl 3 rfl) ?_
            refine lv_iadd hx hb dX11_ask_68 ?_
            refine lv_topi (fun x_23 ex_23 => ?_)
            have hx_23 : x_23.toInt = x_22.toInt + x2.toInt := (iv_to ex_23).trans (ad_i rfl rfl (by omega) (by omega))
            clear ex_23
            refine lv_iload_n hx hb dX11_ask_69 rfl (lv_at hl 4 rfl) ?_
            refine va_iast hx hb hK hP hD hS 6 5 rfl rfl (vp_in_iff.mpr (by omega)) dX11_ask_70 (fun H locs hP hD hS => ?_)
            have hP : va_P (dC, dI) vwCl (mW g0 pq cp v (upF fa 5 (x_23 : Int32).toNatClampNeg x3)) H := hP
            have hD : va_D A (mW g0 pq cp v (upF fa 5 (x_23 : Int32).toNatClampNeg x3)) := hD
            obtain ⟨fz_24, efz_24⟩ : ∃ zq, zq = (upF fa 5 (x_23 : Int32).toNatClampNeg x3) := ⟨_, rfl⟩
            rw [← efz_24] at hP hD
            have hAfz_24 : mA fz_24 := by rw [efz_24]; exact mA_upF (lo := -2147483648) (hi := 2147483647) gA rfl rfl (iv_all _)
            have hRfz_24 : mX [0, 5] v fa v fz_24 := by rw [efz_24]; exact mX.uF mX.rf (by decide +kernel)
            refine lv_iload hx hb dX11_ask_71 (lv_at hl 0 rfl) ?_
            exact W.iret (v := x_21) hx hb hr (fun t ht hW => ⟨⟨x_21, (v, fz_24), rfl, ⟨gV, hAfz_24, hRfz_24, (Or.inr ⟨by unfold gaok; omega, x_20, by omega, Int32.toInt_inj.mp (by omega), by have eb : x_23 = x_20 := Int32.toInt_inj.mp (by omega); rw [efz_24, eb]; show upF fa 5 _ _ 5 = _; exact if_pos rfl⟩)⟩, ⟨by rw [ht]; exact hP, va_K.moved hW.alike hK, hD⟩⟩, hS.F ht⟩) hS.2.2 dX11_ask_73
          · have dc_18 := c_nle (a := x3.toInt) (b := 9999) rfl (by decide +kernel) c_18
            refine lv_aload_n hx hb dX11_ask_41 rfl (lv_at hl 0 rfl) ?_
            refine lv_bipush (v := (-6)) hx hb dX11_ask_42 (by decide +kernel) ?_
            have hFc := va_free (wc := (mW g0 pq cp v fa)) hD hS hA (List.range 48) rfl
            refine va_calli (va_runV (As := [.int (-6)]) (rest := []) ⟨hx, hb, hml, hown, hts⟩ (c_X11_refuse l dC dI H.size g0 pq cp v fa (-6) (by unfold vp_in; decide)) (cwV 1 hts gX11_ask_X11_refuse rfl rfl rfl (by decide +kernel) ⟨(Nat.le_of_ble_eq_true rfl), (Nat.le_of_ble_eq_true rfl)⟩) (pr_V (r := (RX11, TX11, 63)) hP hK hD 0 11 rfl rfl) rfl rfl hl.1 rfl (lv_room (Nat.le_of_ble_eq_true rfl)) dX11_ask_44 ⟨(Nat.le_of_ble_eq_true rfl), (Nat.le_of_ble_eq_true rfl)⟩) hS (fun q _ h => hFc q h) hFc (fun r_26 u t H locs ht hvm w_25 hB hz1 hk1 hS => ?_)
            obtain ⟨v_27, fa_28⟩ := u
            obtain ⟨hP1, hK1, hD1⟩ := hB
            rw [ht] at hP1
            have hP : va_P (dC, dI) vwCl (mW g0 pq cp v_27 fa_28) H := hP1
            have hD : va_D A (mW g0 pq cp v_27 fa_28) := hD1.weaken (fun _ _ _ h => hFc _ h)
            clear hP1 hK1 hD1 hk1 hz1 hvm ht hFc
            obtain ⟨rfl, w_25⟩ := w_25
            have hVv_27 : mV v_27 := sm0_V w_25 gV
            have hAv_27 : mA fa_28 := sm0_A w_25 gA
            have g_29 : (v_27 39).toInt = (v 39).toInt := congrArg Int32.toInt (congrFun w_25.1 39)
            have hRv_27 : mX [0, 5] v fa v_27 fa_28 := mX.st mX.rf (mX.s0 w_25) (by decide +kernel)
            exact W.iret (v := (-6)) hx hb hr (fun t ht hW => ⟨⟨(-6), (v_27, fa_28), rfl, ⟨hVv_27, hAv_27, hRv_27, (Or.inl ⟨by have h0 : ((-6) : Int32).toInt = -6 := (by decide +kernel); unfold gao; omega, w_25.2 5 (by decide +kernel)⟩)⟩, ⟨by rw [ht]; exact hP, va_K.moved hW.alike hK, hD⟩⟩, hS.F ht⟩) hS.2.2 dX11_ask_47
      · have dc_11 := c_nle (a := 0) (b := x3.toInt) (by decide +kernel) rfl c_11
        refine lv_aload_n hx hb dX11_ask_22 rfl (lv_at hl 0 rfl) ?_
        refine lv_bipush (v := (-4)) hx hb dX11_ask_23 (by decide +kernel) ?_
        have hFc := va_free (wc := (mW g0 pq cp v fa)) hD hS hA (List.range 48) rfl
        refine va_calli (va_runV (As := [.int (-4)]) (rest := []) ⟨hx, hb, hml, hown, hts⟩ (c_X11_refuse l dC dI H.size g0 pq cp v fa (-4) (by unfold vp_in; decide)) (cwV 1 hts gX11_ask_X11_refuse rfl rfl rfl (by decide +kernel) ⟨(Nat.le_of_ble_eq_true rfl), (Nat.le_of_ble_eq_true rfl)⟩) (pr_V (r := (RX11, TX11, 63)) hP hK hD 0 11 rfl rfl) rfl rfl hl.1 rfl (lv_room (Nat.le_of_ble_eq_true rfl)) dX11_ask_25 ⟨(Nat.le_of_ble_eq_true rfl), (Nat.le_of_ble_eq_true rfl)⟩) hS (fun q _ h => hFc q h) hFc (fun r_31 u t H locs ht hvm w_30 hB hz1 hk1 hS => ?_)
        obtain ⟨v_32, fa_33⟩ := u
        obtain ⟨hP1, hK1, hD1⟩ := hB
        rw [ht] at hP1
        have hP : va_P (dC, dI) vwCl (mW g0 pq cp v_32 fa_33) H := hP1
        have hD : va_D A (mW g0 pq cp v_32 fa_33) := hD1.weaken (fun _ _ _ h => hFc _ h)
        clear hP1 hK1 hD1 hk1 hz1 hvm ht hFc
        obtain ⟨rfl, w_30⟩ := w_30
        have hVv_32 : mV v_32 := sm0_V w_30 gV
        have hAv_32 : mA fa_33 := sm0_A w_30 gA
        have g_34 : (v_32 39).toInt = (v 39).toInt := congrArg Int32.toInt (congrFun w_30.1 39)
        have hRv_32 : mX [0, 5] v fa v_32 fa_33 := mX.st mX.rf (mX.s0 w_30) (by decide +kernel)
        exact W.iret (v := (-4)) hx hb hr (fun t ht hW => ⟨⟨(-4), (v_32, fa_33), rfl, ⟨hVv_32, hAv_32, hRv_32, (Or.inl ⟨by have h0 : ((-4) : Int32).toInt = -4 := (by decide +kernel); unfold gao; omega, w_30.2 5 (by decide +kernel)⟩)⟩, ⟨by rw [ht]; exact hP, va_K.moved hW.alike hK, hD⟩⟩, hS.F ht⟩) hS.2.2 dX11_ask_28
  · have dc_3 := c_eq (a := r_2.toInt) (b := 0) rfl (by decide +kernel) c_3
    have hz_35 := isI_0 (w_1.symm.trans c_3)
    refine lv_aload_n hx hb dX11_ask_8 rfl (lv_at hl 0 rfl) ?_
    refine lv_iconst (v := (-1)) hx hb dX11_ask_9 (by decide +kernel) ?_
    have hFc := va_free (wc := (mW g0 pq cp v fa)) hD hS hA (List.range 48) rfl
    refine va_calli (va_runV (As := [.int (-1)]) (rest := []) ⟨hx, hb, hml, hown, hts⟩ (c_X11_refuse l dC dI H.size g0 pq cp v fa (-1) (by unfold vp_in; decide)) (cwV 1 hts gX11_ask_X11_refuse rfl rfl rfl (by decide +kernel) ⟨(Nat.le_of_ble_eq_true rfl), (Nat.le_of_ble_eq_true rfl)⟩) (pr_V (r := (RX11, TX11, 63)) hP hK hD 0 11 rfl rfl) rfl rfl hl.1 rfl (lv_room (Nat.le_of_ble_eq_true rfl)) dX11_ask_10 ⟨(Nat.le_of_ble_eq_true rfl), (Nat.le_of_ble_eq_true rfl)⟩) hS (fun q _ h => hFc q h) hFc (fun r_37 u t H locs ht hvm w_36 hB hz1 hk1 hS => ?_)
    obtain ⟨v_38, fa_39⟩ := u
    obtain ⟨hP1, hK1, hD1⟩ := hB
    rw [ht] at hP1
    have hP : va_P (dC, dI) vwCl (mW g0 pq cp v_38 fa_39) H := hP1
    have hD : va_D A (mW g0 pq cp v_38 fa_39) := hD1.weaken (fun _ _ _ h => hFc _ h)
    clear hP1 hK1 hD1 hk1 hz1 hvm ht hFc
    obtain ⟨rfl, w_36⟩ := w_36
    have hVv_38 : mV v_38 := sm0_V w_36 gV
    have hAv_38 : mA fa_39 := sm0_A w_36 gA
    have g_40 : (v_38 39).toInt = (v 39).toInt := congrArg Int32.toInt (congrFun w_36.1 39)
    have hRv_38 : mX [0, 5] v fa v_38 fa_39 := mX.st mX.rf (mX.s0 w_36) (by decide +kernel)
    exact W.iret (v := (-1)) hx hb hr (fun t ht hW => ⟨⟨(-1), (v_38, fa_39), rfl, ⟨hVv_38, hAv_38, hRv_38, (Or.inl ⟨by have h0 : ((-1) : Int32).toInt = -1 := (by decide +kernel); unfold gao; omega, w_36.2 5 (by decide +kernel)⟩)⟩, ⟨by rw [ht]; exact hP, va_K.moved hW.alike hK, hD⟩⟩, hS.F ht⟩) hS.2.2 dX11_ask_13
