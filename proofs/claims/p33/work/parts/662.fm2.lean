

/-- the man is there, the rank and the wage are in their bounds; what a refused ask answers -/
def gaok (men m k x : Int) : Prop := 0 ≤ m ∧ m < men ∧ 0 ≤ k ∧ k ≤ 3 ∧ 0 ≤ x ∧ x ≤ 9999
def gao (men m k x r : Int) : Prop := (¬ (0 ≤ m ∧ m < men) ∧ r = -1) ∨ ((0 ≤ m ∧ m < men) ∧ (k < 0 ∨ x < 0) ∧ r = -4) ∨ ((0 ≤ m ∧ m < men) ∧ ¬ (k < 0 ∨ x < 0) ∧ (3 < k ∨ 9999 < x) ∧ r = -6)
/-- of the office: the man's own row of wages -/
def gas (Z u : oS) (row : Nat) (men : Int) (m k x r : Int32) : Prop := (gao men m.toInt k.toInt x.toInt r.toInt ∧ ∀ a, oty Z a 104 → oI u a = oI Z a) ∨ (gaok men m.toInt k.toInt x.toInt ∧ ∃ man w, oP Z row m.toNatClampNeg = some man ∧ oP Z man 4 = some w ∧ r = oI Z w k.toNatClampNeg ∧ oI u w = upd (oI Z w) k.toNatClampNeg x ∧ ∀ a, oty Z a 104 → a ≠ w → oI u a = oI Z a)
/-- of the reference: one row -/
def gar (men : Int) (f : Nat → Int32) (m k x r : Int32) (f1 : Nat → Int32) : Prop := (gao men m.toInt k.toInt x.toInt r.toInt ∧ f1 = f) ∨ (gaok men m.toInt k.toInt x.toInt ∧ ∃ i : Int32, i.toInt = 4 * m.toInt + k.toInt ∧ r = f i.toNatClampNeg ∧ f1 = upd f i.toNatClampNeg x)
/-- the man of a number -/
def gat (Z : oS) (row : Nat) (men : Int) (m : Int32) (r : Option Nat) : Prop := (r = none ∧ ¬ (0 ≤ m.toInt ∧ m.toInt < men)) ∨ ((0 ≤ m.toInt ∧ m.toInt < men) ∧ ∃ b, r = some b ∧ oP Z row m.toNatClampNeg = some b)
set_option maxHeartbeats 4000000 in
set_option maxRecDepth 100000 in
theorem c_X10_manAt_f (l : Launch) (dC : Nat → ClassId) (dI : Nat → Nat → Nat) (sz : Nat) (cq : Nat → ClassId) (Z : oS) (gI : oInv Z) (o : Nat) (to : oty Z o 10) (x1 : Int32) : Met l yX10_manAt wsX10_manAt ({ frames := 0, cells := 0, slots := 0, locals := 0 }) (va_Pc [.ref o, .int x1] (pcW (dC, dI) (oT cq) (oW cq Z) sz)) (va_Qq (fun (r : Option Nat) (u : Unit) => (∀ b, r = some b → oty Z b 6) ∧ (∀ row, oP Z o 1 = some row → gat Z row (oI Z o 2).toInt x1 r)) (fun _ _ => True) (va_A [] sz)) 0 0 (va_A [] sz) := by
  refine Met.ofW (cc := cX10_manAt) (maxL := 2) (ret := (some (.object "ShipOffice$Man"))) (by decide) rfl ?_
  intro p e s m args below meth c s₁ B hml hv
  obtain ⟨rfl, hsz, hP, hK, hD0⟩ := hv
  have hx := B.exec
  have hb := B.bytes
  have hr := B.returns
  have hts := atoms_spec (ws := wsX10_manAt) B.pre
  have hown : s.vm.findClass RX10 = some m.cls := findClass_of_methodNamed B.named
  have hlocks := B.notSynchronized
  subst hsz
  have hD := hD0
  generalize hAe : va_A [] s.heap.size = A at ⊢
  have hA : ∀ q : Nat, s.heap.size ≤ q → A q := fun q h => by rw [← hAe]; exact Or.inr h
  have hS : va_S A s.heap s.heap [] := va_S.rf
  have hP : va_P (dC, dI) vwCl (oW cq Z) s.heap := hP
  have hl := lv_entry ([.ref o, .int x1]) (n := 2) (Nat.le_of_ble_eq_true rfl)
  rw [lg_entry_eq]
  generalize (lg_sl ([.ref o, .int x1]) ++ List.replicate (2 - (lg_sl ([.ref o, .int x1])).length) Slot.unset).toArray = ls at hl ⊢
  have hl : lv_has ls 2 [(0, .ref o), (1, .int x1)] := hl
  refine lv_iload_n hx hb dX10_manAt_0 rfl (lv_at hl 1 rfl) ?_
  refine lv_if_lt (tgt := 12) hx hb dX10_manAt_1 (by decide) (fun c_1 => ?_) (fun c_1 => ?_)
  · have dc_1 := c_lt (a := x1.toInt) (b := 0) rfl (by decide) c_1
    refine lv_null hx hb dX10_manAt_12 ?_
    refine lv_goto (tgt := 22) hx hb dX10_manAt_13 (by decide) ?_
    exact W.aret (v := .null) hx hb hr (Or.inl ⟨_, rfl⟩) (Or.inl rfl) (fun t ht hW => ⟨⟨none, (), rfl, ⟨(fun b h => by cases h), (fun row hq => Or.inl ⟨rfl, by omega⟩)⟩, trivial⟩, hS.F ht⟩) hS.2.2 dX10_manAt_22
  · have dc_1 := c_nlt (a := x1.toInt) (b := 0) rfl (by decide) c_1
    refine lv_iload_n hx hb dX10_manAt_4 rfl (lv_at hl 1 rfl) ?_
    refine lv_aload_n hx hb dX10_manAt_5 rfl (lv_at hl 0 rfl) ?_
    obtain ⟨q_2, hq_2⟩ := og (cq := cq) to.1 (oE_10 to.2)
    refine va_get (D := (dC, dI)) (ci := 10) (v := .int (oI Z o 2)) (C := RX10) (T := TX10) (N := 16) hx hb hts in_wsX10_manAt_X10 hown hK hP q_2 hq_2 rfl 2 (by decide) (hts (.fieldLink RX10 86 "ShipOffice" "manCount" "I") iw_X10_manAt_1) (fun _ h9 => h9) rfl dX10_manAt_6 ?_
    refine lv_topi (fun x_3 ex_3 => ?_)
    have hx_3 : 0 ≤ x_3.toInt ∧ x_3.toInt ≤ 40 := iv_of ex_3 (oInv.iv gI to.2 rfl rfl)
    have gx_3 : x_3.toInt = (oI Z o 2).toInt := iv_to ex_3
    clear ex_3
    refine lv_icmp_lt (tgt := 16) hx hb dX10_manAt_9 (by decide) (fun c_4 => ?_) (fun c_4 => ?_)
    · have dc_4 := c_lt (a := x1.toInt) (b := x_3.toInt) rfl rfl c_4
      refine lv_aload_n hx hb dX10_manAt_16 rfl (lv_at hl 0 rfl) ?_
      obtain ⟨b_5, hb_5⟩ := oInv.nn (i := 1) gI to rfl
      refine va_get (D := (dC, dI)) (ci := 10) (v := .ref b_5) (C := RX10) (T := TX10) (N := 16) hx hb hts in_wsX10_manAt_X10 hown hK hP q_2 hq_2 rfl 1 (by decide) (hts (.fieldLink RX10 11 "ShipOffice" "men" "[LShipOffice$Man;") iw_X10_manAt_2) (fun _ h9 => h9) (o_rd hb_5) dX10_manAt_17 ?_
      have tb_5 : oty Z b_5 14 := oInv.rd gI to.2 hb_5 rfl rfl
      refine lv_iload_n hx hb dX10_manAt_20 rfl (lv_at hl 1 rfl) ?_
      obtain ⟨q_6, hq_6⟩ := og (cq := cq) tb_5.1 (oE_14 tb_5.2)
      refine va_aldq hx hb hK hP q_6 3 hq_6 rfl (vp_in_iff.mpr (by omega)) dX10_manAt_21 ?_
      obtain ⟨b_7, hb_7⟩ := oInv.el (i := 2) (x := x1) gI to rfl hb_5 (by omega) (by omega)
      refine W.eq (g2 := F0 m 22 ls [.ref b_7]) (congrArg (fun z => F0 m 22 ls [va_rf z]) hb_7) ?_
      have tb_7 : oty Z b_7 6 := oInv.rd gI tb_5.2 hb_7 rfl rfl
      exact W.aret (v := .ref b_7) hx hb hr (Or.inl ⟨_, rfl⟩) (Or.inr ⟨_, rfl⟩) (fun t ht hW => ⟨⟨(some b_7), (), rfl, ⟨(fun b h => by cases h; exact tb_7), (fun row hq => by obtain rfl : row = b_5 := Option.some.inj (hq.symm.trans hb_5); exact Or.inr ⟨by omega, b_7, rfl, hb_7⟩)⟩, trivial⟩, hS.F ht⟩) hS.2.2 dX10_manAt_22
    · have dc_4 := c_nlt (a := x1.toInt) (b := x_3.toInt) rfl rfl c_4
      refine lv_null hx hb dX10_manAt_12 ?_
      refine lv_goto (tgt := 22) hx hb dX10_manAt_13 (by decide) ?_
      exact W.aret (v := .null) hx hb hr (Or.inl ⟨_, rfl⟩) (Or.inl rfl) (fun t ht hW => ⟨⟨none, (), rfl, ⟨(fun b h => by cases h), (fun row hq => Or.inl ⟨rfl, by omega⟩)⟩, trivial⟩, hS.F ht⟩) hS.2.2 dX10_manAt_22