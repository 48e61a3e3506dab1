

section
variable {S : oS} {o b d t x : Nat} {v : Nat → Int32} {fa : Nat → Nat → Int32} {k : Int}
theorem onc_i (h : onc S b d t v fa k x) : (tldI v fa k x = 0 ∧ (oI S b d).toInt = 1000000 ∧ (oI S b t).toInt = 1000000) ∨ (tldI v fa k x = 1 ∧ 0 ≤ (oI S b t).toInt ∧ (oI S b t).toInt ≤ 3000 ∧ 0 ≤ (oI S b d).toInt ∧ (oI S b d).toInt ≤ 3000) := by
  rcases h with h | ⟨h, j, -, -, -, -, -, -, h1, h2, h3, h4⟩
  · exact Or.inl h
  · exact Or.inr ⟨h, h1, h2, h3, h4⟩
theorem RC.mi (h : RC S o v fa) {m m' : Nat} (hm : m < (v 39).toNatClampNeg) (hm' : m' < (v 39).toNatClampNeg) (e : mnA S o m = mnA S o m') : m = m' := by
  have h1 := (RC.m h hm).1
  have h2 := (RC.m h hm').1
  rw [e] at h1
  omega
theorem RC.vi (h : RC S o v fa) {m m' : Nat} (hm : m < (v 40).toNatClampNeg) (hm' : m' < (v 40).toNatClampNeg) (e : voA S o m = voA S o m') : m = m' := by
  have h1 := (RC.vo h hm).1
  have h2 := (RC.vo h hm').1
  rw [e] at h1
  omega
end
def atF (n : Int) (x : Int32) (A : Nat) (r : Option Nat) : Prop := (r = none ∧ ¬ (0 ≤ x.toInt ∧ x.toInt < n)) ∨ ((0 ≤ x.toInt ∧ x.toInt < n) ∧ r = some A)
theorem atF_n {n : Int} {x : Int32} {A : Nat} (h : atF n x A none) : ¬ (0 ≤ x.toInt ∧ x.toInt < n) := by
  rcases h with h | h
  · exact h.2
  · exact absurd h.2 (by simp)
theorem atF_s {n : Int} {x : Int32} {A b : Nat} (h : atF n x A (some b)) : (0 ≤ x.toInt ∧ x.toInt < n) ∧ b = A := by
  rcases h with h | h
  · exact absurd h.1 (by simp)
  · exact ⟨h.1, Option.some.inj h.2⟩
set_option maxHeartbeats 4000000 in
set_option maxRecDepth 100000 in
theorem c_X10_refuse_c (l : Launch) (dC : Nat → ClassId) (dI : Nat → Nat → Nat) (sz : Nat) (cq : Nat → ClassId) (Z : oS) (gI : oInv Z) (o : Nat) (to : oty Z o 10) (x1 : Int32) (hx1 : -6 ≤ x1.toInt ∧ x1.toInt ≤ 0) : Met l yX10_refuse wsX10_refuse ({ frames := 0, cells := 0, slots := 0, locals := 0 }) (va_Pc [.ref o, .int x1] (pcW (dC, dI) (oT cq) (oW cq Z) sz)) (va_Qi (fun (r : Int32) (u : oS) => oInv u ∧ oX [2107] Z u ∧ (-6 ≤ r.toInt ∧ r.toInt ≤ 0) ∧ (r = x1 ∧ rfO Z o u x1)) (fun u t => va_P (dC, dI) vwCl (oW cq u) t.heap ∧ va_K (dC, dI) vwCl (oT cq) t ∧ va_D (va_A (oW cq Z) sz) (oW cq u)) (va_A (oW cq Z) sz)) 0 0 (va_A (oW cq Z) sz) := by
  refine Met.ofW (cc := cX10_refuse) (maxL := 2) (ret := (some .int)) (by decide +kernel) rfl ?_
  intro p e s m args below meth c s₁ B hml hv
  obtain ⟨rfl, hsz, hP, hK, hD0⟩ := hv
  have hx := B.exec
  have hb := B.bytes
  have hr := B.returns
  have hts := atoms_spec (ws := wsX10_refuse) B.pre
  have hown : s.vm.findClass RX10 = some m.cls := findClass_of_methodNamed B.named
  have hlocks := B.notSynchronized
  subst hsz
  have hD := hD0.self (sz := s.heap.size)
  generalize hAe : va_A (oW cq Z) s.heap.size = A at hD ⊢
  have hA : ∀ q : Nat, s.heap.size ≤ q → A q := fun q h => by rw [← hAe]; exact Or.inr h
  have hS : va_S A s.heap s.heap [] := va_S.rf
  have hP : va_P (dC, dI) vwCl (oW cq Z) s.heap := hP
  have hl := lv_entry ([.ref o, .int x1]) (n := 2) (Nat.le_of_ble_eq_true rfl)
  rw [lg_entry_eq]
  generalize (lg_sl ([.ref o, .int x1]) ++ List.replicate (2 - (lg_sl ([.ref o, .int x1])).length) Slot.unset).toArray = ls at hl ⊢
  have hl : lv_has ls 2 [(0, .ref o), (1, .int x1)] := hl
  refine lv_aload_n hx hb dX10_refuse_0 rfl (lv_at hl 0 rfl) ?_
  obtain ⟨q_1, hq_1⟩ := og (cq := cq) to.1 (oE_10 to.2)
  obtain ⟨b_2, hb_2⟩ := oInv.nn (i := 15) gI to rfl
  refine va_get (D := (dC, dI)) (ci := 10) (v := .ref b_2) (C := RX10) (T := TX10) (N := 16) hx hb hts in_wsX10_refuse_X10 hown hK hP q_1 hq_1 rfl 15 (by decide +kernel) (hts (.fieldLink RX10 66 "ShipOffice" "refusals" "[I") iw_X10_refuse_1) (fun _ h9 => h9) (o_rd hb_2) dX10_refuse_1 ?_
  have tb_2 : oty Z b_2 107 := oInv.rd gI to.2 hb_2 rfl rfl
  refine lv_iload_n hx hb dX10_refuse_4 rfl (lv_at hl 1 rfl) ?_
  refine lv_ineg hx hb dX10_refuse_5 ?_
  refine lv_topi (fun x_3 ex_3 => ?_)
  have hx_3 : x_3.toInt = -x1.toInt := (iv_to ex_3).trans (ng_i rfl (by omega) (by omega))
  clear ex_3
  refine lv_dup2_11 hx hb dX10_refuse_6 rfl rfl ?_
  obtain ⟨q_4, hq_4⟩ := og (cq := cq) tb_2.1 (oE_a1 (n := 7) tb_2.2 (by decide +kernel))
  refine va_iald hx hb hK hP q_4 0 hq_4 rfl (vp_in_iff.mpr (by omega)) dX10_refuse_7 ?_
  refine lv_topi (fun x_5 ex_5 => ?_)
  refine lv_iconst (v := 1) hx hb dX10_refuse_8 (by decide +kernel) ?_
  refine lv_iadd hx hb dX10_refuse_9 ?_
  refine lv_topi (fun x_6 ex_6 => ?_)
  refine va_iast hx hb hK hP hD hS q_4 0 hq_4 rfl (vp_in_iff.mpr (by omega)) dX10_refuse_10 (fun H locs hP1 hD1 hS => ?_)
  obtain ⟨S_7, eS_7⟩ : ∃ zq, zq = setI Z b_2 (x_3 : Int32).toNatClampNeg x_6 := ⟨_, rfl⟩
  have hP : va_P (dC, dI) vwCl (oW cq S_7) H := by rw [eS_7]; exact cP (oset tb_2.1 hq_4 hD rfl (he_a1 (n := 7) tb_2.2 (by decide +kernel)) neI) hP1
  have hD : va_D A (oW cq S_7) := by rw [eS_7]; exact cD (oset tb_2.1 hq_4 hD rfl (he_a1 (n := 7) tb_2.2 (by decide +kernel)) neI) hD1
  clear hP1 hD1
  have hIS_7 : oInv S_7 := by rw [eS_7]; exact oInv.A (k := 107) gI tb_2.2 (by decide +kernel)
  have XS_7 : oX [2107] Z S_7 := by rw [eS_7]; exact oX.I (k := 107) (key := 2107) tb_2.2 rfl (List.mem_singleton.mpr rfl)
  have X_8 : oX [2107] Z S_7 := oX.st oX.rf XS_7 (by decide +kernel)
  refine lv_iload_n hx hb dX10_refuse_11 rfl (lv_at hl 1 rfl) ?_
  exact W.iret (v := x1) hx hb hr (fun t ht hW => ⟨⟨x1, S_7, rfl, ⟨hIS_7, X_8, (by omega), ⟨rfl, by unfold rfO; rw [oQ_e hb_2, ← (show x_3 = -x1 from Int32.toInt_inj.mp (by rw [ng_i (x := x1) rfl (by omega) (by omega)]; omega)), eS_7, ex_6, ex_5]⟩⟩, ⟨by rw [ht]; exact hP, va_K.moved hW.alike hK, hD⟩⟩, hS.F ht⟩) hS.2.2 dX10_refuse_12
set_option maxHeartbeats 4000000 in
set_option maxRecDepth 100000 in
theorem c_X10_manAt_c (l : Launch) (dC : Nat → ClassId) (dI : Nat → Nat → Nat) (sz : Nat) (cq : Nat → ClassId) (Z : oS) (gI : oInv Z) (o : Nat) (to : oty Z o 10) (x1 : Int32) (v : Nat → Int32) (fa : Nat → Nat → Int32) (hR : RC Z o v fa) : Met l yX10_manAt wsX10_manAt ({ frames := 0, cells := 0, slots := 0, locals := 0 }) (va_Pc [.ref o, .int x1] (pcW (dC, dI) (oT cq) (oW cq Z) sz)) (va_Qq (fun (r : Option Nat) (u : Unit) => (∀ b, r = some b → oty Z b 6) ∧ (atF (v 39).toInt x1 (mnA Z o x1.toNatClampNeg) r)) (fun _ _ => True) (va_A [] sz)) 0 0 (va_A [] sz) := by
  refine Met.ofW (cc := cX10_manAt) (maxL := 2) (ret := (some (.object "ShipOffice$Man"))) (by decide +kernel) rfl ?_
  intro p e s m args below meth c s₁ B hml hv
  obtain ⟨rfl, hsz, hP, hK, hD0⟩ := hv
  have hx := B.exec
  have hb := B.bytes
  have hr := B.returns
  have hts := atoms_spec (ws := wsX10_manAt) B.pre
  have hown : s.vm.findClass RX10 = some m.cls := findClass_of_methodNamed B.named
  have hlocks := B.notSynchronized
  subst hsz
  have hD := hD0
  generalize hAe : va_A [] s.heap.size = A at ⊢
  have hA : ∀ q : Nat, s.heap.size ≤ q → A q := fun q h => by rw [← hAe]; exact Or.inr h
  have hS : va_S A s.heap s.heap [] := va_S.rf
  have hP : va_P (dC, dI) vwCl (oW cq Z) s.heap := hP
  have hl := lv_entry ([.ref o, .int x1]) (n := 2) (Nat.le_of_ble_eq_true rfl)
  rw [lg_entry_eq]
  generalize (lg_sl ([.ref o, .int x1]) ++ List.replicate (2 - (lg_sl ([.ref o, .int x1])).length) Slot.unset).toArray = ls at hl ⊢
  have hl : lv_has ls 2 [(0, .ref o), (1, .int x1)] := hl
  obtain ⟨fn0, fn1, fn2, fn3, fn4⟩ := RC.n hR
  have fb38 : 0 ≤ (v 38).toInt ∧ (v 38).toInt ≤ 3000 := RC.V hR 38
  have fb39 : 0 ≤ (v 39).toInt ∧ (v 39).toInt ≤ 40 := RC.V hR 39
  have fb40 : 0 ≤ (v 40).toInt ∧ (v 40).toInt ≤ 20 := RC.V hR 40
  have fb43 : 0 ≤ (v 43).toInt ∧ (v 43).toInt ≤ 60 := RC.V hR 43
  have fb41 : 0 ≤ (v 41).toInt ∧ (v 41).toInt ≤ 200 := RC.V hR 41
  refine lv_iload_n hx hb dX10_manAt_0 rfl (lv_at hl 1 rfl) ?_
  refine lv_if_lt (tgt := 12) hx hb dX10_manAt_1 (by decide +kernel) (fun c_1 => ?_) (fun c_1 => ?_)
  · have dc_1 := c_lt (a := x1.toInt) (b := 0) rfl (by decide +kernel) c_1
    refine lv_null hx hb dX10_manAt_12 ?_
    refine lv_goto (tgt := 22) hx hb dX10_manAt_13 (by decide +kernel) ?_
    exact W.aret (v := .null) hx hb hr (Or.inl ⟨_, rfl⟩) (Or.inl rfl) (fun t ht hW => ⟨⟨none, (), rfl, ⟨(fun b h => by cases h), (Or.inl ⟨rfl, by omega⟩)⟩, trivial⟩, hS.F ht⟩) hS.2.2 dX10_manAt_22
  · have dc_1 := c_nlt (a := x1.toInt) (b := 0) rfl (by decide +kernel) c_1
    refine lv_iload_n hx hb dX10_manAt_4 rfl (lv_at hl 1 rfl) ?_
    refine lv_aload_n hx hb dX10_manAt_5 rfl (lv_at hl 0 rfl) ?_
    obtain ⟨q_2, hq_2⟩ := og (cq := cq) to.1 (oE_10 to.2)
    refine va_get (D := (dC, dI)) (ci := 10) (v := .int (oI Z o 2)) (C := RX10) (T := TX10) (N := 16) hx hb hts in_wsX10_manAt_X10 hown hK hP q_2 hq_2 rfl 2 (by decide +kernel) (hts (.fieldLink RX10 86 "ShipOffice" "manCount" "I") iw_X10_manAt_1) (fun _ h9 => h9) rfl dX10_manAt_6 ?_
    refine lv_topi (fun x_3 ex_3 => ?_)
    have hx_3 : 0 ≤ x_3.toInt ∧ x_3.toInt ≤ 40 := iv_of ex_3 (oInv.iv gI to.2 rfl rfl)
    have gx_3 : x_3.toInt = (oI Z o 2).toInt := iv_to ex_3
    clear ex_3
    refine lv_icmp_lt (tgt := 16) hx hb dX10_manAt_9 (by decide +kernel) (fun c_4 => ?_) (fun c_4 => ?_)
    · have dc_4 := c_lt (a := x1.toInt) (b := x_3.toInt) rfl rfl c_4
      refine lv_aload_n hx hb dX10_manAt_16 rfl (lv_at hl 0 rfl) ?_
      obtain ⟨b_5, hb_5⟩ := oInv.nn (i := 1) gI to rfl
      refine va_get (D := (dC, dI)) (ci := 10) (v := .ref b_5) (C := RX10) (T := TX10) (N := 16) hx hb hts in_wsX10_manAt_X10 hown hK hP q_2 hq_2 rfl 1 (by decide +kernel) (hts (.fieldLink RX10 11 "ShipOffice" "men" "[LShipOffice$Man;") iw_X10_manAt_2) (fun _ h9 => h9) (o_rd hb_5) dX10_manAt_17 ?_
      have tb_5 : oty Z b_5 14 := oInv.rd gI to.2 hb_5 rfl rfl
      refine lv_iload_n hx hb dX10_manAt_20 rfl (lv_at hl 1 rfl) ?_
      obtain ⟨q_6, hq_6⟩ := og (cq := cq) tb_5.1 (oE_14 tb_5.2)
      refine va_aldq hx hb hK hP q_6 3 hq_6 rfl (vp_in_iff.mpr (by omega)) dX10_manAt_21 ?_
      obtain ⟨b_7, hb_7⟩ := oInv.el (i := 2) (x := x1) gI to rfl hb_5 (by omega) (by omega)
      refine W.eq (g2 := F0 m 22 ls [.ref b_7]) (congrArg (fun z => F0 m 22 ls [va_rf z]) hb_7) ?_
      have tb_7 : oty Z b_7 6 := oInv.rd gI tb_5.2 hb_7 rfl rfl
      have ejb_7 : b_7 = mnA Z o x1.toNatClampNeg := by unfold mnA; rw [oQ_e hb_5, oQ_e hb_7]
      have ljb_7 : x1.toNatClampNeg < (v 39).toNatClampNeg := ni_lt (by omega) (by omega)
      have njb_7 : ((x1.toNatClampNeg : Nat) : Int) = x1.toInt := tn_i (by omega)
      have fMb_7 := RC.m hR ljb_7
      rw [← ejb_7] at fMb_7
      obtain ⟨fz0b_7, fz1b_7, fz2b_7, fz3b_7⟩ := fMb_7
      rw [njb_7] at fz0b_7
      exact W.aret (v := .ref b_7) hx hb hr (Or.inl ⟨_, rfl⟩) (Or.inr ⟨_, rfl⟩) (fun t ht hW => ⟨⟨(some b_7), (), rfl, ⟨(fun b h => by cases h; exact tb_7), (Or.inr ⟨by omega, by unfold mnA; rw [oQ_e hb_5, oQ_e hb_7]⟩)⟩, trivial⟩, hS.F ht⟩) hS.2.2 dX10_manAt_22
    · have dc_4 := c_nlt (a := x1.toInt) (b := x_3.toInt) rfl rfl c_4
      refine lv_null hx hb dX10_manAt_12 ?_
      refine lv_goto (tgt := 22) hx hb dX10_manAt_13 (by decide +kernel) ?_
      exact W.aret (v := .null) hx hb hr (Or.inl ⟨_, rfl⟩) (Or.inl rfl) (fun t ht hW => ⟨⟨none, (), rfl, ⟨(fun b h => by cases h), (Or.inl ⟨rfl, by omega⟩)⟩, trivial⟩, hS.F ht⟩) hS.2.2 dX10_manAt_22
set_option maxHeartbeats 4000000 in
set_option maxRecDepth 100000 in
theorem c_X10_voyageAt_c (l : Launch) (dC : Nat → ClassId) (dI : Nat → Nat → Nat) (sz : Nat) (cq : Nat → ClassId) (Z : oS) (gI : oInv Z) (o : Nat) (to : oty Z o 10) (x1 : Int32) (v : Nat → Int32) (fa : Nat → Nat → Int32) (hR : RC Z o v fa) : Met l yX10_voyageAt wsX10_voyageAt ({ frames := 0, cells := 0, slots := 0, locals := 0 }) (va_Pc [.ref o, .int x1] (pcW (dC, dI) (oT cq) (oW cq Z) sz)) (va_Qq (fun (r : Option Nat) (u : Unit) => (∀ b, r = some b → oty Z b 9) ∧ (atF (v 40).toInt x1 (voA Z o x1.toNatClampNeg) r)) (fun _ _ => True) (va_A [] sz)) 0 0 (va_A [] sz) := by
  refine Met.ofW (cc := cX10_voyageAt) (maxL := 2) (ret := (some (.object "ShipOffice$Voyage"))) (by decide +kernel) rfl ?_
  intro p e s m args below meth c s₁ B hml hv
  obtain ⟨rfl, hsz, hP, hK, hD0⟩ := hv
  have hx := B.exec
  have hb := B.bytes
  have hr := B.returns
  have hts := atoms_spec (ws := wsX10_voyageAt) B.pre
  have hown : s.vm.findClass RX10 = some m.cls := findClass_of_methodNamed B.named
  have hlocks := B.notSynchronized
  subst hsz
  have hD := hD0
  generalize hAe : va_A [] s.heap.size = A at ⊢
  have hA : ∀ q : Nat, s.heap.size ≤ q → A q := fun q h => by rw [← hAe]; exact Or.inr h
  have hS : va_S A s.heap s.heap [] := va_S.rf
  have hP : va_P (dC, dI) vwCl (oW cq Z) s.heap := hP
  have hl := lv_entry ([.ref o, .int x1]) (n := 2) (Nat.le_of_ble_eq_true rfl)
  rw [lg_entry_eq]
  generalize (lg_sl ([.ref o, .int x1]) ++ List.replicate (2 - (lg_sl ([.ref o, .int x1])).length) Slot.unset).toArray = ls at hl ⊢
  have hl : lv_has ls 2 [(0, .ref o), (1, .int x1)] := hl
  obtain ⟨fn0, fn1, fn2, fn3, fn4⟩ := RC.n hR
  have fb38 : 0 ≤ (v 38).toInt ∧ (v 38).toInt ≤ 3000 := RC.V hR 38
  have fb39 : 0 ≤ (v 39).toInt ∧ (v 39).toInt ≤ 40 := RC.V hR 39
  have fb40 : 0 ≤ (v 40).toInt ∧ (v 40).toInt ≤ 20 := RC.V hR 40
  have fb43 : 0 ≤ (v 43).toInt ∧ (v 43).toInt ≤ 60 := RC.V hR 43
  have fb41 : 0 ≤ (v 41).toInt ∧ (v 41).toInt ≤ 200 := RC.V hR 41
  refine lv_iload_n hx hb dX10_voyageAt_0 rfl (lv_at hl 1 rfl) ?_
  refine lv_if_lt (tgt := 12) hx hb dX10_voyageAt_1 (by decide +kernel) (fun c_1 => ?_) (fun c_1 => ?_)
  · have dc_1 := c_lt (a := x1.toInt) (b := 0) rfl (by decide +kernel) c_1
    refine lv_null hx hb dX10_voyageAt_12 ?_
    refine lv_goto (tgt := 22) hx hb dX10_voyageAt_13 (by decide +kernel) ?_
    exact W.aret (v := .null) hx hb hr (Or.inl ⟨_, rfl⟩) (Or.inl rfl) (fun t ht hW => ⟨⟨none, (), rfl, ⟨(fun b h => by cases h), (Or.inl ⟨rfl, by omega⟩)⟩, trivial⟩, hS.F ht⟩) hS.2.2 dX10_voyageAt_22
  · have dc_1 := c_nlt (a := x1.toInt) (b := 0) rfl (by decide +kernel) c_1
    refine lv_iload_n hx hb dX10_voyageAt_4 rfl (lv_at hl 1 rfl) ?_
    refine lv_aload_n hx hb dX10_voyageAt_5 rfl (lv_at hl 0 rfl) ?_
    obtain ⟨q_2, hq_2⟩ := og (cq := cq) to.1 (oE_10 to.2)
    refine va_get (D := (dC, dI)) (ci := 10) (v := .int (oI Z o 4)) (C := RX10) (T := TX10) (N := 16) hx hb hts in_wsX10_voyageAt_X10 hown hK hP q_2 hq_2 rfl 4 (by decide +kernel) (hts (.fieldLink RX10 99 "ShipOffice" "voyageCount" "I") iw_X10_voyageAt_1) (fun _ h9 => h9) rfl dX10_voyageAt_6 ?_
    refine lv_topi (fun x_3 ex_3 => ?_)
    have hx_3 : 0 ≤ x_3.toInt ∧ x_3.toInt ≤ 20 := iv_of ex_3 (oInv.iv gI to.2 rfl rfl)
    have gx_3 : x_3.toInt = (oI Z o 4).toInt := iv_to ex_3
    clear ex_3
    refine lv_icmp_lt (tgt := 16) hx hb dX10_voyageAt_9 (by decide +kernel) (fun c_4 => ?_) (fun c_4 => ?_)
    · have dc_4 := c_lt (a := x1.toInt) (b := x_3.toInt) rfl rfl c_4
      refine lv_aload_n hx hb dX10_voyageAt_16 rfl (lv_at hl 0 rfl) ?_
      obtain ⟨b_5, hb_5⟩ := oInv.nn (i := 3) gI to rfl
      refine va_get (D := (dC, dI)) (ci := 10) (v := .ref b_5) (C := RX10) (T := TX10) (N := 16) hx hb hts in_wsX10_voyageAt_X10 hown hK hP q_2 hq_2 rfl 3 (by decide +kernel) (hts (.fieldLink RX10 17 "ShipOffice" "voyages" "[LShipOffice$Voyage;") iw_X10_voyageAt_2) (fun _ h9 => h9) (o_rd hb_5) dX10_voyageAt_17 ?_
      have tb_5 : oty Z b_5 15 := oInv.rd gI to.2 hb_5 rfl rfl
      refine lv_iload_n hx hb dX10_voyageAt_20 rfl (lv_at hl 1 rfl) ?_
      obtain ⟨q_6, hq_6⟩ := og (cq := cq) tb_5.1 (oE_15 tb_5.2)
      refine va_aldq hx hb hK hP q_6 4 hq_6 rfl (vp_in_iff.mpr (by omega)) dX10_voyageAt_21 ?_
      obtain ⟨b_7, hb_7⟩ := oInv.el (i := 4) (x := x1) gI to rfl hb_5 (by omega) (by omega)
      refine W.eq (g2 := F0 m 22 ls [.ref b_7]) (congrArg (fun z => F0 m 22 ls [va_rf z]) hb_7) ?_
      have tb_7 : oty Z b_7 9 := oInv.rd gI tb_5.2 hb_7 rfl rfl
      have ejb_7 : b_7 = voA Z o x1.toNatClampNeg := by unfold voA; rw [oQ_e hb_5, oQ_e hb_7]
      have ljb_7 : x1.toNatClampNeg < (v 40).toNatClampNeg := ni_lt (by omega) (by omega)
      have njb_7 : ((x1.toNatClampNeg : Nat) : Int) = x1.toInt := tn_i (by omega)
      have fVb_7 := RC.vo hR ljb_7
      rw [← ejb_7] at fVb_7
      obtain ⟨fy0b_7, fy1b_7, fy2b_7, fy3b_7, fy4b_7, fySb_7, fyLb_7, fyhb_7⟩ := fVb_7
      have fBb_7 : 0 ≤ (fa 7 x1.toNatClampNeg).toInt ∧ (fa 7 x1.toNatClampNeg).toInt ≤ 3000 := RC.A hR 7 _
      have fSb_7 := onc_i fySb_7
      have fLb_7 := onc_i fyLb_7
      rw [njb_7] at fy0b_7 fSb_7 fLb_7
      exact W.aret (v := .ref b_7) hx hb hr (Or.inl ⟨_, rfl⟩) (Or.inr ⟨_, rfl⟩) (fun t ht hW => ⟨⟨(some b_7), (), rfl, ⟨(fun b h => by cases h; exact tb_7), (Or.inr ⟨by omega, by unfold voA; rw [oQ_e hb_5, oQ_e hb_7]⟩)⟩, trivial⟩, hS.F ht⟩) hS.2.2 dX10_voyageAt_22
    · have dc_4 := c_nlt (a := x1.toInt) (b := x_3.toInt) rfl rfl c_4
      refine lv_null hx hb dX10_voyageAt_12 ?_
      refine lv_goto (tgt := 22) hx hb dX10_voyageAt_13 (by decide +kernel) ?_
      exact W.aret (v := .null) hx hb hr (Or.inl ⟨_, rfl⟩) (Or.inl rfl) (fun t ht hW => ⟨⟨none, (), rfl, ⟨(fun b h => by cases h), (Or.inl ⟨rfl, by omega⟩)⟩, trivial⟩, hS.F ht⟩) hS.2.2 dX10_voyageAt_22
set_option maxHeartbeats 4000000 in
set_option maxRecDepth 100000 in
theorem c_X10_agreementAt_c (l : Launch) (dC : Nat → ClassId) (dI : Nat → Nat → Nat) (sz : Nat) (cq : Nat → ClassId) (Z : oS) (gI : oInv Z) (o : Nat) (to : oty Z o 10) (x1 : Int32) (v : Nat → Int32) (fa : Nat → Nat → Int32) (hR : RC Z o v fa) : Met l yX10_agreementAt wsX10_agreementAt ({ frames := 0, cells := 0, slots := 0, locals := 0 }) (va_Pc [.ref o, .int x1] (pcW (dC, dI) (oT cq) (oW cq Z) sz)) (va_Qq (fun (r : Option Nat) (u : Unit) => (∀ b, r = some b → oty Z b 1) ∧ (atF (v 43).toInt x1 (agA Z o x1.toNatClampNeg) r)) (fun _ _ => True) (va_A [] sz)) 0 0 (va_A [] sz) := by
  refine Met.ofW (cc := cX10_agreementAt) (maxL := 2) (ret := (some (.object "ShipOffice$Agreement"))) (by decide +kernel) rfl ?_
  intro p e s m args below meth c s₁ B hml hv
  obtain ⟨rfl, hsz, hP, hK, hD0⟩ := hv
  have hx := B.exec
  have hb := B.bytes
  have hr := B.returns
  have hts := atoms_spec (ws := wsX10_agreementAt) B.pre
  have hown : s.vm.findClass RX10 = some m.cls := findClass_of_methodNamed B.named
  have hlocks := B.notSynchronized
  subst hsz
  have hD := hD0
  generalize hAe : va_A [] s.heap.size = A at ⊢
  have hA : ∀ q : Nat, s.heap.size ≤ q → A q := fun q h => by rw [← hAe]; exact Or.inr h
  have hS : va_S A s.heap s.heap [] := va_S.rf
  have hP : va_P (dC, dI) vwCl (oW cq Z) s.heap := hP
  have hl := lv_entry ([.ref o, .int x1]) (n := 2) (Nat.le_of_ble_eq_true rfl)
  rw [lg_entry_eq]
  generalize (lg_sl ([.ref o, .int x1]) ++ List.replicate (2 - (lg_sl ([.ref o, .int x1])).length) Slot.unset).toArray = ls at hl ⊢
  have hl : lv_has ls 2 [(0, .ref o), (1, .int x1)] := hl
  obtain ⟨fn0, fn1, fn2, fn3, fn4⟩ := RC.n hR
  have fb38 : 0 ≤ (v 38).toInt ∧ (v 38).toInt ≤ 3000 := RC.V hR 38
  have fb39 : 0 ≤ (v 39).toInt ∧ (v 39).toInt ≤ 40 := RC.V hR 39
  have fb40 : 0 ≤ (v 40).toInt ∧ (v 40).toInt ≤ 20 := RC.V hR 40
  have fb43 : 0 ≤ (v 43).toInt ∧ (v 43).toInt ≤ 60 := RC.V hR 43
  have fb41 : 0 ≤ (v 41).toInt ∧ (v 41).toInt ≤ 200 := RC.V hR 41
  refine lv_iload_n hx hb dX10_agreementAt_0 rfl (lv_at hl 1 rfl) ?_
  refine lv_if_lt (tgt := 12) hx hb dX10_agreementAt_1 (by decide +kernel) (fun c_1 => ?_) (fun c_1 => ?_)
  · have dc_1 := c_lt (a := x1.toInt) (b := 0) rfl (by decide +kernel) c_1
    refine lv_null hx hb dX10_agreementAt_12 ?_
    refine lv_goto (tgt := 22) hx hb dX10_agreementAt_13 (by decide +kernel) ?_
    exact W.aret (v := .null) hx hb hr (Or.inl ⟨_, rfl⟩) (Or.inl rfl) (fun t ht hW => ⟨⟨none, (), rfl, ⟨(fun b h => by cases h), (Or.inl ⟨rfl, by omega⟩)⟩, trivial⟩, hS.F ht⟩) hS.2.2 dX10_agreementAt_22
  · have dc_1 := c_nlt (a := x1.toInt) (b := 0) rfl (by decide +kernel) c_1
    refine lv_iload_n hx hb dX10_agreementAt_4 rfl (lv_at hl 1 rfl) ?_
    refine lv_aload_n hx hb dX10_agreementAt_5 rfl (lv_at hl 0 rfl) ?_
    obtain ⟨q_2, hq_2⟩ := og (cq := cq) to.1 (oE_10 to.2)
    refine va_get (D := (dC, dI)) (ci := 10) (v := .int (oI Z o 6)) (C := RX10) (T := TX10) (N := 16) hx hb hts in_wsX10_agreementAt_X10 hown hK hP q_2 hq_2 rfl 6 (by decide +kernel) (hts (.fieldLink RX10 115 "ShipOffice" "agreementCount" "I") iw_X10_agreementAt_1) (fun _ h9 => h9) rfl dX10_agreementAt_6 ?_
    refine lv_topi (fun x_3 ex_3 => ?_)
    have hx_3 : 0 ≤ x_3.toInt ∧ x_3.toInt ≤ 60 := iv_of ex_3 (oInv.iv gI to.2 rfl rfl)
    have gx_3 : x_3.toInt = (oI Z o 6).toInt := iv_to ex_3
    clear ex_3
    refine lv_icmp_lt (tgt := 16) hx hb dX10_agreementAt_9 (by decide +kernel) (fun c_4 => ?_) (fun c_4 => ?_)
    · have dc_4 := c_lt (a := x1.toInt) (b := x_3.toInt) rfl rfl c_4
      refine lv_aload_n hx hb dX10_agreementAt_16 rfl (lv_at hl 0 rfl) ?_
      obtain ⟨b_5, hb_5⟩ := oInv.nn (i := 5) gI to rfl
      refine va_get (D := (dC, dI)) (ci := 10) (v := .ref b_5) (C := RX10) (T := TX10) (N := 16) hx hb hts in_wsX10_agreementAt_X10 hown hK hP q_2 hq_2 rfl 5 (by decide +kernel) (hts (.fieldLink RX10 23 "ShipOffice" "agreements" "[LShipOffice$Agreement;") iw_X10_agreementAt_2) (fun _ h9 => h9) (o_rd hb_5) dX10_agreementAt_17 ?_
      have tb_5 : oty Z b_5 16 := oInv.rd gI to.2 hb_5 rfl rfl
      refine lv_iload_n hx hb dX10_agreementAt_20 rfl (lv_at hl 1 rfl) ?_
      obtain ⟨q_6, hq_6⟩ := og (cq := cq) tb_5.1 (oE_16 tb_5.2)
      refine va_aldq hx hb hK hP q_6 5 hq_6 rfl (vp_in_iff.mpr (by omega)) dX10_agreementAt_21 ?_
      obtain ⟨b_7, hb_7⟩ := oInv.el (i := 6) (x := x1) gI to rfl hb_5 (by omega) (by omega)
      refine W.eq (g2 := F0 m 22 ls [.ref b_7]) (congrArg (fun z => F0 m 22 ls [va_rf z]) hb_7) ?_
      have tb_7 : oty Z b_7 1 := oInv.rd gI tb_5.2 hb_7 rfl rfl
      have ejb_7 : b_7 = agA Z o x1.toNatClampNeg := by unfold agA; rw [oQ_e hb_5, oQ_e hb_7]
      have ljb_7 : x1.toNatClampNeg < (v 43).toNatClampNeg := ni_lt (by omega) (by omega)
      have njb_7 : ((x1.toNatClampNeg : Nat) : Int) = x1.toInt := tn_i (by omega)
      have fAb_7 := RC.a hR ljb_7
      rw [← ejb_7] at fAb_7
      obtain ⟨⟨fm1b_7, fm2b_7, fm3b_7⟩, ⟨fv1b_7, fv2b_7, fv3b_7⟩, fsib_7, fppb_7, fwgb_7, frkb_7, fofb_7, fdeb_7, fchb_7⟩ := fAb_7
      have fBb_7 : 0 ≤ (fa 25 x1.toNatClampNeg).toInt ∧ (fa 25 x1.toNatClampNeg).toInt ≤ 3000 := RC.A hR 25 _
      have lamb_7 : (fa 20 x1.toNatClampNeg).toNatClampNeg < (v 39).toNatClampNeg := ni_lt fm1b_7 fm2b_7
      have namb_7 : (((fa 20 x1.toNatClampNeg).toNatClampNeg : Nat) : Int) = (fa 20 x1.toNatClampNeg).toInt := tn_i fm1b_7
      obtain ⟨amb_7, eamb_7⟩ : ∃ z, z = mnA Z o (fa 20 x1.toNatClampNeg).toNatClampNeg := ⟨_, rfl⟩
      rw [← eamb_7] at fm3b_7
      have tamb_7 : oty Z amb_7 6 := by rw [eamb_7]; exact (RC.tm hR gI to lamb_7).2
      have fMamb_7 := RC.m hR lamb_7
      rw [← eamb_7] at fMamb_7
      obtain ⟨fz0amb_7, fz1amb_7, fz2amb_7, fz3amb_7⟩ := fMamb_7
      rw [namb_7] at fz0amb_7
      have lavb_7 : (fa 21 x1.toNatClampNeg).toNatClampNeg < (v 40).toNatClampNeg := ni_lt fv1b_7 fv2b_7
      have navb_7 : (((fa 21 x1.toNatClampNeg).toNatClampNeg : Nat) : Int) = (fa 21 x1.toNatClampNeg).toInt := tn_i fv1b_7
      obtain ⟨avb_7, eavb_7⟩ : ∃ z, z = voA Z o (fa 21 x1.toNatClampNeg).toNatClampNeg := ⟨_, rfl⟩
      rw [← eavb_7] at fv3b_7
      have tavb_7 : oty Z avb_7 9 := by rw [eavb_7]; exact (RC.tv hR gI to lavb_7).2
      have fVavb_7 := RC.vo hR lavb_7
      rw [← eavb_7] at fVavb_7
      obtain ⟨fy0avb_7, fy1avb_7, fy2avb_7, fy3avb_7, fy4avb_7, fySavb_7, fyLavb_7, fyhavb_7⟩ := fVavb_7
      have fBavb_7 : 0 ≤ (fa 7 ((fa 21 x1.toNatClampNeg).toNatClampNeg)).toInt ∧ (fa 7 ((fa 21 x1.toNatClampNeg).toNatClampNeg)).toInt ≤ 3000 := RC.A hR 7 _
      have fSavb_7 := onc_i fySavb_7
      have fLavb_7 := onc_i fyLavb_7
      rw [navb_7] at fy0avb_7 fSavb_7 fLavb_7
      exact W.aret (v := .ref b_7) hx hb hr (Or.inl ⟨_, rfl⟩) (Or.inr ⟨_, rfl⟩) (fun t ht hW => ⟨⟨(some b_7), (), rfl, ⟨(fun b h => by cases h; exact tb_7), (Or.inr ⟨by omega, by unfold agA; rw [oQ_e hb_5, oQ_e hb_7]⟩)⟩, trivial⟩, hS.F ht⟩) hS.2.2 dX10_agreementAt_22
    · have dc_4 := c_nlt (a := x1.toInt) (b := x_3.toInt) rfl rfl c_4
      refine lv_null hx hb dX10_agreementAt_12 ?_
      refine lv_goto (tgt := 22) hx hb dX10_agreementAt_13 (by decide +kernel) ?_
      exact W.aret (v := .null) hx hb hr (Or.inl ⟨_, rfl⟩) (Or.inl rfl) (fun t ht hW => ⟨⟨none, (), rfl, ⟨(fun b h => by cases h), (Or.inl ⟨rfl, by omega⟩)⟩, trivial⟩, hS.F ht⟩) hS.2.2 dX10_agreementAt_22
