

/-- an agreement goes on, in the office's own words -/
def ognI (S : oS) (a : Nat) : Int := if (oI S a 6).toInt = 1000000 then (if (oI S a 7).toInt = 0 then (if (oI S (oQ S a 1) 8).toInt = 1000000 then 1 else 0) else 0) else 0
theorem ogn_gon {S : oS} {o a : Nat} {v : Nat → Int32} {fa : Nat → Nat → Int32} (h : RC S o v fa) (ha : a < (v 43).toNatClampNeg) : ognI S (agA S o a) = gonI v fa a := by
  obtain ⟨-, ⟨v1, v2, v3⟩, -, -, -, -, fof, fde, -⟩ := RC.a h ha
  have hv := RC.vo h (ni_lt v1 v2)
  obtain ⟨-, -, -, -, -, -, fL, -⟩ := hv
  have fL := onc_i fL
  rw [tn_i v1] at fL
  unfold ognI gonI
  rw [oQ_e v3]
  have b1 := b01_i (∃ j, j < (v 41).toNatClampNeg ∧ (fa 10 j).toInt = 4 ∧ (fa 11 j).toInt = (a : Int))
  have b1 : 0 ≤ tldI v fa 4 a ∧ tldI v fa 4 a ≤ 1 := b1
  repeat (first | rw [if_pos (by omega)] | rw [if_neg (by omega)] | split)
  all_goals omega
/-- the pool with other ints -/
def wI (S : oS) (f : Nat → Nat → Int32) : oS := (S.1, S.2.1, f, S.2.2.2.1, S.2.2.2.2.1, S.2.2.2.2.2)
noncomputable def enU (Z : oS) (o vo : Nat) (v : Nat → Int32) (fa : Nat → Nat → Int32) (x : Int) (i : Nat) : Nat → Nat → Int32 := fun b k => @ite Int32 (b = vo ∧ k = 4) (Classical.propDecidable _) 1 (@ite Int32 (k = 6 ∧ ∃ j, j < i ∧ b = agA Z o j ∧ enP v fa x j) (Classical.propDecidable _) (oI Z o 0) (oI Z b k))
section
variable {Z S S1 : oS} {o vo : Nat} {v : Nat → Int32} {fa : Nat → Nat → Int32} {x : Int} {i i1 : Nat}
theorem enU_0 (h : i = 0) (e : S = setI Z vo 4 1) : S = wI Z (enU Z o vo v fa x i) := by
  rw [e, h]
  have g : up2 Z.2.2.1 vo 4 1 = enU Z o vo v fa x 0 := by
    funext b k
    show (if b = vo then (if k = 4 then (1 : Int32) else Z.2.2.1 b k) else Z.2.2.1 b k) = _
    unfold enU
    rw [if_neg (c := k = 6 ∧ ∃ j, j < 0 ∧ b = agA Z o j ∧ enP v fa x j) (fun q => by obtain ⟨-, j, hj, -⟩ := q; omega)]
    by_cases h1 : b = vo
    · rw [if_pos h1]
      by_cases h2 : k = 4
      · rw [if_pos h2, if_pos ⟨h1, h2⟩]
      · rw [if_neg h2, if_neg (fun q => h2 q.2)]
        rfl
    · rw [if_neg h1, if_neg (fun q => h1 q.1)]
      rfl
  unfold setI wI
  rw [g]
theorem enU_n (h : S = wI Z (enU Z o vo v fa x i)) (e : i1 = i + 1) (hn : ¬ enP v fa x i) : S = wI Z (enU Z o vo v fa x i1) := by
  rw [h]
  congr 1
  funext b k
  unfold enU
  have q : (k = 6 ∧ ∃ j, j < i ∧ b = agA Z o j ∧ enP v fa x j) ↔ (k = 6 ∧ ∃ j, j < i1 ∧ b = agA Z o j ∧ enP v fa x j) := by
    constructor
    · rintro ⟨h1, j, h2, h3⟩
      exact ⟨h1, j, by omega, h3⟩
    · rintro ⟨h1, j, h2, h3, h4⟩
      refine ⟨h1, j, ?_, h3, h4⟩
      by_cases g : j = i
      · exact absurd (by rw [← g]; exact h4) hn
      · omega
  by_cases g : b = vo ∧ k = 4
  · rw [if_pos g, if_pos g]
  · rw [if_neg g, if_neg g]
    by_cases g2 : k = 6 ∧ ∃ j, j < i ∧ b = agA Z o j ∧ enP v fa x j
    · rw [if_pos g2, if_pos (q.mp g2)]
    · rw [if_neg g2, if_neg (fun z => g2 (q.mpr z))]
theorem enU_t (h : S = wI Z (enU Z o vo v fa x i)) (e : i1 = i + 1) (hp : enP v fa x i) {b : Nat} {y : Int32} (eb : b = agA Z o i) (hb : b ≠ vo) (ey : y = oI Z o 0) (e1 : S1 = setI S b 6 y) : S1 = wI Z (enU Z o vo v fa x i1) := by
  rw [e1, h]
  have g : up2 (enU Z o vo v fa x i) b 6 y = enU Z o vo v fa x i1 := by
    funext c k
    show (if c = b then (if k = 6 then y else enU Z o vo v fa x i c k) else enU Z o vo v fa x i c k) = _
    by_cases h1 : c = b ∧ k = 6
    · rw [if_pos h1.1, if_pos h1.2]
      unfold enU
      rw [if_neg (fun q => hb (by rw [← h1.1]; exact q.1)), if_pos ⟨h1.2, i, by omega, by rw [h1.1, eb], hp⟩, ey]
    · have h2 : (if c = b then (if k = 6 then y else enU Z o vo v fa x i c k) else enU Z o vo v fa x i c k) = enU Z o vo v fa x i c k := by
        by_cases h3 : c = b
        · rw [if_pos h3, if_neg (fun q => h1 ⟨h3, q⟩)]
        · rw [if_neg h3]
      rw [h2]
      unfold enU
      have q : (k = 6 ∧ ∃ j, j < i ∧ c = agA Z o j ∧ enP v fa x j) ↔ (k = 6 ∧ ∃ j, j < i1 ∧ c = agA Z o j ∧ enP v fa x j) := by
        constructor
        · rintro ⟨h1, j, h2, h3⟩
          exact ⟨h1, j, by omega, h3⟩
        · rintro ⟨k6, j, j2, j3, j4⟩
          refine ⟨k6, j, ?_, j3, j4⟩
          by_cases g : j = i
          · exact absurd ⟨by rw [j3, g, eb], k6⟩ h1
          · omega
      by_cases g : c = vo ∧ k = 4
      · rw [if_pos g, if_pos g]
      · rw [if_neg g, if_neg g]
        by_cases g2 : k = 6 ∧ ∃ j, j < i ∧ c = agA Z o j ∧ enP v fa x j
        · rw [if_pos g2, if_pos (q.mp g2)]
        · rw [if_neg g2, if_neg (fun z => g2 (q.mpr z))]
  show setI (wI Z (enU Z o vo v fa x i)) b 6 y = _
  unfold setI wI
  dsimp only
  rw [g]
theorem enU_og (h : S = wI Z (enU Z o vo v fa x i)) (hR : RC Z o v fa) (hI : oInv Z) (to : oty Z o 10) (tv : oty Z vo 9) (ha : i < (v 43).toNatClampNeg) {b : Nat} (eb : b = agA Z o i) : ognI S b = gonI v fa i := by
  have tb : oty Z b 1 := by rw [eb]; exact (RC.ta hR hI to ha).2
  rw [← ogn_gon hR ha, ← eb]
  have nb : b ≠ vo := ty_ne tb tv (by decide +kernel)
  have hq : oQ S b 1 = oQ Z b 1 := by rw [h]; rfl
  have eI : ∀ c k, oI S c k = enU Z o vo v fa x i c k := fun c k => by rw [h]; rfl
  have e6 : oI S b 6 = oI Z b 6 := by
    rw [eI]
    unfold enU
    rw [if_neg (fun q => nb q.1), if_neg (fun q => ?_)]
    obtain ⟨-, j, hj, ej, -⟩ := q
    have := RC.inj hR (a := i) (a' := j) ha (by omega) (by rw [← eb, ej])
    omega
  have e7 : oI S b 7 = oI Z b 7 := by
    rw [eI]
    unfold enU
    rw [if_neg (fun q => nb q.1), if_neg (fun q => absurd q.1 (by decide +kernel))]
  have e8 : ∀ c, oI S c 8 = oI Z c 8 := fun c => by
    rw [eI]
    unfold enU
    rw [if_neg (fun q => absurd q.2 (by decide +kernel)), if_neg (fun q => absurd q.1 (by decide +kernel))]
  unfold ognI
  rw [hq, e6, e7, e8]
/-- behind i agreements -/
def enO (Z S : oS) (o vo : Nat) (v : Nat → Int32) (fa : Nat → Nat → Int32) (x p : Int) (i : Nat) : Prop := S = wI Z (enU Z o vo v fa x i) ∧ p = smN (enG v fa x) i
theorem enO_n {p : Int} (h : enO Z S o vo v fa x p i) (e : i1 = i + 1) (hn : ¬ enP v fa x i) : enO Z S o vo v fa x p i1 := ⟨enU_n h.1 e hn, by rw [e, smN_s, h.2, show enG v fa x i = 0 from if_neg hn]; omega⟩
theorem enO_t {p p1 : Int} (h : enO Z S o vo v fa x p i) (e : i1 = i + 1) (hp : enP v fa x i) {b : Nat} {y : Int32} (eb : b = agA Z o i) (hb : b ≠ vo) (ey : y = oI Z o 0) (e1 : S1 = setI S b 6 y) (ep : p1 = p + 1) : enO Z S1 o vo v fa x p1 i1 := ⟨enU_t h.1 e hp eb hb ey e1, by rw [e, smN_s, ep, h.2, show enG v fa x i = 1 from if_pos hp]⟩
end
set_option maxHeartbeats 4000000 in
set_option maxRecDepth 100000 in
theorem c_X1_goesOn_o (l : Launch) (dC : Nat → ClassId) (dI : Nat → Nat → Nat) (sz : Nat) (cq : Nat → ClassId) (Z : oS) (gI : oInv Z) (o : Nat) (to : oty Z o 1) : Met l yX1_goesOn wsX1_goesOn ({ frames := 0, cells := 0, slots := 0, locals := 0 }) (va_Pc [.ref o] (pcW (dC, dI) (oT cq) (oW cq Z) sz)) (va_Qi (fun (r : Int32) (u : Unit) => (0 ≤ r.toInt ∧ r.toInt ≤ 1) ∧ (r.toInt = ognI Z o)) (fun _ _ => True) (va_A [] sz)) 0 0 (va_A [] sz) := by
  refine Met.ofW (cc := cX1_goesOn) (maxL := 1) (ret := (some .boolean)) (by decide +kernel) rfl ?_
  intro p e s m args below meth c s₁ B hml hv
  obtain ⟨rfl, hsz, hP, hK, hD0⟩ := hv
  have hx := B.exec
  have hb := B.bytes
  have hr := B.returns
  have hts := atoms_spec (ws := wsX1_goesOn) B.pre
  have hown : s.vm.findClass RX1 = some m.cls := findClass_of_methodNamed B.named
  have hlocks := B.notSynchronized
  subst hsz
  have hD := hD0
  generalize hAe : va_A [] s.heap.size = A at ⊢
  have hA : ∀ q : Nat, s.heap.size ≤ q → A q := fun q h => by rw [← hAe]; exact Or.inr h
  have hS : va_S A s.heap s.heap [] := va_S.rf
  have hP : va_P (dC, dI) vwCl (oW cq Z) s.heap := hP
  have hl := lv_entry ([.ref o]) (n := 1) (Nat.le_of_ble_eq_true rfl)
  rw [lg_entry_eq]
  generalize (lg_sl ([.ref o]) ++ List.replicate (1 - (lg_sl ([.ref o])).length) Slot.unset).toArray = ls at hl ⊢
  have hl : lv_has ls 1 [(0, .ref o)] := hl
  refine lv_aload_n hx hb dX1_goesOn_0 rfl (lv_at hl 0 rfl) ?_
  obtain ⟨q_1, hq_1⟩ := og (cq := cq) to.1 (oE_1 to.2)
  refine va_get (D := (dC, dI)) (ci := 1) (v := .int (oI Z o 6)) (C := RX1) (T := TX1) (N := 18) hx hb hts in_wsX1_goesOn_X1 hown hK hP q_1 hq_1 rfl 6 (by decide +kernel) (hts (.fieldLink RX1 10 "ShipOffice$Agreement" "offDay" "I") iw_X1_goesOn_1) (fun _ h9 => h9) rfl dX1_goesOn_1 ?_
  refine lv_topi (fun x_2 ex_2 => ?_)
  have gx_2 : x_2.toInt = (oI Z o 6).toInt := iv_to ex_2
  clear ex_2
  refine lv_ldc (v := 1000000) hx hb hown (hts (.constant RX1 9 (1000000)) (by decide +kernel)) dX1_goesOn_4 ?_
  refine lv_icmp_ne (tgt := 32) hx hb dX1_goesOn_6 (by decide +kernel) (fun c_3 => ?_) (fun c_3 => ?_)
  · have dc_3 := c_ne (a := x_2.toInt) (b := 1000000) rfl (by decide +kernel) c_3
    refine lv_iconst (v := 0) hx hb dX1_goesOn_32 (by decide +kernel) ?_
    exact W.zret (v := 0) hx hb hr rfl (fun t ht hW => ⟨⟨0, (), rfl, ⟨(by decide +kernel), (by have rc : (0 : Int32).toInt = 0 := (by decide +kernel); unfold ognI; repeat (first | rw [if_pos (by omega)] | rw [if_neg (by omega)]); omega)⟩, trivial⟩, hS.F ht⟩) hS.2.2 dX1_goesOn_33
  · have dc_3 := c_eq (a := x_2.toInt) (b := 1000000) rfl (by decide +kernel) c_3
    refine lv_aload_n hx hb dX1_goesOn_9 rfl (lv_at hl 0 rfl) ?_
    refine va_get (D := (dC, dI)) (ci := 1) (v := .int (oI Z o 7)) (C := RX1) (T := TX1) (N := 18) hx hb hts in_wsX1_goesOn_X1 hown hK hP q_1 hq_1 rfl 7 (by decide +kernel) (hts (.fieldLink RX1 44 "ShipOffice$Agreement" "isDead" "Z") iw_X1_goesOn_2) (fun _ h9 => h9) rfl dX1_goesOn_10 ?_
    refine lv_topi (fun x_4 ex_4 => ?_)
    have gx_4 : x_4.toInt = (oI Z o 7).toInt := iv_to ex_4
    clear ex_4
    refine lv_if_ne (tgt := 32) hx hb dX1_goesOn_13 (by decide +kernel) (fun c_5 => ?_) (fun c_5 => ?_)
    · have dc_5 := c_ne (a := x_4.toInt) (b := 0) rfl (by decide +kernel) c_5
      refine lv_iconst (v := 0) hx hb dX1_goesOn_32 (by decide +kernel) ?_
      exact W.zret (v := 0) hx hb hr rfl (fun t ht hW => ⟨⟨0, (), rfl, ⟨(by decide +kernel), (by have rc : (0 : Int32).toInt = 0 := (by decide +kernel); unfold ognI; repeat (first | rw [if_pos (by omega)] | rw [if_neg (by omega)]); omega)⟩, trivial⟩, hS.F ht⟩) hS.2.2 dX1_goesOn_33
    · have dc_5 := c_eq (a := x_4.toInt) (b := 0) rfl (by decide +kernel) c_5
      refine lv_aload_n hx hb dX1_goesOn_16 rfl (lv_at hl 0 rfl) ?_
      obtain ⟨b_6, hb_6⟩ := oInv.nn (i := 1) gI to rfl
      refine va_get (D := (dC, dI)) (ci := 1) (v := .ref b_6) (C := RX1) (T := TX1) (N := 18) hx hb hts in_wsX1_goesOn_X1 hown hK hP q_1 hq_1 rfl 1 (by decide +kernel) (hts (.fieldLink RX1 33 "ShipOffice$Agreement" "voyage" "LShipOffice$Voyage;") iw_X1_goesOn_3) (fun _ h9 => h9) (o_rd hb_6) dX1_goesOn_17 ?_
      have tb_6 : oty Z b_6 9 := oInv.rd gI to.2 hb_6 rfl rfl
      obtain ⟨q_7, hq_7⟩ := og (cq := cq) tb_6.1 (oE_9 tb_6.2)
      refine va_get (D := (dC, dI)) (ci := 9) (v := .int (oI Z b_6 8)) (C := RX9) (T := TX9) (N := 10) hx hb hts in_wsX1_goesOn_X9 hown hK hP q_7 hq_7 rfl 8 (by decide +kernel) (hts (.fieldLink RX1 48 "ShipOffice$Voyage" "lostTold" "I") iw_X1_goesOn_4) (fun _ h9 => h9) rfl dX1_goesOn_20 ?_
      refine lv_topi (fun x_8 ex_8 => ?_)
      have gx_8 : x_8.toInt = (oI Z b_6 8).toInt := iv_to ex_8
      clear ex_8
      refine lv_ldc (v := 1000000) hx hb hown (hts (.constant RX1 9 (1000000)) (by decide +kernel)) dX1_goesOn_23 ?_
      refine lv_icmp_ne (tgt := 32) hx hb dX1_goesOn_25 (by decide +kernel) (fun c_9 => ?_) (fun c_9 => ?_)
      · have dc_9 := c_ne (a := x_8.toInt) (b := 1000000) rfl (by decide +kernel) c_9
        refine lv_iconst (v := 0) hx hb dX1_goesOn_32 (by decide +kernel) ?_
        exact W.zret (v := 0) hx hb hr rfl (fun t ht hW => ⟨⟨0, (), rfl, ⟨(by decide +kernel), (by have rc : (0 : Int32).toInt = 0 := (by decide +kernel); have eq := oQ_e hb_6; unfold ognI; rw [eq]; repeat (first | rw [if_pos (by omega)] | rw [if_neg (by omega)]); omega)⟩, trivial⟩, hS.F ht⟩) hS.2.2 dX1_goesOn_33
      · have dc_9 := c_eq (a := x_8.toInt) (b := 1000000) rfl (by decide +kernel) c_9
        refine lv_iconst (v := 1) hx hb dX1_goesOn_28 (by decide +kernel) ?_
        refine lv_goto (tgt := 33) hx hb dX1_goesOn_29 (by decide +kernel) ?_
        exact W.zret (v := 1) hx hb hr rfl (fun t ht hW => ⟨⟨1, (), rfl, ⟨(by decide +kernel), (by have rc : (1 : Int32).toInt = 1 := (by decide +kernel); have eq := oQ_e hb_6; unfold ognI; rw [eq]; repeat (first | rw [if_pos (by omega)] | rw [if_neg (by omega)]); omega)⟩, trivial⟩, hS.F ht⟩) hS.2.2 dX1_goesOn_33
set_option maxHeartbeats 4000000 in
set_option maxRecDepth 100000 in
theorem c_X10_ended_c (l : Launch) (dC : Nat → ClassId) (dI : Nat → Nat → Nat) (sz : Nat) (cq : Nat → ClassId) (Z : oS) (gI : oInv Z) (o : Nat) (to : oty Z o 10) (x1 : Int32) (x2 : Int32) (v : Nat → Int32) (fa : Nat → Nat → Int32) (hR : RC Z o v fa) : Met l yX10_ended wsX10_ended ({ frames := 1, cells := 0, slots := 0, locals := 21 }) (va_Pc [.ref o, .int x1, .int x2] (pcW (dC, dI) (oT cq) (oW cq Z) sz)) (va_Qi (fun (r : Int32) (u : oS) => oInv u ∧ oX [106, 904, 2107] Z u ∧ (aEn x1.toInt (v 40).toInt x2.toInt (fa 9 x1.toNatClampNeg).toInt (tldI v fa 2 x1.toInt) (cgI v fa x1.toInt) r.toInt ∧ rOo Z o u r (u = wI Z (enU Z o (voA Z o x1.toNatClampNeg) v fa x1.toInt (v 43).toNatClampNeg)))) (fun u t => va_P (dC, dI) vwCl (oW cq u) t.heap ∧ va_K (dC, dI) vwCl (oT cq) t ∧ va_D (va_A (oW cq Z) sz) (oW cq u)) (va_A (oW cq Z) sz)) 0 0 (va_A (oW cq Z) sz) := by
  refine Met.ofW (cc := cX10_ended) (maxL := 7) (ret := (some .int)) (by decide +kernel) rfl ?_
  intro p e s m args below meth c s₁ B hml hv
  obtain ⟨rfl, hsz, hP, hK, hD0⟩ := hv
  have hx := B.exec
  have hb := B.bytes
  have hr := B.returns
  have hts := atoms_spec (ws := wsX10_ended) B.pre
  have hown : s.vm.findClass RX10 = some m.cls := findClass_of_methodNamed B.named
  have hlocks := B.notSynchronized
  subst hsz
  have hD := hD0.self (sz := s.heap.size)
  generalize hAe : va_A (oW cq Z) s.heap.size = A at hD ⊢
  have hA : ∀ q : Nat, s.heap.size ≤ q → A q := fun q h => by rw [← hAe]; exact Or.inr h
  have hS : va_S A s.heap s.heap [] := va_S.rf
  have hP : va_P (dC, dI) vwCl (oW cq Z) s.heap := hP
  have hl := lv_entry ([.ref o, .int x1, .int x2]) (n := 7) (Nat.le_of_ble_eq_true rfl)
  rw [lg_entry_eq]
  generalize (lg_sl ([.ref o, .int x1, .int x2]) ++ List.replicate (7 - (lg_sl ([.ref o, .int x1, .int x2])).length) Slot.unset).toArray = ls at hl ⊢
  have hl : lv_has ls 7 [(0, .ref o), (1, .int x1), (2, .int x2)] := hl
  obtain ⟨fn0, fn1, fn2, fn3, fn4⟩ := RC.n hR
  have fb38 : 0 ≤ (v 38).toInt ∧ (v 38).toInt ≤ 3000 := RC.V hR 38
  have fb39 : 0 ≤ (v 39).toInt ∧ (v 39).toInt ≤ 40 := RC.V hR 39
  have fb40 : 0 ≤ (v 40).toInt ∧ (v 40).toInt ≤ 20 := RC.V hR 40
  have fb43 : 0 ≤ (v 43).toInt ∧ (v 43).toInt ≤ 60 := RC.V hR 43
  have fb41 : 0 ≤ (v 41).toInt ∧ (v 41).toInt ≤ 200 := RC.V hR 41
  refine lv_aload_n hx hb dX10_ended_0 rfl (lv_at hl 0 rfl) ?_
  refine lv_iload_n hx hb dX10_ended_1 rfl (lv_at hl 1 rfl) ?_
  have hFc : ∀ q, va_A [] s.heap.size q → A q := pu_free hS hA
  obtain ⟨q_1, hq_1⟩ := og (cq := cq) to.1 (oE_10 to.2)
  refine va_callq (va_runV (As := [.int x1]) (rest := []) ⟨hx, hb, hml, hown, hts⟩ (c_X10_voyageAt_c l dC dI s.heap.size cq Z gI o to x1 v fa hR) (cwV 1 hts gX10_ended_X10_voyageAt rfl rfl rfl (by decide +kernel) ⟨(Nat.le_of_ble_eq_true rfl), (Nat.le_of_ble_eq_true rfl)⟩) (pr_V (r := (RX10, TX10, 16)) hP hK hD q_1 10 rfl hq_1) rfl rfl hl.1 rfl (lv_room (Nat.le_of_ble_eq_true rfl)) dX10_ended_2 ⟨(Nat.le_of_ble_eq_true rfl), (Nat.le_of_ble_eq_true rfl)⟩) hS (fun q _ h => hFc q h) hFc (fun r_3 u t H locs ht hvm w_2 hB hz1 hk1 hS => ?_)
  have hP := pu_keep hP hk1
  clear hk1 hz1 hvm hB ht hFc
  obtain ⟨hk_4, hx_5⟩ := w_2
  rcases r_3 with _ | b_6
  · refine W.eq (g2 := F0 m 5 ls [.null]) rfl ?_
    have hnr_3 := atF_n hx_5
    refine lv_astore_nN (lv' := [(3, .null), (0, .ref o), (1, .int x1), (2, .int x2)]) hx hb dX10_ended_5 rfl hl (by decide +kernel) rfl (fun ls hl => ?_)
    refine lv_aload_nN hx hb dX10_ended_6 rfl (lv_at hl 0 rfl) ?_
    refine lv_ifnullN (tgt := 17) hx hb dX10_ended_7 (by decide +kernel) ?_
    refine lv_aload_n hx hb dX10_ended_17 rfl (lv_at hl 1 rfl) ?_
    refine lv_iconst (v := (-1)) hx hb dX10_ended_18 (by decide +kernel) ?_
    have hFc := o_free hD hS hA
    refine va_calli (va_runV (As := [.int (-1)]) (rest := []) ⟨hx, hb, hml, hown, hts⟩ (c_X10_refuse_c l dC dI H.size cq Z gI o to (-1) (by decide +kernel)) (cwV 1 hts gX10_ended_X10_refuse rfl rfl rfl (by decide +kernel) ⟨(Nat.le_of_ble_eq_true rfl), (Nat.le_of_ble_eq_true rfl)⟩) (pr_V (r := (RX10, TX10, 16)) hP hK hD q_1 10 rfl hq_1) rfl rfl hl.1 rfl (lv_room (Nat.le_of_ble_eq_true rfl)) dX10_ended_19 ⟨(Nat.le_of_ble_eq_true rfl), (Nat.le_of_ble_eq_true rfl)⟩) hS (fun q _ h => hFc q h) hFc (fun r_8 u t H locs ht hvm w_7 hB hz1 hk1 hS => ?_)
    obtain ⟨S_9, rfl⟩ : ∃ z, z = u := ⟨_, rfl⟩
    obtain ⟨hP1, hK1, hD1⟩ := hB
    rw [ht] at hP1
    have hP : va_P (dC, dI) vwCl (oW cq S_9) H := hP1
    have hD : va_D A (oW cq S_9) := hD1.weaken (fun _ _ _ h => hFc _ h)
    clear hP1 hK1 hD1 hk1 hz1 hvm ht hFc
    obtain ⟨hIS_9, XS_9, hb_10, hx_11⟩ := w_7
    have X_12 : oX [106, 904, 2107] Z S_9 := oX.st oX.rf XS_9 (by decide +kernel)
    have g_13 : (oI S_9 o 0).toInt = (oI Z o 0).toInt := by rw [oX.i XS_9 to (by decide +kernel)]
    have g_14 : (oI S_9 o 6).toInt = (oI Z o 6).toInt := by rw [oX.i XS_9 to (by decide +kernel)]
    have rf_15 : r_8.toInt = -1 := by rw [hx_11.1]; decide
    exact W.iret (v := r_8) hx hb hr (fun t ht hW => ⟨⟨r_8, S_9, rfl, ⟨hIS_9, X_12, ⟨by unfold aEn; omega, (Or.inl ⟨by omega, by rw [hx_11.1]; exact hx_11.2⟩)⟩⟩, ⟨by rw [ht]; exact hP, va_K.moved hW.alike hK, hD⟩⟩, hS.F ht⟩) hS.2.2 dX10_ended_22
  · refine W.eq (g2 := F0 m 5 ls [.ref b_6]) rfl ?_
    have tb_6 : oty Z b_6 9 := hk_4 b_6 rfl
    obtain ⟨hjb_6, ejb_6⟩ := atF_s hx_5
    have ljb_6 := ni_lt hjb_6.1 hjb_6.2
    have njb_6 := tn_i hjb_6.1
    have fVb_6 := RC.vo hR ljb_6
    rw [← ejb_6] at fVb_6
    obtain ⟨fy0b_6, fy1b_6, fy2b_6, fy3b_6, fy4b_6, fySb_6, fyLb_6, fyhb_6⟩ := fVb_6
    have fBb_6 : 0 ≤ (fa 7 x1.toNatClampNeg).toInt ∧ (fa 7 x1.toNatClampNeg).toInt ≤ 3000 := RC.A hR 7 _
    have fSb_6 := onc_i fySb_6
    have fLb_6 := onc_i fyLb_6
    rw [njb_6] at fy0b_6 fSb_6 fLb_6
    refine lv_astore_n (lv' := [(3, .ref b_6), (0, .ref o), (1, .int x1), (2, .int x2)]) hx hb dX10_ended_5 rfl hl (by decide +kernel) rfl (fun ls hl => ?_)
    refine lv_aload_n hx hb dX10_ended_6 rfl (lv_at hl 0 rfl) ?_
    refine lv_ifnull hx hb dX10_ended_7 ?_
    refine lv_iload_n hx hb dX10_ended_10 rfl (lv_at hl 3 rfl) ?_
    have hFc : ∀ q, va_A [] H.size q → A q := pu_free hS hA
    have hPc := hP.sub (ws' := []) [] rfl
    have hDc := hD.sub (ws' := []) [] (by decide +kernel) rfl
    have hKc := hK.sub (tys' := []) [] rfl
    refine va_calli (va_runS (As := [.int x2]) (rest := []) ⟨hx, hb, hml, hown, hts⟩ (c_X10_isPort_f l dC dI H.size  x2) (va_cwS 1 hts gX10_ended_X10_isPort rfl rfl rfl (by decide +kernel) ⟨(Nat.le_of_ble_eq_true rfl), (Nat.le_of_ble_eq_true rfl)⟩) (pr_S hPc hKc hDc) rfl rfl hl.1 rfl (lv_room (Nat.le_of_ble_eq_true rfl)) dX10_ended_11 ⟨(Nat.le_of_ble_eq_true rfl), (Nat.le_of_ble_eq_true rfl)⟩) hS (fun q _ h => hFc q h) hFc (fun r_17 u t H locs ht hvm w_16 hB hz1 hk1 hS => ?_)
    have hP := pu_keep hP hk1
    clear hk1 hz1 hvm hB ht hFc hPc hDc hKc
    obtain ⟨hb_18, hx_19⟩ := w_16
    refine lv_if_ne (tgt := 23) hx hb dX10_ended_14 (by decide +kernel) (fun c_20 => ?_) (fun c_20 => ?_)
    · have dc_20 := c_ne (a := r_17.toInt) (b := 0) rfl (by decide +kernel) c_20
      refine lv_aload_n hx hb dX10_ended_23 rfl (lv_at hl 0 rfl) ?_
      obtain ⟨q_21, hq_21⟩ := og (cq := cq) tb_6.1 (oE_9 tb_6.2)
      refine va_get (D := (dC, dI)) (ci := 9) (v := .int (oI Z b_6 4)) (C := RX9) (T := TX9) (N := 10) hx hb hts in_wsX10_ended_X9 hown hK hP q_21 hq_21 rfl 4 (by decide +kernel) (hts (.fieldLink RX10 107 "ShipOffice$Voyage" "isOver" "Z") iw_X10_ended_1) (fun _ h9 => h9) rfl dX10_ended_24 ?_
      refine lv_topi (fun x_22 ex_22 => ?_)
      have gx_22 : x_22.toInt = (oI Z b_6 4).toInt := iv_to ex_22
      clear ex_22
      refine lv_if_ne (tgt := 39) hx hb dX10_ended_27 (by decide +kernel) (fun c_23 => ?_) (fun c_23 => ?_)
      · have dc_23 := c_ne (a := x_22.toInt) (b := 0) rfl (by decide +kernel) c_23
        refine lv_aload_n hx hb dX10_ended_39 rfl (lv_at hl 1 rfl) ?_
        refine lv_bipush (v := (-3)) hx hb dX10_ended_40 (by decide +kernel) ?_
        have hFc := o_free hD hS hA
        refine va_calli (va_runV (As := [.int (-3)]) (rest := []) ⟨hx, hb, hml, hown, hts⟩ (c_X10_refuse_c l dC dI H.size cq Z gI o to (-3) (by decide +kernel)) (cwV 1 hts gX10_ended_X10_refuse rfl rfl rfl (by decide +kernel) ⟨(Nat.le_of_ble_eq_true rfl), (Nat.le_of_ble_eq_true rfl)⟩) (pr_V (r := (RX10, TX10, 16)) hP hK hD q_1 10 rfl hq_1) rfl rfl hl.1 rfl (lv_room (Nat.le_of_ble_eq_true rfl)) dX10_ended_42 ⟨(Nat.le_of_ble_eq_true rfl), (Nat.le_of_ble_eq_true rfl)⟩) hS (fun q _ h => hFc q h) hFc (fun r_25 u t H locs ht hvm w_24 hB hz1 hk1 hS => ?_)
        obtain ⟨S_26, rfl⟩ : ∃ z, z = u := ⟨_, rfl⟩
        obtain ⟨hP1, hK1, hD1⟩ := hB
        rw [ht] at hP1
        have hP : va_P (dC, dI) vwCl (oW cq S_26) H := hP1
        have hD : va_D A (oW cq S_26) := hD1.weaken (fun _ _ _ h => hFc _ h)
        clear hP1 hK1 hD1 hk1 hz1 hvm ht hFc
        obtain ⟨hIS_26, XS_26, hb_27, hx_28⟩ := w_24
        have X_29 : oX [106, 904, 2107] Z S_26 := oX.st oX.rf XS_26 (by decide +kernel)
        have g_30 : (oI S_26 b_6 4).toInt = (oI Z b_6 4).toInt := by rw [oX.i XS_26 tb_6 (by decide +kernel)]
        have g_31 : (oI S_26 o 0).toInt = (oI Z o 0).toInt := by rw [oX.i XS_26 to (by decide +kernel)]
        have g_32 : (oI S_26 o 6).toInt = (oI Z o 6).toInt := by rw [oX.i XS_26 to (by decide +kernel)]
        have rf_33 : r_25.toInt = -3 := by rw [hx_28.1]; decide
        exact W.iret (v := r_25) hx hb hr (fun t ht hW => ⟨⟨r_25, S_26, rfl, ⟨hIS_26, X_29, ⟨by unfold aEn; omega, (Or.inl ⟨by omega, by rw [hx_28.1]; exact hx_28.2⟩)⟩⟩, ⟨by rw [ht]; exact hP, va_K.moved hW.alike hK, hD⟩⟩, hS.F ht⟩) hS.2.2 dX10_ended_45
      · have dc_23 := c_eq (a := x_22.toInt) (b := 0) rfl (by decide +kernel) c_23
        refine lv_aload_n hx hb dX10_ended_30 rfl (lv_at hl 0 rfl) ?_
        refine va_get (D := (dC, dI)) (ci := 9) (v := .int (oI Z b_6 8)) (C := RX9) (T := TX9) (N := 10) hx hb hts in_wsX10_ended_X9 hown hK hP q_21 hq_21 rfl 8 (by decide +kernel) (hts (.fieldLink RX10 111 "ShipOffice$Voyage" "lostTold" "I") iw_X10_ended_2) (fun _ h9 => h9) rfl dX10_ended_31 ?_
        refine lv_topi (fun x_34 ex_34 => ?_)
        have gx_34 : x_34.toInt = (oI Z b_6 8).toInt := iv_to ex_34
        clear ex_34
        refine lv_ldc (v := 1000000) hx hb hown (hts (.constant RX10 114 (1000000)) (by decide +kernel)) dX10_ended_34 ?_
        refine lv_icmp_eq (tgt := 46) hx hb dX10_ended_36 (by decide +kernel) (fun c_35 => ?_) (fun c_35 => ?_)
        · have dc_35 := c_eq (a := x_34.toInt) (b := 1000000) rfl (by decide +kernel) c_35
          refine lv_aload_n hx hb dX10_ended_46 rfl (lv_at hl 0 rfl) ?_
          refine lv_iconst (v := 1) hx hb dX10_ended_47 (by decide +kernel) ?_
          refine va_put (D := (dC, dI)) (ci := 9) (v := .int 1) (ty := .boolean) (C := RX9) (T := TX9) (N := 10) hx hb hts in_wsX10_ended_X9 tyX9 tyX9_ok nmX9 hown hK hP hD hS q_21 hq_21 rfl 4 (by decide +kernel) (hts (.fieldLink RX10 107 "ShipOffice$Voyage" "isOver" "Z") iw_X10_ended_1) (fun _ h9 => h9) rfl (by decide +kernel) rfl rfl (Nat.le_of_ble_eq_true rfl) dX10_ended_48 (fun H locs hP1 hD1 hS => ?_)
          obtain ⟨S_36, eS_36⟩ : ∃ zq, zq = setI Z b_6 4 1 := ⟨_, rfl⟩
          have hP : va_P (dC, dI) vwCl (oW cq S_36) H := by rw [eS_36]; exact cP (oset tb_6.1 hq_21 hD rfl (he_9_4 tb_6.2) neI) hP1
          have hD : va_D A (oW cq S_36) := by rw [eS_36]; exact cD (oset tb_6.1 hq_21 hD rfl (he_9_4 tb_6.2) neI) hD1
          clear hP1 hD1
          have hIS_36 : oInv S_36 := by rw [eS_36]; exact oInv.I0 (k := 9) (lo := -2147483648) (hi := 2147483647) gI tb_6.2 (by decide +kernel) rfl rfl rfl (iv_all _)
          have XS_36 : oX [904] Z S_36 := by rw [eS_36]; exact oX.I (k := 9) (key := 904) tb_6.2 rfl (List.mem_singleton.mpr rfl)
          have X_37 : oX [106, 904, 2107] Z S_36 := oX.st oX.rf XS_36 (by decide +kernel)
          have g_38 : (oI S_36 b_6 4).toInt = 1 := by rw [eS_36, setI_same]; decide
          have g_39 : (oI S_36 b_6 8).toInt = (oI Z b_6 8).toInt := by rw [eS_36, setI_ne (by decide +kernel)]
          have g_40 : (oI S_36 o 0).toInt = (oI Z o 0).toInt := by rw [eS_36, setI_oth (ty_ne to tb_6 (by decide +kernel))]
          have g_41 : (oI S_36 o 6).toInt = (oI Z o 6).toInt := by rw [eS_36, setI_oth (ty_ne to tb_6 (by decide +kernel))]
          refine lv_iconst (v := 0) hx hb dX10_ended_51 (by decide +kernel) ?_
          refine lv_istore (lv' := [(4, .int 0), (3, .ref b_6), (0, .ref o), (1, .int x1), (2, .int x2)]) hx hb dX10_ended_52 hl (by decide +kernel) rfl (fun ls hl => ?_)
          refine lv_iconst (v := 0) hx hb dX10_ended_54 (by decide +kernel) ?_
          refine lv_istore (lv' := [(5, .int 0), (4, .int 0), (3, .ref b_6), (0, .ref o), (1, .int x1), (2, .int x2)]) hx hb dX10_ended_55 hl (by decide +kernel) rfl (fun ls hl => ?_)
          have cut_42 : ∀ (n : Nat) (y_43 : Int32) (y_44 : Int32) (S_45 : oS) (H : Heap) (locs : List Loc) (ls : Array Slot), 60 - y_43.toInt ≤ (n : Int) → (0 ≤ y_43.toInt ∧ y_43.toInt ≤ 60) → (0 ≤ y_44.toInt ∧ y_44.toInt ≤ 60) → enO Z S_45 o b_6 v fa x1.toInt y_44.toInt y_43.toNatClampNeg → y_44.toInt ≤ y_43.toInt → ((oI S_45 o 0).toInt = (oI Z o 0).toInt ∧ (oI S_45 o 6).toInt = (oI Z o 6).toInt) → y_43.toInt ≤ (v 43).toInt → oInv S_45 → oX [106, 904, 2107] S_36 S_45 → va_P (dC, dI) vwCl (oW cq S_45) H → va_D A (oW cq S_45) → va_S A s.heap H locs → lv_has ls 7 [(5, .int y_43), (4, .int y_44), (3, .ref b_6), (0, .ref o), (1, .int x1), (2, .int x2)] → W p l e (headSpec wsX10_ended { frames := 1, cells := 0, slots := 0, locals := 21 }).room s m #[Value.ref o, Value.int x1, Value.int x2] below meth c H locs 0 0 (MQ below (va_Qi (fun (r : Int32) (u : oS) => oInv u ∧ oX [106, 904, 2107] Z u ∧ (aEn x1.toInt (v 40).toInt x2.toInt (fa 9 x1.toNatClampNeg).toInt (tldI v fa 2 x1.toInt) (cgI v fa x1.toInt) r.toInt ∧ rOo Z o u r (u = wI Z (enU Z o (voA Z o x1.toNatClampNeg) v fa x1.toInt (v 43).toNatClampNeg)))) (fun u t => va_P (dC, dI) vwCl (oW cq u) t.heap ∧ va_K (dC, dI) vwCl (oT cq) t ∧ va_D A (oW cq u)) A) #[Value.ref o, Value.int x1, Value.int x2] s 0 0 A) (F0 m 57 ls []) := by
            intro n
            induction n using Nat.strongRecOn with
            | ind n ih =>
              intro y_43 y_44 S_45 H locs ls hm hy_43 hy_44 hq0_cut_42 hq1_cut_42 hq2_cut_42 hq3_cut_42 hIS_45 XS_45 hP hD hS hl
              have YS_45 : oX [106, 904, 2107] Z S_45 := oX.st X_37 XS_45 (fun _ q => q)
              have hSZS_45 := hq0_cut_42.1
              refine lv_iload hx hb dX10_ended_57 (lv_at hl 0 rfl) ?_
              refine lv_aload_n hx hb dX10_ended_59 rfl (lv_at hl 3 rfl) ?_
              have t_46 : oty S_45 o 10 := (oX.ty XS_45 (oX.ty XS_36 to))
              obtain ⟨q_47, hq_47⟩ := og (cq := cq) t_46.1 (oE_10 t_46.2)
              refine va_get (D := (dC, dI)) (ci := 10) (v := .int (oI S_45 o 6)) (C := RX10) (T := TX10) (N := 16) hx hb hts in_wsX10_ended_X10 hown hK hP q_47 hq_47 rfl 6 (by decide +kernel) (hts (.fieldLink RX10 115 "ShipOffice" "agreementCount" "I") iw_X10_ended_3) (fun _ h9 => h9) rfl dX10_ended_60 ?_
              refine lv_topi (fun x_48 ex_48 => ?_)
              have hx_48 : 0 ≤ x_48.toInt ∧ x_48.toInt ≤ 60 := iv_of ex_48 (oInv.iv hIS_45 t_46.2 rfl rfl)
              have gx_48 : x_48.toInt = (oI S_45 o 6).toInt := iv_to ex_48
              clear ex_48
              refine lv_icmp_ge (tgt := 110) hx hb dX10_ended_63 (by decide +kernel) (fun c_49 => ?_) (fun c_49 => ?_)
              · have dc_49 := c_le (a := x_48.toInt) (b := y_43.toInt) rfl rfl c_49
                refine lv_iload hx hb dX10_ended_110 (lv_at hl 1 rfl) ?_
                exact W.iret (v := y_44) hx hb hr (fun t ht hW => ⟨⟨y_44, S_45, rfl, ⟨hIS_45, YS_45, ⟨by have hc := cgI_G (v := v) (fa := fa) (x := x1.toInt); have hn := hq0_cut_42.2; rw [show y_43.toNatClampNeg = (v 43).toNatClampNeg from (show y_43.toInt.toNat = (v 43).toInt.toNat by omega), ← hc] at hn; unfold aEn; omega, Or.inr ⟨by omega, (by rw [← ejb_6, hq0_cut_42.1, show y_43.toNatClampNeg = (v 43).toNatClampNeg from (show y_43.toInt.toNat = (v 43).toInt.toNat by omega)])⟩⟩⟩, ⟨by rw [ht]; exact hP, va_K.moved hW.alike hK, hD⟩⟩, hS.F ht⟩) hS.2.2 dX10_ended_112
              · have dc_49 := c_nle (a := x_48.toInt) (b := y_43.toInt) rfl rfl c_49
                have cut_50 : ∀ (y_51 : Int32) (S_52 : oS) (H : Heap) (locs : List Loc) (ls : Array Slot), (0 ≤ y_51.toInt ∧ y_51.toInt ≤ 60) → enO Z S_52 o b_6 v fa x1.toInt y_51.toInt (y_43.toNatClampNeg + 1) → y_51.toInt ≤ y_43.toInt + 1 → ((oI S_52 o 0).toInt = (oI Z o 0).toInt ∧ (oI S_52 o 6).toInt = (oI Z o 6).toInt) → oInv S_52 → oX [106, 904, 2107] S_45 S_52 → va_P (dC, dI) vwCl (oW cq S_52) H → va_D A (oW cq S_52) → va_S A s.heap H locs → lv_has ls 7 [(4, .int y_51), (5, .int y_43), (3, .ref b_6), (0, .ref o), (1, .int x1), (2, .int x2)] → W p l e (headSpec wsX10_ended { frames := 1, cells := 0, slots := 0, locals := 21 }).room s m #[Value.ref o, Value.int x1, Value.int x2] below meth c H locs 0 0 (MQ below (va_Qi (fun (r : Int32) (u : oS) => oInv u ∧ oX [106, 904, 2107] Z u ∧ (aEn x1.toInt (v 40).toInt x2.toInt (fa 9 x1.toNatClampNeg).toInt (tldI v fa 2 x1.toInt) (cgI v fa x1.toInt) r.toInt ∧ rOo Z o u r (u = wI Z (enU Z o (voA Z o x1.toNatClampNeg) v fa x1.toInt (v 43).toNatClampNeg)))) (fun u t => va_P (dC, dI) vwCl (oW cq u) t.heap ∧ va_K (dC, dI) vwCl (oT cq) t ∧ va_D A (oW cq u)) A) #[Value.ref o, Value.int x1, Value.int x2] s 0 0 A) (F0 m 104 ls []) := by
                  intro y_51 S_52 H locs ls hy_51 hq0_cut_50 hq1_cut_50 hq2_cut_50 hIS_52 XS_52 hP hD hS hl
                  have YS_52 : oX [106, 904, 2107] Z S_52 := oX.st YS_45 XS_52 (fun _ q => q)
                  obtain ⟨x_53, ex_53⟩ : ∃ zq : Int32, y_43 + 1 = zq := ⟨_, rfl⟩
                  have hx_53 : x_53.toInt = y_43.toInt + 1 := (iv_to ex_53).symm.trans (ad_i rfl (by decide +kernel) (by omega) (by omega))
                  refine lv_iinc (v := x_53) (lv' := [(5, .int x_53), (4, .int y_51), (3, .ref b_6), (0, .ref o), (1, .int x1), (2, .int x2)]) hx hb dX10_ended_104 hl (k := 1) rfl ex_53 (by decide +kernel) rfl (fun ls hl => ?_)
                  clear ex_53
                  refine lv_goto (tgt := 57) hx hb dX10_ended_107 (by decide +kernel) ?_
                  exact ih (n - 1) (by omega) x_53 y_51 S_52 _ _ ls (by omega) (by omega) (by omega) (by have g := hq0_cut_50; rw [show y_43.toNatClampNeg + 1 = x_53.toNatClampNeg from (show y_43.toInt.toNat + 1 = x_53.toInt.toNat by omega)] at g; exact g) (by omega) (by omega) (by omega) hIS_52 (oX.st (oX.st oX.rf XS_45 (by decide +kernel)) XS_52 (by decide +kernel)) hP hD hS (lv_sub hl [0, 1, 2, 3, 4, 5] rfl)
                refine lv_aload_n hx hb dX10_ended_66 rfl (lv_at hl 3 rfl) ?_
                obtain ⟨b_54, hb_54⟩ := oInv.nn (i := 5) hIS_45 t_46 rfl
                refine va_get (D := (dC, dI)) (ci := 10) (v := .ref b_54) (C := RX10) (T := TX10) (N := 16) hx hb hts in_wsX10_ended_X10 hown hK hP q_47 hq_47 rfl 5 (by decide +kernel) (hts (.fieldLink RX10 23 "ShipOffice" "agreements" "[LShipOffice$Agreement;") iw_X10_ended_4) (fun _ h9 => h9) (o_rd hb_54) dX10_ended_67 ?_
                have tb_54 : oty S_45 b_54 16 := oInv.rd hIS_45 t_46.2 hb_54 rfl rfl
                refine lv_iload hx hb dX10_ended_70 (lv_at hl 0 rfl) ?_
                obtain ⟨q_55, hq_55⟩ := og (cq := cq) tb_54.1 (oE_16 tb_54.2)
                refine va_aldq hx hb hK hP q_55 5 hq_55 rfl (vp_in_iff.mpr (by omega)) dX10_ended_72 ?_
                obtain ⟨b_56, hb_56⟩ := oInv.el (i := 6) (x := y_43) hIS_45 t_46 rfl hb_54 (by omega) (by omega)
                refine W.eq (g2 := F0 m 73 ls [.ref b_56]) (congrArg (fun z => F0 m 73 ls [va_rf z]) hb_56) ?_
                have tb_56 : oty S_45 b_56 1 := oInv.rd hIS_45 tb_54.2 hb_56 rfl rfl
                have rz_58 : oP Z o 5 = some b_54 := by have q := hb_54; rw [hSZS_45] at q; exact q
                have hz_57 : oP Z b_54 y_43.toNatClampNeg = some b_56 := by have q := hb_56; rw [hSZS_45] at q; exact q
                have ejb_56 : b_56 = agA Z o y_43.toNatClampNeg := by unfold agA; rw [oQ_e rz_58, oQ_e hz_57]
                have ljb_56 : y_43.toNatClampNeg < (v 43).toNatClampNeg := ni_lt (by omega) (by omega)
                have njb_56 : ((y_43.toNatClampNeg : Nat) : Int) = y_43.toInt := tn_i (by omega)
                have fAb_56 := RC.a hR ljb_56
                rw [← ejb_56] at fAb_56
                obtain ⟨⟨fm1b_56, fm2b_56, fm3b_56⟩, ⟨fv1b_56, fv2b_56, fv3b_56⟩, fsib_56, fppb_56, fwgb_56, frkb_56, fofb_56, fdeb_56, fchb_56⟩ := fAb_56
                have fBb_56 : 0 ≤ (fa 25 y_43.toNatClampNeg).toInt ∧ (fa 25 y_43.toNatClampNeg).toInt ≤ 3000 := RC.A hR 25 _
                have lamb_56 : (fa 20 y_43.toNatClampNeg).toNatClampNeg < (v 39).toNatClampNeg := ni_lt fm1b_56 fm2b_56
                have namb_56 : (((fa 20 y_43.toNatClampNeg).toNatClampNeg : Nat) : Int) = (fa 20 y_43.toNatClampNeg).toInt := tn_i fm1b_56
                obtain ⟨amb_56, eamb_56⟩ : ∃ z, z = mnA Z o (fa 20 y_43.toNatClampNeg).toNatClampNeg := ⟨_, rfl⟩
                rw [← eamb_56] at fm3b_56
                have tamb_56 : oty Z amb_56 6 := by rw [eamb_56]; exact (RC.tm hR gI to lamb_56).2
                have fMamb_56 := RC.m hR lamb_56
                rw [← eamb_56] at fMamb_56
                obtain ⟨fz0amb_56, fz1amb_56, fz2amb_56, fz3amb_56⟩ := fMamb_56
                rw [namb_56] at fz0amb_56
                have lavb_56 : (fa 21 y_43.toNatClampNeg).toNatClampNeg < (v 40).toNatClampNeg := ni_lt fv1b_56 fv2b_56
                have navb_56 : (((fa 21 y_43.toNatClampNeg).toNatClampNeg : Nat) : Int) = (fa 21 y_43.toNatClampNeg).toInt := tn_i fv1b_56
                obtain ⟨avb_56, eavb_56⟩ : ∃ z, z = voA Z o (fa 21 y_43.toNatClampNeg).toNatClampNeg := ⟨_, rfl⟩
                rw [← eavb_56] at fv3b_56
                have tavb_56 : oty Z avb_56 9 := by rw [eavb_56]; exact (RC.tv hR gI to lavb_56).2
                have fVavb_56 := RC.vo hR lavb_56
                rw [← eavb_56] at fVavb_56
                obtain ⟨fy0avb_56, fy1avb_56, fy2avb_56, fy3avb_56, fy4avb_56, fySavb_56, fyLavb_56, fyhavb_56⟩ := fVavb_56
                have fBavb_56 : 0 ≤ (fa 7 ((fa 21 y_43.toNatClampNeg).toNatClampNeg)).toInt ∧ (fa 7 ((fa 21 y_43.toNatClampNeg).toNatClampNeg)).toInt ≤ 3000 := RC.A hR 7 _
                have fSavb_56 := onc_i fySavb_56
                have fLavb_56 := onc_i fyLavb_56
                rw [navb_56] at fy0avb_56 fSavb_56 fLavb_56
                have fSb_56 : oP S_45 b_56 1 = some avb_56 := by rw [hSZS_45]; exact fv3b_56
                refine lv_astore (lv' := [(6, .ref b_56), (5, .int y_43), (4, .int y_44), (3, .ref b_6), (0, .ref o), (1, .int x1), (2, .int x2)]) hx hb dX10_ended_73 hl (by decide +kernel) rfl (fun ls hl => ?_)
                refine lv_aload hx hb dX10_ended_75 (lv_at hl 0 rfl) ?_
                obtain ⟨q_59, hq_59⟩ := og (cq := cq) tb_56.1 (oE_1 tb_56.2)
                refine va_get (D := (dC, dI)) (ci := 1) (v := .ref avb_56) (C := RX1) (T := TX1) (N := 18) hx hb hts in_wsX10_ended_X1 hown hK hP q_59 hq_59 rfl 1 (by decide +kernel) (hts (.fieldLink RX10 118 "ShipOffice$Agreement" "voyage" "LShipOffice$Voyage;") iw_X10_ended_5) (fun _ h9 => h9) (o_rd fSb_56) dX10_ended_77 ?_
                refine lv_aload_n hx hb dX10_ended_80 rfl (lv_at hl 3 rfl) ?_
                refine lv_acmp_ne (rx := (some avb_56)) (ry := (some b_6)) (tgt := 104) hx hb dX10_ended_81 (by decide +kernel) (fun c_60 => ?_) (fun c_60 => ?_)
                · have _ := c_60
                  have ac_61 : ¬ (fa 21 y_43.toNatClampNeg).toNatClampNeg = x1.toNatClampNeg := fun q => c_60 (congrArg some (eavb_56.trans ((congrArg (voA Z o) q).trans ejb_6.symm)))
                  exact cut_50 y_44 S_45 _ _ ls (by omega) (enO_n hq0_cut_42 rfl (fun q => by have q1 := q.1; have q2 := q.2; omega)) (by omega) (by omega) hIS_45 oX.rf hP hD hS (lv_sub hl [2, 1, 3, 4, 5, 6] rfl)
                · have _ := c_60
                  have ac_62 : (fa 21 y_43.toNatClampNeg).toNatClampNeg = x1.toNatClampNeg := RC.vi hR lavb_56 ljb_6 (eavb_56.symm.trans ((Option.some.inj c_60).trans ejb_6))
                  refine lv_aload hx hb dX10_ended_84 (lv_at hl 0 rfl) ?_
                  have hFc : ∀ q, va_A [] H.size q → A q := pu_free hS hA
                  refine va_calli (va_runV (As := []) (rest := []) ⟨hx, hb, hml, hown, hts⟩ (c_X1_goesOn_o l dC dI H.size cq S_45 hIS_45 b_56 tb_56) (cwV 0 hts gX10_ended_X1_goesOn rfl rfl rfl (by decide +kernel) ⟨(Nat.le_of_ble_eq_true rfl), (Nat.le_of_ble_eq_true rfl)⟩) (pr_V (r := (RX1, TX1, 18)) hP hK hD q_59 1 rfl hq_59) rfl rfl hl.1 rfl (lv_room (Nat.le_of_ble_eq_true rfl)) dX10_ended_86 ⟨(Nat.le_of_ble_eq_true rfl), (Nat.le_of_ble_eq_true rfl)⟩) hS (fun q _ h => hFc q h) hFc (fun r_64 u t H locs ht hvm w_63 hB hz1 hk1 hS => ?_)
                  have hP := pu_keep hP hk1
                  clear hk1 hz1 hvm hB ht hFc
                  obtain ⟨hb_65, hx_66⟩ := w_63
                  have hog := enU_og hSZS_45 hR gI to tb_6 ljb_56 ejb_56
                  refine lv_if_eq (tgt := 104) hx hb dX10_ended_89 (by decide +kernel) (fun c_67 => ?_) (fun c_67 => ?_)
                  · have dc_67 := c_eq (a := r_64.toInt) (b := 0) rfl (by decide +kernel) c_67
                    exact cut_50 y_44 S_45 _ _ ls (by omega) (enO_n hq0_cut_42 rfl (fun q => by have q1 := q.1; have q2 := q.2; omega)) (by omega) (by omega) hIS_45 oX.rf hP hD hS (lv_sub hl [2, 1, 3, 4, 5, 6] rfl)
                  · have dc_67 := c_ne (a := r_64.toInt) (b := 0) rfl (by decide +kernel) c_67
                    refine lv_aload hx hb dX10_ended_92 (lv_at hl 0 rfl) ?_
                    refine lv_aload_n hx hb dX10_ended_94 rfl (lv_at hl 4 rfl) ?_
                    refine va_get (D := (dC, dI)) (ci := 10) (v := .int (oI S_45 o 0)) (C := RX10) (T := TX10) (N := 16) hx hb hts in_wsX10_ended_X10 hown hK hP q_47 hq_47 rfl 0 (by decide +kernel) (hts (.fieldLink RX10 73 "ShipOffice" "now" "I") iw_X10_ended_6) (fun _ h9 => h9) rfl dX10_ended_95 ?_
                    refine lv_topi (fun x_68 ex_68 => ?_)
                    have hx_68 : 0 ≤ x_68.toInt ∧ x_68.toInt ≤ 3000 := iv_of ex_68 (oInv.iv hIS_45 t_46.2 rfl rfl)
                    have gx_68 : x_68.toInt = (oI S_45 o 0).toInt := iv_to ex_68
                    clear ex_68
                    refine va_put (D := (dC, dI)) (ci := 1) (v := .int x_68) (ty := .int) (C := RX1) (T := TX1) (N := 18) hx hb hts in_wsX10_ended_X1 tyX1 tyX1_ok nmX1 hown hK hP hD hS q_59 hq_59 rfl 6 (by decide +kernel) (hts (.fieldLink RX10 126 "ShipOffice$Agreement" "offDay" "I") iw_X10_ended_7) (fun _ h9 => h9) rfl (by decide +kernel) rfl rfl (Nat.le_of_ble_eq_true rfl) dX10_ended_98 (fun H locs hP1 hD1 hS => ?_)
                    obtain ⟨S_69, eS_69⟩ : ∃ zq, zq = setI S_45 b_56 6 x_68 := ⟨_, rfl⟩
                    have hP : va_P (dC, dI) vwCl (oW cq S_69) H := by rw [eS_69]; exact cP (oset tb_56.1 hq_59 hD rfl (he_1_6 tb_56.2) neI) hP1
                    have hD : va_D A (oW cq S_69) := by rw [eS_69]; exact cD (oset tb_56.1 hq_59 hD rfl (he_1_6 tb_56.2) neI) hD1
                    clear hP1 hD1
                    have hIS_69 : oInv S_69 := by rw [eS_69]; exact oInv.I0 (k := 1) (lo := -2147483648) (hi := 2147483647) hIS_45 tb_56.2 (by decide +kernel) rfl rfl rfl (iv_all _)
                    have XS_69 : oX [106] S_45 S_69 := by rw [eS_69]; exact oX.I (k := 1) (key := 106) tb_56.2 rfl (List.mem_singleton.mpr rfl)
                    have pk_70 : oP S_69 b_56 1 = some avb_56 := by rw [eS_69]; exact fSb_56
                    have X_71 : oX [106, 904, 2107] Z S_69 := oX.st YS_45 XS_69 (by decide +kernel)
                    have g_72 : (oI S_69 b_6 4).toInt = (oI S_45 b_6 4).toInt := by rw [eS_69, setI_oth (ty_ne (oX.ty XS_45 (oX.ty XS_36 tb_6)) tb_56 (by decide +kernel))]
                    have g_73 : (oI S_69 b_6 8).toInt = (oI S_45 b_6 8).toInt := by rw [eS_69, setI_oth (ty_ne (oX.ty XS_45 (oX.ty XS_36 tb_6)) tb_56 (by decide +kernel))]
                    have g_74 : (oI S_69 o 0).toInt = (oI S_45 o 0).toInt := by rw [eS_69, setI_oth (ty_ne t_46 tb_56 (by decide +kernel))]
                    have g_75 : (oI S_69 o 6).toInt = (oI S_45 o 6).toInt := by rw [eS_69, setI_oth (ty_ne t_46 tb_56 (by decide +kernel))]
                    obtain ⟨x_76, ex_76⟩ : ∃ zq : Int32, y_44 + 1 = zq := ⟨_, rfl⟩
                    have hx_76 : x_76.toInt = y_44.toInt + 1 := (iv_to ex_76).symm.trans (ad_i rfl (by decide +kernel) (by omega) (by omega))
                    refine lv_iinc (v := x_76) (lv' := [(4, .int x_76), (6, .ref b_56), (5, .int y_43), (3, .ref b_6), (0, .ref o), (1, .int x1), (2, .int x2)]) hx hb dX10_ended_101 hl (k := 2) rfl ex_76 (by decide +kernel) rfl (fun ls hl => ?_)
                    clear ex_76
                    exact cut_50 x_76 S_69 _ _ ls (by omega) (enO_t hq0_cut_42 rfl ⟨by omega, by omega⟩ ejb_56 (ty_ne tb_56 (oX.ty XS_45 (oX.ty XS_36 tb_6)) (by decide +kernel)) (Int32.toInt_inj.mp (by omega)) eS_69 (by omega)) (by omega) (by omega) hIS_69 (oX.st oX.rf XS_69 (by decide +kernel)) hP hD hS (lv_sub hl [0, 2, 3, 4, 5, 6] rfl)
          have kc_77 : (0 : Int32).toInt = 0 := by decide
          exact cut_42 61 0 0 S_36 _ _ ls (by omega) (by decide +kernel) (by decide +kernel) ⟨enU_0 (by decide +kernel) eS_36, (by rw [show (0 : Int32).toNatClampNeg = 0 from by decide]; exact (by decide : (0 : Int32).toInt = 0))⟩ (by decide +kernel) (by omega) (by have rc : (0 : Int32).toInt = 0 := (by decide +kernel); omega) hIS_36 oX.rf hP hD hS (lv_sub hl [0, 1, 2, 3, 4, 5] rfl)
        · have dc_35 := c_ne (a := x_34.toInt) (b := 1000000) rfl (by decide +kernel) c_35
          refine lv_aload_n hx hb dX10_ended_39 rfl (lv_at hl 1 rfl) ?_
          refine lv_bipush (v := (-3)) hx hb dX10_ended_40 (by decide +kernel) ?_
          have hFc := o_free hD hS hA
          refine va_calli (va_runV (As := [.int (-3)]) (rest := []) ⟨hx, hb, hml, hown, hts⟩ (c_X10_refuse_c l dC dI H.size cq Z gI o to (-3) (by decide +kernel)) (cwV 1 hts gX10_ended_X10_refuse rfl rfl rfl (by decide +kernel) ⟨(Nat.le_of_ble_eq_true rfl), (Nat.le_of_ble_eq_true rfl)⟩) (pr_V (r := (RX10, TX10, 16)) hP hK hD q_1 10 rfl hq_1) rfl rfl hl.1 rfl (lv_room (Nat.le_of_ble_eq_true rfl)) dX10_ended_42 ⟨(Nat.le_of_ble_eq_true rfl), (Nat.le_of_ble_eq_true rfl)⟩) hS (fun q _ h => hFc q h) hFc (fun r_79 u t H locs ht hvm w_78 hB hz1 hk1 hS => ?_)
          obtain ⟨S_80, rfl⟩ : ∃ z, z = u := ⟨_, rfl⟩
          obtain ⟨hP1, hK1, hD1⟩ := hB
          rw [ht] at hP1
          have hP : va_P (dC, dI) vwCl (oW cq S_80) H := hP1
          have hD : va_D A (oW cq S_80) := hD1.weaken (fun _ _ _ h => hFc _ h)
          clear hP1 hK1 hD1 hk1 hz1 hvm ht hFc
          obtain ⟨hIS_80, XS_80, hb_81, hx_82⟩ := w_78
          have X_83 : oX [106, 904, 2107] Z S_80 := oX.st oX.rf XS_80 (by decide +kernel)
          have g_84 : (oI S_80 b_6 4).toInt = (oI Z b_6 4).toInt := by rw [oX.i XS_80 tb_6 (by decide +kernel)]
          have g_85 : (oI S_80 b_6 8).toInt = (oI Z b_6 8).toInt := by rw [oX.i XS_80 tb_6 (by decide +kernel)]
          have g_86 : (oI S_80 o 0).toInt = (oI Z o 0).toInt := by rw [oX.i XS_80 to (by decide +kernel)]
          have g_87 : (oI S_80 o 6).toInt = (oI Z o 6).toInt := by rw [oX.i XS_80 to (by decide +kernel)]
          have rf_88 : r_79.toInt = -3 := by rw [hx_82.1]; decide
          exact W.iret (v := r_79) hx hb hr (fun t ht hW => ⟨⟨r_79, S_80, rfl, ⟨hIS_80, X_83, ⟨by unfold aEn; omega, (Or.inl ⟨by omega, by rw [hx_82.1]; exact hx_82.2⟩)⟩⟩, ⟨by rw [ht]; exact hP, va_K.moved hW.alike hK, hD⟩⟩, hS.F ht⟩) hS.2.2 dX10_ended_45
    · have dc_20 := c_eq (a := r_17.toInt) (b := 0) rfl (by decide +kernel) c_20
      refine lv_aload_n hx hb dX10_ended_17 rfl (lv_at hl 1 rfl) ?_
      refine lv_iconst (v := (-1)) hx hb dX10_ended_18 (by decide +kernel) ?_
      have hFc := o_free hD hS hA
      refine va_calli (va_runV (As := [.int (-1)]) (rest := []) ⟨hx, hb, hml, hown, hts⟩ (c_X10_refuse_c l dC dI H.size cq Z gI o to (-1) (by decide +kernel)) (cwV 1 hts gX10_ended_X10_refuse rfl rfl rfl (by decide +kernel) ⟨(Nat.le_of_ble_eq_true rfl), (Nat.le_of_ble_eq_true rfl)⟩) (pr_V (r := (RX10, TX10, 16)) hP hK hD q_1 10 rfl hq_1) rfl rfl hl.1 rfl (lv_room (Nat.le_of_ble_eq_true rfl)) dX10_ended_19 ⟨(Nat.le_of_ble_eq_true rfl), (Nat.le_of_ble_eq_true rfl)⟩) hS (fun q _ h => hFc q h) hFc (fun r_90 u t H locs ht hvm w_89 hB hz1 hk1 hS => ?_)
      obtain ⟨S_91, rfl⟩ : ∃ z, z = u := ⟨_, rfl⟩
      obtain ⟨hP1, hK1, hD1⟩ := hB
      rw [ht] at hP1
      have hP : va_P (dC, dI) vwCl (oW cq S_91) H := hP1
      have hD : va_D A (oW cq S_91) := hD1.weaken (fun _ _ _ h => hFc _ h)
      clear hP1 hK1 hD1 hk1 hz1 hvm ht hFc
      obtain ⟨hIS_91, XS_91, hb_92, hx_93⟩ := w_89
      have X_94 : oX [106, 904, 2107] Z S_91 := oX.st oX.rf XS_91 (by decide +kernel)
      have g_95 : (oI S_91 o 0).toInt = (oI Z o 0).toInt := by rw [oX.i XS_91 to (by decide +kernel)]
      have g_96 : (oI S_91 o 6).toInt = (oI Z o 6).toInt := by rw [oX.i XS_91 to (by decide +kernel)]
      have rf_97 : r_90.toInt = -1 := by rw [hx_93.1]; decide
      exact W.iret (v := r_90) hx hb hr (fun t ht hW => ⟨⟨r_90, S_91, rfl, ⟨hIS_91, X_94, ⟨by unfold aEn; omega, (Or.inl ⟨by omega, by rw [hx_93.1]; exact hx_93.2⟩)⟩⟩, ⟨by rw [ht]; exact hP, va_K.moved hW.alike hK, hD⟩⟩, hS.F ht⟩) hS.2.2 dX10_ended_22
