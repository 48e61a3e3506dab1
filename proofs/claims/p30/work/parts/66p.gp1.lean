


set_option maxHeartbeats 4000000 in
set_option maxRecDepth 100000 in
theorem c_X6_digitsApart_c (l : Launch) (dC : Nat → ClassId) (dI : Nat → Nat → Nat) (sz : Nat) (x1 : Int32) (hx1 : 0 ≤ x1.toInt ∧ x1.toInt ≤ 99999) (x2 : Int32) (hx2 : 0 ≤ x2.toInt ∧ x2.toInt ≤ 99999) : Met l yX6_digitsApart wsX6_digitsApart ({ frames := 0, cells := 0, slots := 0, locals := 0 }) (va_Pc [.int x1, .int x2] (pcW (dC, dI) [] [] sz)) (va_Qi (fun (r : Int32) (u : Unit) => (0 ≤ r.toInt ∧ r.toInt ≤ 5) ∧ (r.toInt = dga 5 x1.toInt x2.toInt)) (fun _ _ => True) (va_A [] sz)) 0 0 (va_A [] sz) := by
  refine Met.ofW (cc := cX6_digitsApart) (maxL := 6) (ret := (some .int)) (by decide) rfl ?_
  intro p e s m args below meth c s₁ B hml hv
  obtain ⟨rfl, hsz, hP, hK, hD0⟩ := hv
  have hx := B.exec
  have hb := B.bytes
  have hr := B.returns
  have hts := atoms_spec (ws := wsX6_digitsApart) B.pre
  have hown : s.vm.findClass RX6 = some m.cls := findClass_of_methodNamed B.named
  have hlocks := B.notSynchronized
  subst hsz
  have hD := hD0
  generalize hAe : va_A [] s.heap.size = A at ⊢
  have hA : ∀ q : Nat, s.heap.size ≤ q → A q := fun q h => by rw [← hAe]; exact Or.inr h
  have hS : va_S A s.heap s.heap [] := va_S.rf
  have hP : va_P (dC, dI) vwCl [] s.heap := hP
  have hl := lv_entry ([.int x1, .int x2]) (n := 6) (Nat.le_of_ble_eq_true rfl)
  rw [lg_entry_eq]
  generalize (lg_sl ([.int x1, .int x2]) ++ List.replicate (6 - (lg_sl ([.int x1, .int x2])).length) Slot.unset).toArray = ls at hl ⊢
  have hl : lv_has ls 6 [(0, .int x1), (1, .int x2)] := hl
  refine lv_iconst (v := 0) hx hb dX6_digitsApart_0 (by decide) ?_
  refine lv_istore_n (lv' := [(2, .int 0), (0, .int x1), (1, .int x2)]) hx hb dX6_digitsApart_1 rfl hl (by decide) rfl (fun ls hl => ?_)
  refine lv_iload_n hx hb dX6_digitsApart_2 rfl (lv_at hl 1 rfl) ?_
  refine lv_istore_n (lv' := [(3, .int x1), (2, .int 0), (0, .int x1), (1, .int x2)]) hx hb dX6_digitsApart_3 rfl hl (by decide) rfl (fun ls hl => ?_)
  refine lv_iload_n hx hb dX6_digitsApart_4 rfl (lv_at hl 3 rfl) ?_
  refine lv_istore (lv' := [(4, .int x2), (3, .int x1), (2, .int 0), (0, .int x1), (1, .int x2)]) hx hb dX6_digitsApart_5 hl (by decide) rfl (fun ls hl => ?_)
  refine lv_iconst (v := 0) hx hb dX6_digitsApart_7 (by decide) ?_
  refine lv_istore (lv' := [(5, .int 0), (4, .int x2), (3, .int x1), (2, .int 0), (0, .int x1), (1, .int x2)]) hx hb dX6_digitsApart_8 hl (by decide) rfl (fun ls hl => ?_)
  have cut_1 : ∀ (n : Nat) (y_2 : Int32) (y_3 : Int32) (y_4 : Int32) (y_5 : Int32) (H : Heap) (locs : List Loc) (ls : Array Slot), 5 - y_5.toInt ≤ (n : Int) → (0 ≤ y_2.toInt ∧ y_2.toInt ≤ 5) → (0 ≤ y_3.toInt ∧ y_3.toInt ≤ 99999) → (0 ≤ y_4.toInt ∧ y_4.toInt ≤ 99999) → (0 ≤ y_5.toInt ∧ y_5.toInt ≤ 5) → y_2.toInt + dga (5 - y_5.toNatClampNeg) y_3.toInt y_4.toInt = dga 5 x1.toInt x2.toInt → y_2.toInt ≤ y_5.toInt → va_P (dC, dI) vwCl [] H → va_S A s.heap H locs → lv_has ls 6 [(2, .int y_2), (3, .int y_3), (4, .int y_4), (5, .int y_5), (0, .int x1), (1, .int x2)] → W p l e (headSpec wsX6_digitsApart { frames := 0, cells := 0, slots := 0, locals := 0 }).room s m #[Value.int x1, Value.int x2] below meth c H locs 0 0 (MQ below (va_Qi (fun (r : Int32) (u : Unit) => (0 ≤ r.toInt ∧ r.toInt ≤ 5) ∧ (r.toInt = dga 5 x1.toInt x2.toInt)) (fun _ _ => True) A) #[Value.int x1, Value.int x2] s 0 0 A) (F0 m 10 ls []) := by
    intro n
    induction n using Nat.strongRecOn with
    | ind n ih =>
      intro y_2 y_3 y_4 y_5 H locs ls hm hy_2 hy_3 hy_4 hy_5 hq0_cut_1 hq1_cut_1 hP hS hl
      refine lv_iload hx hb dX6_digitsApart_10 (lv_at hl 3 rfl) ?_
      refine lv_iconst (v := 5) hx hb dX6_digitsApart_12 (by decide) ?_
      refine lv_icmp_ge (tgt := 49) hx hb dX6_digitsApart_13 (by decide) (fun c_6 => ?_) (fun c_6 => ?_)
      · have dc_6 := c_le (a := 5) (b := y_5.toInt) (by decide) rfl c_6
        refine lv_iload_n hx hb dX6_digitsApart_49 rfl (lv_at hl 0 rfl) ?_
        exact W.iret (v := y_2) hx hb hr (fun t ht hW => ⟨⟨y_2, (), rfl, ⟨(by omega), (dgA_e hq0_cut_1 (show y_5.toInt.toNat = 5 by omega))⟩, trivial⟩, hS.F ht⟩) hS.2.2 dX6_digitsApart_50
      · have dc_6 := c_nle (a := 5) (b := y_5.toInt) (by decide) rfl c_6
        refine lv_iload_n hx hb dX6_digitsApart_16 rfl (lv_at hl 1 rfl) ?_
        refine lv_bipush (v := 10) hx hb dX6_digitsApart_17 (by decide) ?_
        refine lv_irem hx hb dX6_digitsApart_19 (by decide) ?_
        refine lv_topi (fun x_7 ex_7 => ?_)
        have hx_7 : x_7.toInt = y_3.toInt % 10 := (iv_to ex_7).trans (rm_i (k := 10) rfl (by decide) (by omega) (by decide))
        clear ex_7
        refine lv_iload hx hb dX6_digitsApart_20 (lv_at hl 2 rfl) ?_
        refine lv_bipush (v := 10) hx hb dX6_digitsApart_22 (by decide) ?_
        refine lv_irem hx hb dX6_digitsApart_24 (by decide) ?_
        refine lv_topi (fun x_8 ex_8 => ?_)
        have hx_8 : x_8.toInt = y_4.toInt % 10 := (iv_to ex_8).trans (rm_i (k := 10) rfl (by decide) (by omega) (by decide))
        clear ex_8
        refine lv_icmp_eq (tgt := 31) hx hb dX6_digitsApart_25 (by decide) (fun c_9 => ?_) (fun c_9 => ?_)
        · have dc_9 := c_eq (a := x_7.toInt) (b := x_8.toInt) rfl rfl c_9
          refine lv_iload_n hx hb dX6_digitsApart_31 rfl (lv_at hl 1 rfl) ?_
          refine lv_bipush (v := 10) hx hb dX6_digitsApart_32 (by decide) ?_
          refine lv_idiv hx hb dX6_digitsApart_34 (by decide) ?_
          refine lv_topi (fun x_10 ex_10 => ?_)
          have hx_10 : x_10.toInt = y_3.toInt / 10 := (iv_to ex_10).trans (dv_i (k := 10) rfl (by decide) (by omega) (by decide))
          clear ex_10
          refine lv_istore_n (lv' := [(3, .int x_10), (2, .int y_2), (4, .int y_4), (5, .int y_5), (0, .int x1), (1, .int x2)]) hx hb dX6_digitsApart_35 rfl hl (by decide) rfl (fun ls hl => ?_)
          refine lv_iload hx hb dX6_digitsApart_36 (lv_at hl 2 rfl) ?_
          refine lv_bipush (v := 10) hx hb dX6_digitsApart_38 (by decide) ?_
          refine lv_idiv hx hb dX6_digitsApart_40 (by decide) ?_
          refine lv_topi (fun x_11 ex_11 => ?_)
          have hx_11 : x_11.toInt = y_4.toInt / 10 := (iv_to ex_11).trans (dv_i (k := 10) rfl (by decide) (by omega) (by decide))
          clear ex_11
          refine lv_istore (lv' := [(4, .int x_11), (3, .int x_10), (2, .int y_2), (5, .int y_5), (0, .int x1), (1, .int x2)]) hx hb dX6_digitsApart_41 hl (by decide) rfl (fun ls hl => ?_)
          obtain ⟨x_12, ex_12⟩ : ∃ zq : Int32, y_5 + 1 = zq := ⟨_, rfl⟩
          have hx_12 : x_12.toInt = y_5.toInt + 1 := (iv_to ex_12).symm.trans (ad_i rfl (by decide) (by omega) (by omega))
          refine lv_iinc (v := x_12) (lv' := [(5, .int x_12), (4, .int x_11), (3, .int x_10), (2, .int y_2), (0, .int x1), (1, .int x2)]) hx hb dX6_digitsApart_43 hl (k := 3) rfl ex_12 (by decide) rfl (fun ls hl => ?_)
          clear ex_12
          refine lv_goto (tgt := 10) hx hb dX6_digitsApart_46 (by decide) ?_
          exact ih (n - 1) (by omega) y_2 x_10 x_11 x_12 _ _ ls (by omega) (by omega) (by omega) (by omega) (by omega) (dgA_s hq0_cut_1 (show y_5.toInt.toNat < 5 by omega) (show x_12.toInt.toNat = y_5.toInt.toNat + 1 by omega) (by omega) (by omega) (by omega)) (by omega) hP hS (lv_sub hl [3, 2, 1, 0, 4, 5] rfl)
        · have dc_9 := c_ne (a := x_7.toInt) (b := x_8.toInt) rfl rfl c_9
          obtain ⟨x_13, ex_13⟩ : ∃ zq : Int32, y_2 + 1 = zq := ⟨_, rfl⟩
          have hx_13 : x_13.toInt = y_2.toInt + 1 := (iv_to ex_13).symm.trans (ad_i rfl (by decide) (by omega) (by omega))
          refine lv_iinc (v := x_13) (lv' := [(2, .int x_13), (3, .int y_3), (4, .int y_4), (5, .int y_5), (0, .int x1), (1, .int x2)]) hx hb dX6_digitsApart_28 hl (k := 0) rfl ex_13 (by decide) rfl (fun ls hl => ?_)
          clear ex_13
          refine lv_iload_n hx hb dX6_digitsApart_31 rfl (lv_at hl 1 rfl) ?_
          refine lv_bipush (v := 10) hx hb dX6_digitsApart_32 (by decide) ?_
          refine lv_idiv hx hb dX6_digitsApart_34 (by decide) ?_
          refine lv_topi (fun x_14 ex_14 => ?_)
          have hx_14 : x_14.toInt = y_3.toInt / 10 := (iv_to ex_14).trans (dv_i (k := 10) rfl (by decide) (by omega) (by decide))
          clear ex_14
          refine lv_istore_n (lv' := [(3, .int x_14), (2, .int x_13), (4, .int y_4), (5, .int y_5), (0, .int x1), (1, .int x2)]) hx hb dX6_digitsApart_35 rfl hl (by decide) rfl (fun ls hl => ?_)
          refine lv_iload hx hb dX6_digitsApart_36 (lv_at hl 2 rfl) ?_
          refine lv_bipush (v := 10) hx hb dX6_digitsApart_38 (by decide) ?_
          refine lv_idiv hx hb dX6_digitsApart_40 (by decide) ?_
          refine lv_topi (fun x_15 ex_15 => ?_)
          have hx_15 : x_15.toInt = y_4.toInt / 10 := (iv_to ex_15).trans (dv_i (k := 10) rfl (by decide) (by omega) (by decide))
          clear ex_15
          refine lv_istore (lv' := [(4, .int x_15), (3, .int x_14), (2, .int x_13), (5, .int y_5), (0, .int x1), (1, .int x2)]) hx hb dX6_digitsApart_41 hl (by decide) rfl (fun ls hl => ?_)
          obtain ⟨x_16, ex_16⟩ : ∃ zq : Int32, y_5 + 1 = zq := ⟨_, rfl⟩
          have hx_16 : x_16.toInt = y_5.toInt + 1 := (iv_to ex_16).symm.trans (ad_i rfl (by decide) (by omega) (by omega))
          refine lv_iinc (v := x_16) (lv' := [(5, .int x_16), (4, .int x_15), (3, .int x_14), (2, .int x_13), (0, .int x1), (1, .int x2)]) hx hb dX6_digitsApart_43 hl (k := 3) rfl ex_16 (by decide) rfl (fun ls hl => ?_)
          clear ex_16
          refine lv_goto (tgt := 10) hx hb dX6_digitsApart_46 (by decide) ?_
          exact ih (n - 1) (by omega) x_13 x_14 x_15 x_16 _ _ ls (by omega) (by omega) (by omega) (by omega) (by omega) (dgA_s hq0_cut_1 (show y_5.toInt.toNat < 5 by omega) (show x_16.toInt.toNat = y_5.toInt.toNat + 1 by omega) (by omega) (by omega) (by omega)) (by omega) hP hS (lv_sub hl [3, 2, 1, 0, 4, 5] rfl)
  have kc_17 : (0 : Int32).toInt = 0 := by decide
  exact cut_1 6 0 x1 x2 0 _ _ ls (by omega) (by decide) (by omega) (by omega) (by decide) (dgA_0 (by decide) (by decide) (by omega) (by omega)) (by decide) hP hS (lv_sub hl [3, 2, 1, 0, 4, 5] rfl)
set_option maxHeartbeats 4000000 in
set_option maxRecDepth 100000 in
theorem c_X6_isAlike_c (l : Launch) (dC : Nat → ClassId) (dI : Nat → Nat → Nat) (sz : Nat) (cq : Nat → ClassId) (Z : oS) (gI : oInv Z) (o : Nat) (to : oty Z o 6) (a1 : Nat) (ta1 : oty Z a1 6) (hm1 : 0 ≤ (oI Z o 2).toInt ∧ (oI Z o 2).toInt ≤ 99999) (hm2 : 0 ≤ (oI Z a1 2).toInt ∧ (oI Z a1 2).toInt ≤ 99999) : Met l yX6_isAlike wsX6_isAlike ({ frames := 1, cells := 0, slots := 0, locals := 25 }) (va_Pc [.ref o, .ref a1] (pcW (dC, dI) (oT cq) (oW cq Z) sz)) (va_Qi (fun (r : Int32) (u : Unit) => (0 ≤ r.toInt ∧ r.toInt ≤ 1) ∧ (r.toInt = b01 (alO Z o a1))) (fun _ _ => True) (va_A [] sz)) 0 0 (va_A [] sz) := by
  refine Met.ofW (cc := cX6_isAlike) (maxL := 2) (ret := (some .boolean)) (by decide) rfl ?_
  intro p e s m args below meth c s₁ B hml hv
  obtain ⟨rfl, hsz, hP, hK, hD0⟩ := hv
  have hx := B.exec
  have hb := B.bytes
  have hr := B.returns
  have hts := atoms_spec (ws := wsX6_isAlike) B.pre
  have hown : s.vm.findClass RX6 = some m.cls := findClass_of_methodNamed B.named
  have hlocks := B.notSynchronized
  subst hsz
  have hD := hD0
  generalize hAe : va_A [] s.heap.size = A at ⊢
  have hA : ∀ q : Nat, s.heap.size ≤ q → A q := fun q h => by rw [← hAe]; exact Or.inr h
  have hS : va_S A s.heap s.heap [] := va_S.rf
  have hP : va_P (dC, dI) vwCl (oW cq Z) s.heap := hP
  have hl := lv_entry ([.ref o, .ref a1]) (n := 2) (Nat.le_of_ble_eq_true rfl)
  rw [lg_entry_eq]
  generalize (lg_sl ([.ref o, .ref a1]) ++ List.replicate (2 - (lg_sl ([.ref o, .ref a1])).length) Slot.unset).toArray = ls at hl ⊢
  have hl : lv_has ls 2 [(0, .ref o), (1, .ref a1)] := hl
  refine lv_aload_n hx hb dX6_isAlike_0 rfl (lv_at hl 0 rfl) ?_
  obtain ⟨q_1, hq_1⟩ := og (cq := cq) to.1 (oE_6 to.2)
  refine va_get (D := (dC, dI)) (ci := 6) (v := .int (oI Z o 2)) (C := RX6) (T := TX6) (N := 6) hx hb hts in_wsX6_isAlike_X6 hown hK hP q_1 hq_1 rfl 2 (by decide) (hts (.fieldLink RX6 22 "ShipOffice$Man" "marks" "I") iw_X6_isAlike_1) (fun _ h9 => h9) rfl dX6_isAlike_1 ?_
  refine lv_topi (fun x_2 ex_2 => ?_)
  have gx_2 : x_2.toInt = (oI Z o 2).toInt := iv_to ex_2
  clear ex_2
  refine lv_aload_n hx hb dX6_isAlike_4 rfl (lv_at hl 1 rfl) ?_
  obtain ⟨q_3, hq_3⟩ := og (cq := cq) ta1.1 (oE_6 ta1.2)
  refine va_get (D := (dC, dI)) (ci := 6) (v := .int (oI Z a1 2)) (C := RX6) (T := TX6) (N := 6) hx hb hts in_wsX6_isAlike_X6 hown hK hP q_3 hq_3 rfl 2 (by decide) (hts (.fieldLink RX6 22 "ShipOffice$Man" "marks" "I") iw_X6_isAlike_1) (fun _ h9 => h9) rfl dX6_isAlike_5 ?_
  refine lv_topi (fun x_4 ex_4 => ?_)
  have gx_4 : x_4.toInt = (oI Z a1 2).toInt := iv_to ex_4
  clear ex_4
  refine lv_icmp_eq (tgt := 37) hx hb dX6_isAlike_8 (by decide) (fun c_5 => ?_) (fun c_5 => ?_)
  · have dc_5 := c_eq (a := x_2.toInt) (b := x_4.toInt) rfl rfl c_5
    refine lv_iconst (v := 1) hx hb dX6_isAlike_37 (by decide) ?_
    refine lv_goto (tgt := 42) hx hb dX6_isAlike_38 (by decide) ?_
    exact W.zret (v := 1) hx hb hr rfl (fun t ht hW => ⟨⟨1, (), rfl, ⟨(by decide), (b1_t (by unfold alO; omega))⟩, trivial⟩, hS.F ht⟩) hS.2.2 dX6_isAlike_42
  · have dc_5 := c_ne (a := x_2.toInt) (b := x_4.toInt) rfl rfl c_5
    refine lv_aload_n hx hb dX6_isAlike_11 rfl (lv_at hl 0 rfl) ?_
    refine va_get (D := (dC, dI)) (ci := 6) (v := .int (oI Z o 1)) (C := RX6) (T := TX6) (N := 6) hx hb hts in_wsX6_isAlike_X6 hown hK hP q_1 hq_1 rfl 1 (by decide) (hts (.fieldLink RX6 19 "ShipOffice$Man" "name" "I") iw_X6_isAlike_2) (fun _ h9 => h9) rfl dX6_isAlike_12 ?_
    refine lv_topi (fun x_6 ex_6 => ?_)
    have gx_6 : x_6.toInt = (oI Z o 1).toInt := iv_to ex_6
    clear ex_6
    refine lv_aload_n hx hb dX6_isAlike_15 rfl (lv_at hl 1 rfl) ?_
    refine va_get (D := (dC, dI)) (ci := 6) (v := .int (oI Z a1 1)) (C := RX6) (T := TX6) (N := 6) hx hb hts in_wsX6_isAlike_X6 hown hK hP q_3 hq_3 rfl 1 (by decide) (hts (.fieldLink RX6 19 "ShipOffice$Man" "name" "I") iw_X6_isAlike_2) (fun _ h9 => h9) rfl dX6_isAlike_16 ?_
    refine lv_topi (fun x_7 ex_7 => ?_)
    have gx_7 : x_7.toInt = (oI Z a1 1).toInt := iv_to ex_7
    clear ex_7
    refine lv_icmp_ne (tgt := 41) hx hb dX6_isAlike_19 (by decide) (fun c_8 => ?_) (fun c_8 => ?_)
    · have dc_8 := c_ne (a := x_6.toInt) (b := x_7.toInt) rfl rfl c_8
      refine lv_iconst (v := 0) hx hb dX6_isAlike_41 (by decide) ?_
      exact W.zret (v := 0) hx hb hr rfl (fun t ht hW => ⟨⟨0, (), rfl, ⟨(by decide), (b1_f (by unfold alO; omega))⟩, trivial⟩, hS.F ht⟩) hS.2.2 dX6_isAlike_42
    · have dc_8 := c_eq (a := x_6.toInt) (b := x_7.toInt) rfl rfl c_8
      refine lv_aload_n hx hb dX6_isAlike_22 rfl (lv_at hl 0 rfl) ?_
      refine va_get (D := (dC, dI)) (ci := 6) (v := .int (oI Z o 2)) (C := RX6) (T := TX6) (N := 6) hx hb hts in_wsX6_isAlike_X6 hown hK hP q_1 hq_1 rfl 2 (by decide) (hts (.fieldLink RX6 22 "ShipOffice$Man" "marks" "I") iw_X6_isAlike_1) (fun _ h9 => h9) rfl dX6_isAlike_23 ?_
      refine lv_topi (fun x_9 ex_9 => ?_)
      have gx_9 : x_9.toInt = (oI Z o 2).toInt := iv_to ex_9
      clear ex_9
      refine lv_aload_n hx hb dX6_isAlike_26 rfl (lv_at hl 1 rfl) ?_
      refine va_get (D := (dC, dI)) (ci := 6) (v := .int (oI Z a1 2)) (C := RX6) (T := TX6) (N := 6) hx hb hts in_wsX6_isAlike_X6 hown hK hP q_3 hq_3 rfl 2 (by decide) (hts (.fieldLink RX6 22 "ShipOffice$Man" "marks" "I") iw_X6_isAlike_1) (fun _ h9 => h9) rfl dX6_isAlike_27 ?_
      refine lv_topi (fun x_10 ex_10 => ?_)
      have gx_10 : x_10.toInt = (oI Z a1 2).toInt := iv_to ex_10
      clear ex_10
      have hFc : ∀ q, va_A [] s.heap.size q → A q := pu_free hS hA
      have hPc := hP.sub (ws' := []) [] rfl
      have hDc := hD.sub (ws' := []) [] (by decide) rfl
      have hKc := hK.sub (tys' := []) [] rfl
      refine va_calli (va_runS (As := [.int x_9, .int x_10]) (rest := []) ⟨hx, hb, hml, hown, hts⟩ (c_X6_digitsApart_c l dC dI s.heap.size  x_9 (by omega) x_10 (by omega)) (va_cwS 2 hts gX6_isAlike_X6_digitsApart rfl rfl rfl (by decide +kernel) ⟨(Nat.le_of_ble_eq_true rfl), (Nat.le_of_ble_eq_true rfl)⟩) (pr_S hPc hKc hDc) rfl rfl hl.1 rfl (lv_room (Nat.le_of_ble_eq_true rfl)) dX6_isAlike_30 ⟨(Nat.le_of_ble_eq_true rfl), (Nat.le_of_ble_eq_true rfl)⟩) hS (fun q _ h => hFc q h) hFc (fun r_12 u t H locs ht hvm w_11 hB hz1 hk1 hS => ?_)
      have hP := pu_keep hP hk1
      clear hk1 hz1 hvm hB ht hFc hPc hDc hKc
      obtain ⟨hb_13, hx_14⟩ := w_11
      rw [gx_9] at hx_14
      rw [gx_10] at hx_14
      refine lv_iconst (v := 1) hx hb dX6_isAlike_33 (by decide) ?_
      refine lv_icmp_gt (tgt := 41) hx hb dX6_isAlike_34 (by decide) (fun c_15 => ?_) (fun c_15 => ?_)
      · have dc_15 := c_lt (a := 1) (b := r_12.toInt) (by decide) rfl c_15
        refine lv_iconst (v := 0) hx hb dX6_isAlike_41 (by decide) ?_
        exact W.zret (v := 0) hx hb hr rfl (fun t ht hW => ⟨⟨0, (), rfl, ⟨(by decide), (b1_f (by unfold alO; omega))⟩, trivial⟩, hS.F ht⟩) hS.2.2 dX6_isAlike_42
      · have dc_15 := c_nlt (a := 1) (b := r_12.toInt) (by decide) rfl c_15
        refine lv_iconst (v := 1) hx hb dX6_isAlike_37 (by decide) ?_
        refine lv_goto (tgt := 42) hx hb dX6_isAlike_38 (by decide) ?_
        exact W.zret (v := 1) hx hb hr rfl (fun t ht hW => ⟨⟨1, (), rfl, ⟨(by decide), (b1_t (by unfold alO; omega))⟩, trivial⟩, hS.F ht⟩) hS.2.2 dX6_isAlike_42
set_option maxHeartbeats 4000000 in
set_option maxRecDepth 100000 in
theorem c_X10_mergeGroups_c (l : Launch) (dC : Nat → ClassId) (dI : Nat → Nat → Nat) (sz : Nat) (cq : Nat → ClassId) (Z : oS) (gI : oInv Z) (o : Nat) (to : oty Z o 10) (x1 : Int32) (x2 : Int32) (hB : moB Z o) : Met l yX10_mergeGroups wsX10_mergeGroups ({ frames := 1, cells := 0, slots := 0, locals := 16 }) (va_Pc [.ref o, .int x1, .int x2] (pcW (dC, dI) (oT cq) (oW cq Z) sz)) (va_Qv (fun (u : oS) => oInv u ∧ oX [605] Z u ∧ (∀ m, m < nM Z o → lbO u o m = mrg (lbO Z o) x1.toInt x2.toInt m)) (fun u t => va_P (dC, dI) vwCl (oW cq u) t.heap ∧ va_K (dC, dI) vwCl (oT cq) t ∧ va_D (va_A (oW cq Z) sz) (oW cq u)) (va_A (oW cq Z) sz)) 0 0 (va_A (oW cq Z) sz) := by
  refine Met.ofW (cc := cX10_mergeGroups) (maxL := 6) (ret := none) (by decide) rfl ?_
  intro p e s m args below meth c s₁ B hml hv
  obtain ⟨rfl, hsz, hP, hK, hD0⟩ := hv
  have hx := B.exec
  have hb := B.bytes
  have hr := B.returns
  have hts := atoms_spec (ws := wsX10_mergeGroups) B.pre
  have hown : s.vm.findClass RX10 = some m.cls := findClass_of_methodNamed B.named
  have hlocks := B.notSynchronized
  subst hsz
  have hD := hD0.self (sz := s.heap.size)
  generalize hAe : va_A (oW cq Z) s.heap.size = A at hD ⊢
  have hA : ∀ q : Nat, s.heap.size ≤ q → A q := fun q h => by rw [← hAe]; exact Or.inr h
  have hS : va_S A s.heap s.heap [] := va_S.rf
  have hP : va_P (dC, dI) vwCl (oW cq Z) s.heap := hP
  have hl := lv_entry ([.ref o, .int x1, .int x2]) (n := 6) (Nat.le_of_ble_eq_true rfl)
  rw [lg_entry_eq]
  generalize (lg_sl ([.ref o, .int x1, .int x2]) ++ List.replicate (6 - (lg_sl ([.ref o, .int x1, .int x2])).length) Slot.unset).toArray = ls at hl ⊢
  have hl : lv_has ls 6 [(0, .ref o), (1, .int x1), (2, .int x2)] := hl
  refine lv_iload_n hx hb dX10_mergeGroups_0 rfl (lv_at hl 1 rfl) ?_
  refine lv_iload_n hx hb dX10_mergeGroups_1 rfl (lv_at hl 2 rfl) ?_
  refine va_mmin hx hb (by rw [hml]; exact hl.1.symm) hown (hts (.methodLink RX10 378 Lib.Math.min.name) iw_X10_mergeGroups_1) (hts (.static Lib.Math.min.name) iw_X10_mergeGroups_2) (hts (.initialized "java/lang/Math") iw_X10_mergeGroups_3) (hts (.code Lib.Math.min.name Lib.Math.min.code 2 (some .int)) (by decide +kernel)) (Nat.le_of_ble_eq_true rfl) (Nat.le_of_ble_eq_true rfl) (Nat.le_of_ble_eq_true rfl) (Nat.le_of_ble_eq_true rfl) dX10_mergeGroups_2 ?_
  refine lv_topi (fun x_1 ex_1 => ?_)
  have hx_1 := mmin_i ex_1
  clear ex_1
  refine lv_istore_n (lv' := [(3, .int x_1), (0, .ref o), (1, .int x1), (2, .int x2)]) hx hb dX10_mergeGroups_5 rfl hl (by decide) rfl (fun ls hl => ?_)
  refine lv_iload_n hx hb dX10_mergeGroups_6 rfl (lv_at hl 2 rfl) ?_
  refine lv_iload_n hx hb dX10_mergeGroups_7 rfl (lv_at hl 3 rfl) ?_
  refine va_mmax hx hb (by rw [hml]; exact hl.1.symm) hown (hts (.methodLink RX10 383 Lib.Math.max.name) iw_X10_mergeGroups_4) (hts (.static Lib.Math.max.name) iw_X10_mergeGroups_5) (hts (.initialized "java/lang/Math") iw_X10_mergeGroups_3) (hts (.code Lib.Math.max.name Lib.Math.max.code 2 (some .int)) (by decide +kernel)) (Nat.le_of_ble_eq_true rfl) (Nat.le_of_ble_eq_true rfl) (Nat.le_of_ble_eq_true rfl) (Nat.le_of_ble_eq_true rfl) dX10_mergeGroups_8 ?_
  refine lv_topi (fun x_2 ex_2 => ?_)
  have hx_2 := mmax_i ex_2
  clear ex_2
  refine lv_istore (lv' := [(4, .int x_2), (3, .int x_1), (0, .ref o), (1, .int x1), (2, .int x2)]) hx hb dX10_mergeGroups_11 hl (by decide) rfl (fun ls hl => ?_)
  refine lv_iconst (v := 0) hx hb dX10_mergeGroups_13 (by decide) ?_
  refine lv_istore (lv' := [(5, .int 0), (4, .int x_2), (3, .int x_1), (0, .ref o), (1, .int x1), (2, .int x2)]) hx hb dX10_mergeGroups_14 hl (by decide) rfl (fun ls hl => ?_)
  have cut_3 : ∀ (n : Nat) (y_4 : Int32) (S_5 : oS) (H : Heap) (locs : List Loc) (ls : Array Slot), 40 - y_4.toInt ≤ (n : Int) → (0 ≤ y_4.toInt ∧ y_4.toInt ≤ 40) → mgI Z S_5 o (nM Z o) x1.toInt x2.toInt y_4.toNatClampNeg → oInv S_5 → oX [605] Z S_5 → va_P (dC, dI) vwCl (oW cq S_5) H → va_D A (oW cq S_5) → va_S A s.heap H locs → lv_has ls 6 [(5, .int y_4), (4, .int x_2), (3, .int x_1), (0, .ref o), (1, .int x1), (2, .int x2)] → W p l e (headSpec wsX10_mergeGroups { frames := 1, cells := 0, slots := 0, locals := 16 }).room s m #[Value.ref o, Value.int x1, Value.int x2] below meth c H locs 0 0 (MQ below (va_Qv (fun (u : oS) => oInv u ∧ oX [605] Z u ∧ (∀ m, m < nM Z o → lbO u o m = mrg (lbO Z o) x1.toInt x2.toInt m)) (fun u t => va_P (dC, dI) vwCl (oW cq u) t.heap ∧ va_K (dC, dI) vwCl (oT cq) t ∧ va_D A (oW cq u)) A) #[Value.ref o, Value.int x1, Value.int x2] s 0 0 A) (F0 m 16 ls []) := by
    intro n
    induction n using Nat.strongRecOn with
    | ind n ih =>
      intro y_4 S_5 H locs ls hm hy_4 hq0_cut_3 hIS_5 XS_5 hP hD hS hl
      have YS_5 : oX [605] Z S_5 := oX.st oX.rf XS_5 (fun _ q => q)
      have g_6 : (oI S_5 o 2).toInt = (oI Z o 2).toInt := by rw [oX.i (W := [605]) (oX.st oX.rf XS_5 (by decide)) to (by decide)]
      refine lv_iload hx hb dX10_mergeGroups_16 (lv_at hl 0 rfl) ?_
      refine lv_aload_n hx hb dX10_mergeGroups_18 rfl (lv_at hl 3 rfl) ?_
      have t_7 : oty S_5 o 10 := (oX.ty XS_5 to)
      obtain ⟨q_8, hq_8⟩ := og (cq := cq) t_7.1 (oE_10 t_7.2)
      refine va_get (D := (dC, dI)) (ci := 10) (v := .int (oI S_5 o 2)) (C := RX10) (T := TX10) (N := 16) hx hb hts in_wsX10_mergeGroups_X10 hown hK hP q_8 hq_8 rfl 2 (by decide) (hts (.fieldLink RX10 86 "ShipOffice" "manCount" "I") iw_X10_mergeGroups_6) (fun _ h9 => h9) rfl dX10_mergeGroups_19 ?_
      refine lv_topi (fun x_9 ex_9 => ?_)
      have hx_9 : 0 ≤ x_9.toInt ∧ x_9.toInt ≤ 40 := iv_of ex_9 (oInv.iv hIS_5 t_7.2 rfl rfl)
      have gx_9 : x_9.toInt = (oI S_5 o 2).toInt := iv_to ex_9
      clear ex_9
      refine lv_icmp_ge (tgt := 57) hx hb dX10_mergeGroups_22 (by decide) (fun c_10 => ?_) (fun c_10 => ?_)
      · have dc_10 := c_le (a := x_9.toInt) (b := y_4.toInt) rfl rfl c_10
        exact W.vret hx hb hr (fun t ht hW => ⟨⟨S_5, rfl, ⟨hIS_5, YS_5, (mgI_e hq0_cut_3 (show (oI Z o 2).toInt.toNat ≤ y_4.toInt.toNat by omega))⟩, ⟨by rw [ht]; exact hP, va_K.moved hW.alike hK, hD⟩⟩, hS.F ht⟩) hS.2.2 dX10_mergeGroups_57
      · have dc_10 := c_nle (a := x_9.toInt) (b := y_4.toInt) rfl rfl c_10
        refine lv_aload_n hx hb dX10_mergeGroups_25 rfl (lv_at hl 3 rfl) ?_
        obtain ⟨b_11, hb_11⟩ := oInv.nn (i := 1) hIS_5 t_7 rfl
        refine va_get (D := (dC, dI)) (ci := 10) (v := .ref b_11) (C := RX10) (T := TX10) (N := 16) hx hb hts in_wsX10_mergeGroups_X10 hown hK hP q_8 hq_8 rfl 1 (by decide) (hts (.fieldLink RX10 11 "ShipOffice" "men" "[LShipOffice$Man;") iw_X10_mergeGroups_7) (fun _ h9 => h9) (o_rd hb_11) dX10_mergeGroups_26 ?_
        have tb_11 : oty S_5 b_11 14 := oInv.rd hIS_5 t_7.2 hb_11 rfl rfl
        refine lv_iload hx hb dX10_mergeGroups_29 (lv_at hl 0 rfl) ?_
        obtain ⟨q_12, hq_12⟩ := og (cq := cq) tb_11.1 (oE_14 tb_11.2)
        refine va_aldq hx hb hK hP q_12 3 hq_12 rfl (vp_in_iff.mpr (by omega)) dX10_mergeGroups_31 ?_
        obtain ⟨b_13, hb_13⟩ := oInv.el (i := 2) (x := y_4) hIS_5 t_7 rfl hb_11 (by omega) (by omega)
        refine W.eq (g2 := F0 m 32 ls [.ref b_13]) (congrArg (fun z => F0 m 32 ls [va_rf z]) hb_13) ?_
        have tb_13 : oty S_5 b_13 6 := oInv.rd hIS_5 tb_11.2 hb_13 rfl rfl
        have ejb_13 : b_13 = mnA S_5 o y_4.toNatClampNeg := by unfold mnA; rw [oQ_e hb_11, oQ_e hb_13]
        obtain ⟨q_14, hq_14⟩ := og (cq := cq) tb_13.1 (oE_6 tb_13.2)
        refine va_get (D := (dC, dI)) (ci := 6) (v := .int (oI S_5 b_13 5)) (C := RX6) (T := TX6) (N := 6) hx hb hts in_wsX10_mergeGroups_X6 hown hK hP q_14 hq_14 rfl 5 (by decide) (hts (.fieldLink RX10 311 "ShipOffice$Man" "leastAlike" "I") iw_X10_mergeGroups_8) (fun _ h9 => h9) rfl dX10_mergeGroups_32 ?_
        refine lv_topi (fun x_15 ex_15 => ?_)
        have gx_15 : x_15.toInt = (oI S_5 b_13 5).toInt := iv_to ex_15
        clear ex_15
        refine lv_iload hx hb dX10_mergeGroups_35 (lv_at hl 1 rfl) ?_
        refine lv_icmp_ne (tgt := 51) hx hb dX10_mergeGroups_37 (by decide) (fun c_16 => ?_) (fun c_16 => ?_)
        · have dc_16 := c_ne (a := x_15.toInt) (b := x_2.toInt) rfl rfl c_16
          obtain ⟨x_17, ex_17⟩ : ∃ zq : Int32, y_4 + 1 = zq := ⟨_, rfl⟩
          have hx_17 : x_17.toInt = y_4.toInt + 1 := (iv_to ex_17).symm.trans (ad_i rfl (by decide) (by omega) (by omega))
          refine lv_iinc (v := x_17) (lv' := [(5, .int x_17), (4, .int x_2), (3, .int x_1), (0, .ref o), (1, .int x1), (2, .int x2)]) hx hb dX10_mergeGroups_51 hl (k := 0) rfl ex_17 (by decide) rfl (fun ls hl => ?_)
          clear ex_17
          refine lv_goto (tgt := 16) hx hb dX10_mergeGroups_54 (by decide) ?_
          exact ih (n - 1) (by omega) x_17 S_5 _ _ ls (by omega) (by omega) (mgI_n hq0_cut_3 (show y_4.toInt.toNat < (oI Z o 2).toInt.toNat by omega) ejb_13 (by split <;> omega) (show x_17.toInt.toNat = y_4.toInt.toNat + 1 by omega)) hIS_5 (oX.st oX.rf XS_5 (by decide)) hP hD hS (lv_sub hl [0, 1, 2, 3, 4, 5] rfl)
        · have dc_16 := c_eq (a := x_15.toInt) (b := x_2.toInt) rfl rfl c_16
          refine lv_aload_n hx hb dX10_mergeGroups_40 rfl (lv_at hl 3 rfl) ?_
          refine va_get (D := (dC, dI)) (ci := 10) (v := .ref b_11) (C := RX10) (T := TX10) (N := 16) hx hb hts in_wsX10_mergeGroups_X10 hown hK hP q_8 hq_8 rfl 1 (by decide) (hts (.fieldLink RX10 11 "ShipOffice" "men" "[LShipOffice$Man;") iw_X10_mergeGroups_7) (fun _ h9 => h9) (o_rd hb_11) dX10_mergeGroups_41 ?_
          refine lv_iload hx hb dX10_mergeGroups_44 (lv_at hl 0 rfl) ?_
          refine va_aldq hx hb hK hP q_12 3 hq_12 rfl (vp_in_iff.mpr (by omega)) dX10_mergeGroups_46 ?_
          obtain ⟨b_18, hb_18⟩ := oInv.el (i := 2) (x := y_4) hIS_5 t_7 rfl hb_11 (by omega) (by omega)
          refine W.eq (g2 := F0 m 47 ls [.ref b_18]) (congrArg (fun z => F0 m 47 ls [va_rf z]) hb_18) ?_
          have tb_18 : oty S_5 b_18 6 := oInv.rd hIS_5 tb_11.2 hb_18 rfl rfl
          have ejb_18 : b_18 = mnA S_5 o y_4.toNatClampNeg := by unfold mnA; rw [oQ_e hb_11, oQ_e hb_18]
          refine lv_iload_n hx hb dX10_mergeGroups_47 rfl (lv_at hl 2 rfl) ?_
          obtain ⟨q_19, hq_19⟩ := og (cq := cq) tb_18.1 (oE_6 tb_18.2)
          refine va_put (D := (dC, dI)) (ci := 6) (v := .int x_1) (ty := .int) (C := RX6) (T := TX6) (N := 6) hx hb hts in_wsX10_mergeGroups_X6 tyX6 tyX6_ok nmX6 hown hK hP hD hS q_19 hq_19 rfl 5 (by decide) (hts (.fieldLink RX10 311 "ShipOffice$Man" "leastAlike" "I") iw_X10_mergeGroups_8) (fun _ h9 => h9) rfl (by decide +kernel) rfl rfl (Nat.le_of_ble_eq_true rfl) dX10_mergeGroups_48 (fun H locs hP1 hD1 hS => ?_)
          obtain ⟨S_20, eS_20⟩ : ∃ zq, zq = setI S_5 b_18 5 x_1 := ⟨_, rfl⟩
          have hP : va_P (dC, dI) vwCl (oW cq S_20) H := by rw [eS_20]; exact cP (oset tb_18.1 hq_19 hD rfl (he_6_5 tb_18.2) neI) hP1
          have hD : va_D A (oW cq S_20) := by rw [eS_20]; exact cD (oset tb_18.1 hq_19 hD rfl (he_6_5 tb_18.2) neI) hD1
          clear hP1 hD1
          have hIS_20 : oInv S_20 := by rw [eS_20]; exact oInv.I0 (k := 6) (lo := -2147483648) (hi := 2147483647) hIS_5 tb_18.2 (by decide) rfl rfl rfl (iv_all _)
          have XS_20 : oX [605] S_5 S_20 := by rw [eS_20]; exact oX.I (k := 6) (key := 605) tb_18.2 rfl (List.mem_singleton.mpr rfl)
          have X_21 : oX [605] Z S_20 := oX.st YS_5 XS_20 (by decide)
          have g_22 : (oI S_20 o 2).toInt = (oI S_5 o 2).toInt := by rw [eS_20, setI_oth (ty_ne t_7 tb_18 (by decide))]
          obtain ⟨x_23, ex_23⟩ : ∃ zq : Int32, y_4 + 1 = zq := ⟨_, rfl⟩
          have hx_23 : x_23.toInt = y_4.toInt + 1 := (iv_to ex_23).symm.trans (ad_i rfl (by decide) (by omega) (by omega))
          refine lv_iinc (v := x_23) (lv' := [(5, .int x_23), (4, .int x_2), (3, .int x_1), (0, .ref o), (1, .int x1), (2, .int x2)]) hx hb dX10_mergeGroups_51 hl (k := 0) rfl ex_23 (by decide) rfl (fun ls hl => ?_)
          clear ex_23
          refine lv_goto (tgt := 16) hx hb dX10_mergeGroups_54 (by decide) ?_
          exact ih (n - 1) (by omega) x_23 S_20 _ _ ls (by omega) (by omega) (mgI_y hq0_cut_3 (show y_4.toInt.toNat < (oI Z o 2).toInt.toNat by omega) ejb_18 (mnA_o (W := [605]) XS_20 hIS_5 t_7 (by decide) (by decide)) (fun m m' h1 h2 e => hB m m' h1 h2 (by rw [mnA_o (W := [605]) (oX.st oX.rf XS_5 (by decide)) gI to (by decide) (by decide), mnA_o (W := [605]) (oX.st oX.rf XS_5 (by decide)) gI to (by decide) (by decide)] at e; exact e)) eS_20 (show (oI S_5 b_18 5).toInt = _ from by rw [ejb_18, ← ejb_13]; split <;> omega) (by split <;> omega) (show x_23.toInt.toNat = y_4.toInt.toNat + 1 by omega)) hIS_20 (oX.st (oX.st oX.rf XS_5 (by decide)) XS_20 (by decide)) hP hD hS (lv_sub hl [0, 1, 2, 3, 4, 5] rfl)
  have kc_24 : (0 : Int32).toInt = 0 := by decide
  exact cut_3 41 0 Z _ _ ls (by omega) (by decide) (mgI_0 (by decide)) gI oX.rf hP hD hS (lv_sub hl [0, 1, 2, 3, 4, 5] rfl)
