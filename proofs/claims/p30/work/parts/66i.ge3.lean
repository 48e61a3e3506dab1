


set_option maxHeartbeats 4000000 in
set_option maxRecDepth 100000 in
theorem c_X9_nextTold_c (l : Launch) (dC : Nat → ClassId) (dI : Nat → Nat → Nat) (sz : Nat) (cq : Nat → ClassId) (Z : oS) (gI : oInv Z) (o : Nat) (to : oty Z o 9) (x1 : Int32) (hx1 : 0 ≤ x1.toInt ∧ x1.toInt ≤ 3000) (x2 : Int32) (h0 : Nat) (th : oty Z h0 10) (v : Nat → Int32) (fa : Nat → Nat → Int32) (hR : RC Z h0 v fa) (x : Nat) (hxv : x < (v 40).toNatClampNeg) (ex : o = voA Z h0 x) (hk3 : x2.toInt ≤ 3000) : Met l yX9_nextTold wsX9_nextTold ({ frames := 0, cells := 0, slots := 0, locals := 0 }) (va_Pc [.ref o, .int x1, .int x2] (pcW (dC, dI) (oT cq) (oW cq Z) sz)) (va_Qi (fun (r : Int32) (u : Unit) => (1 ≤ r.toInt ∧ r.toInt ≤ 1000000) ∧ (x1.toInt < r.toInt ∧ r.toInt ≤ 1000000 ∧ qV v fa (x : Int) x2.toInt x1.toInt r.toInt)) (fun _ _ => True) (va_A [] sz)) 0 0 (va_A [] sz) := by
  refine Met.ofW (cc := cX9_nextTold) (maxL := 5) (ret := (some .int)) (by decide) rfl ?_
  intro p e s m args below meth c s₁ B hml hv
  obtain ⟨rfl, hsz, hP, hK, hD0⟩ := hv
  have hx := B.exec
  have hb := B.bytes
  have hr := B.returns
  have hts := atoms_spec (ws := wsX9_nextTold) B.pre
  have hown : s.vm.findClass RX9 = some m.cls := findClass_of_methodNamed B.named
  have hlocks := B.notSynchronized
  subst hsz
  have hD := hD0
  generalize hAe : va_A [] s.heap.size = A at ⊢
  have hA : ∀ q : Nat, s.heap.size ≤ q → A q := fun q h => by rw [← hAe]; exact Or.inr h
  have hS : va_S A s.heap s.heap [] := va_S.rf
  have hP : va_P (dC, dI) vwCl (oW cq Z) s.heap := hP
  have hl := lv_entry ([.ref o, .int x1, .int x2]) (n := 5) (Nat.le_of_ble_eq_true rfl)
  rw [lg_entry_eq]
  generalize (lg_sl ([.ref o, .int x1, .int x2]) ++ List.replicate (5 - (lg_sl ([.ref o, .int x1, .int x2])).length) Slot.unset).toArray = ls at hl ⊢
  have hl : lv_has ls 5 [(0, .ref o), (1, .int x1), (2, .int x2)] := hl
  obtain ⟨fn0, fn1, fn2, fn3, fn4⟩ := RC.n hR
  have fb38 : 0 ≤ (v 38).toInt ∧ (v 38).toInt ≤ 3000 := RC.V hR 38
  have fb39 : 0 ≤ (v 39).toInt ∧ (v 39).toInt ≤ 40 := RC.V hR 39
  have fb40 : 0 ≤ (v 40).toInt ∧ (v 40).toInt ≤ 20 := RC.V hR 40
  have fb43 : 0 ≤ (v 43).toInt ∧ (v 43).toInt ≤ 60 := RC.V hR 43
  have fb41 : 0 ≤ (v 41).toInt ∧ (v 41).toInt ≤ 200 := RC.V hR 41
  have fVo := RC.vo hR hxv
  rw [← ex] at fVo
  obtain ⟨fy0o, fy1o, fy2o, fy3o, fy4o, fySo, fyLo, fyho⟩ := fVo
  have fBo : 0 ≤ (fa 7 x).toInt ∧ (fa 7 x).toInt ≤ 3000 := RC.A hR 7 _
  have fSo := onc_i fySo
  have fLo := onc_i fyLo
  refine lv_ldc (v := 1000000) hx hb hown (hts (.constant RX9 9 (1000000)) (by decide +kernel)) dX9_nextTold_0 ?_
  refine lv_istore_n (lv' := [(3, .int 1000000), (0, .ref o), (1, .int x1), (2, .int x2)]) hx hb dX9_nextTold_2 rfl hl (by decide) rfl (fun ls hl => ?_)
  have cut_1 : ∀ (y_2 : Int32) (H : Heap) (locs : List Loc) (ls : Array Slot), (1 ≤ y_2.toInt ∧ y_2.toInt ≤ 1000000) → qK v fa 0 (x : Int) x2.toInt x1.toInt y_2.toInt → qK v fa 2 (x : Int) x2.toInt x1.toInt y_2.toInt → x1.toInt < y_2.toInt → va_P (dC, dI) vwCl (oW cq Z) H → va_S A s.heap H locs → lv_has ls 5 [(3, .int y_2), (0, .ref o), (1, .int x1), (2, .int x2)] → W p l e (headSpec wsX9_nextTold { frames := 0, cells := 0, slots := 0, locals := 0 }).room s m #[Value.ref o, Value.int x1, Value.int x2] below meth c H locs 0 0 (MQ below (va_Qi (fun (r : Int32) (u : Unit) => (1 ≤ r.toInt ∧ r.toInt ≤ 1000000) ∧ (x1.toInt < r.toInt ∧ r.toInt ≤ 1000000 ∧ qV v fa (x : Int) x2.toInt x1.toInt r.toInt)) (fun _ _ => True) A) #[Value.ref o, Value.int x1, Value.int x2] s 0 0 A) (F0 m 53 ls []) := by
    intro y_2 H locs ls hy_2 hq0_cut_1 hq1_cut_1 hq2_cut_1 hP hS hl
    refine lv_aload_n hx hb dX9_nextTold_53 rfl (lv_at hl 1 rfl) ?_
    obtain ⟨q_3, hq_3⟩ := og (cq := cq) to.1 (oE_9 to.2)
    rcases hb_5 : oP Z o 9 with _ | b_4
    · refine va_get (D := (dC, dI)) (ci := 9) (v := .null) (C := RX9) (T := TX9) (N := 10) hx hb hts in_wsX9_nextTold_X9 hown hK hP q_3 hq_3 rfl 9 (by decide) (hts (.fieldLink RX9 41 "ShipOffice$Voyage" "heardOf" "LShipOffice$Happening;") iw_X9_nextTold_1) (fun _ h9 => h9) (o_rd hb_5) dX9_nextTold_54 ?_
      refine lv_astoreN (lv' := [(4, .null), (3, .int y_2), (0, .ref o), (1, .int x1), (2, .int x2)]) hx hb dX9_nextTold_57 hl (by decide) rfl (fun ls hl => ?_)
      have cut_6 : ∀ (n : Nat) (y_7 : Option Nat) (y_8 : Int32) (H : Heap) (locs : List Loc) (ls : Array Slot), (oR Z y_7 : Int) ≤ (n : Int) → (∀ b, y_7 = some b → oty Z b 3) → (1 ≤ y_8.toInt ∧ y_8.toInt ≤ 1000000) → qK v fa 0 (x : Int) x2.toInt x1.toInt y_8.toInt → qK v fa 2 (x : Int) x2.toInt x1.toInt y_8.toInt → chQ Z v fa (pV fa (x : Int)) x2.toInt x1.toInt y_8.toInt y_7 → x1.toInt < y_8.toInt → va_P (dC, dI) vwCl (oW cq Z) H → va_S A s.heap H locs → lv_has ls 5 [(4, va_rf y_7), (3, .int y_8), (0, .ref o), (1, .int x1), (2, .int x2)] → W p l e (headSpec wsX9_nextTold { frames := 0, cells := 0, slots := 0, locals := 0 }).room s m #[Value.ref o, Value.int x1, Value.int x2] below meth c H locs 0 0 (MQ below (va_Qi (fun (r : Int32) (u : Unit) => (1 ≤ r.toInt ∧ r.toInt ≤ 1000000) ∧ (x1.toInt < r.toInt ∧ r.toInt ≤ 1000000 ∧ qV v fa (x : Int) x2.toInt x1.toInt r.toInt)) (fun _ _ => True) A) #[Value.ref o, Value.int x1, Value.int x2] s 0 0 A) (F0 m 59 ls []) := by
        intro n
        induction n using Nat.strongRecOn with
        | ind n ih =>
          intro y_7 y_8 H locs ls hm ty_7 hy_8 hq0_cut_6 hq1_cut_6 hq2_cut_6 hq3_cut_6 hP hS hl
          rcases y_7 with _ | b_9
          · have hl : lv_has ls 5 [(4, .null), (3, .int y_8), (0, .ref o), (1, .int x1), (2, .int x2)] := hl
            refine lv_aloadN hx hb dX9_nextTold_59 (lv_at hl 0 rfl) ?_
            refine lv_ifnullN (tgt := 107) hx hb dX9_nextTold_61 (by decide) ?_
            refine lv_iload_n hx hb dX9_nextTold_107 rfl (lv_at hl 1 rfl) ?_
            exact W.iret (v := y_8) hx hb hr (fun t ht hW => ⟨⟨y_8, (), rfl, ⟨(by omega), ⟨by omega, by omega, qV_3 hq0_cut_6 hq1_cut_6 hq2_cut_6⟩⟩, trivial⟩, hS.F ht⟩) hS.2.2 dX9_nextTold_108
          · have hl : lv_has ls 5 [(4, .ref b_9), (3, .int y_8), (0, .ref o), (1, .int x1), (2, .int x2)] := hl
            have tb_9 : oty Z b_9 3 := ty_7 b_9 rfl
            have rb_9 : oR Z (some b_9) = oG Z b_9 + 1 := rfl
            refine lv_aload hx hb dX9_nextTold_59 (lv_at hl 0 rfl) ?_
            refine lv_ifnull hx hb dX9_nextTold_61 ?_
            refine lv_aload hx hb dX9_nextTold_64 (lv_at hl 0 rfl) ?_
            obtain ⟨q_10, hq_10⟩ := og (cq := cq) tb_9.1 (oE_3 tb_9.2)
            refine va_get (D := (dC, dI)) (ci := 3) (v := .int (oI Z b_9 2)) (C := RX3) (T := TX3) (N := 6) hx hb hts in_wsX9_nextTold_X3 hown hK hP q_10 hq_10 rfl 2 (by decide) (hts (.fieldLink RX9 45 "ShipOffice$Happening" "told" "I") iw_X9_nextTold_2) (fun _ h9 => h9) rfl dX9_nextTold_66 ?_
            refine lv_topi (fun x_11 ex_11 => ?_)
            have gx_11 : x_11.toInt = (oI Z b_9 2).toInt := iv_to ex_11
            clear ex_11
            refine lv_iload_n hx hb dX9_nextTold_69 rfl (lv_at hl 4 rfl) ?_
            refine lv_icmp_gt (tgt := 97) hx hb dX9_nextTold_70 (by decide) (fun c_12 => ?_) (fun c_12 => ?_)
            · have dc_12 := c_lt (a := x2.toInt) (b := x_11.toInt) rfl rfl c_12
              refine lv_aload hx hb dX9_nextTold_97 (lv_at hl 0 rfl) ?_
              rcases hb_14 : oP Z b_9 5 with _ | b_13
              · refine va_get (D := (dC, dI)) (ci := 3) (v := .null) (C := RX3) (T := TX3) (N := 6) hx hb hts in_wsX9_nextTold_X3 hown hK hP q_10 hq_10 rfl 5 (by decide) (hts (.fieldLink RX9 53 "ShipOffice$Happening" "before" "LShipOffice$Happening;") iw_X9_nextTold_3) (fun _ h9 => h9) (o_rd hb_14) dX9_nextTold_99 ?_
                have r_15 : oR Z none = 0 := rfl
                refine lv_astoreN (lv' := [(4, .null), (3, .int y_8), (0, .ref o), (1, .int x1), (2, .int x2)]) hx hb dX9_nextTold_102 hl (by decide) rfl (fun ls hl => ?_)
                refine lv_goto (tgt := 59) hx hb dX9_nextTold_104 (by decide) ?_
                exact ih (n - 1) (by omega) none y_8 _ _ ls (by omega) (fun b h => by cases h) (by omega) (qK_m hq0_cut_6 (by omega)) (qK_m hq1_cut_6 (by omega)) (chQ_s hq2_cut_6 hb_14 (by omega) (by intro h; omega)) (by omega) hP hS (lv_sub hl [0, 1, 2, 3, 4] rfl)
              · refine va_get (D := (dC, dI)) (ci := 3) (v := .ref b_13) (C := RX3) (T := TX3) (N := 6) hx hb hts in_wsX9_nextTold_X3 hown hK hP q_10 hq_10 rfl 5 (by decide) (hts (.fieldLink RX9 53 "ShipOffice$Happening" "before" "LShipOffice$Happening;") iw_X9_nextTold_3) (fun _ h9 => h9) (o_rd hb_14) dX9_nextTold_99 ?_
                have tb_13 : oty Z b_13 3 := oInv.rd gI tb_9.2 hb_14 rfl rfl
                have hGb_13 : oG Z b_13 < oG Z b_9 := gI.2.2.2.2.2.1 b_9 b_13 tb_9.2 hb_14
                have rb_13 : oR Z (some b_13) = oG Z b_13 + 1 := rfl
                refine lv_astore (lv' := [(4, .ref b_13), (3, .int y_8), (0, .ref o), (1, .int x1), (2, .int x2)]) hx hb dX9_nextTold_102 hl (by decide) rfl (fun ls hl => ?_)
                refine lv_goto (tgt := 59) hx hb dX9_nextTold_104 (by decide) ?_
                exact ih (n - 1) (by omega) (some b_13) y_8 _ _ ls (by omega) (fun b h => by cases h; exact tb_13) (by omega) (qK_m hq0_cut_6 (by omega)) (qK_m hq1_cut_6 (by omega)) (chQ_s hq2_cut_6 hb_14 (by omega) (by intro h; omega)) (by omega) hP hS (lv_sub hl [0, 1, 2, 3, 4] rfl)
            · have dc_12 := c_nlt (a := x2.toInt) (b := x_11.toInt) rfl rfl c_12
              refine lv_aload hx hb dX9_nextTold_73 (lv_at hl 0 rfl) ?_
              refine va_get (D := (dC, dI)) (ci := 3) (v := .int (oI Z b_9 1)) (C := RX3) (T := TX3) (N := 6) hx hb hts in_wsX9_nextTold_X3 hown hK hP q_10 hq_10 rfl 1 (by decide) (hts (.fieldLink RX9 50 "ShipOffice$Happening" "day" "I") iw_X9_nextTold_4) (fun _ h9 => h9) rfl dX9_nextTold_75 ?_
              refine lv_topi (fun x_16 ex_16 => ?_)
              have gx_16 : x_16.toInt = (oI Z b_9 1).toInt := iv_to ex_16
              clear ex_16
              refine lv_iload_n hx hb dX9_nextTold_78 rfl (lv_at hl 3 rfl) ?_
              refine lv_icmp_le (tgt := 97) hx hb dX9_nextTold_79 (by decide) (fun c_17 => ?_) (fun c_17 => ?_)
              · have dc_17 := c_le (a := x_16.toInt) (b := x1.toInt) rfl rfl c_17
                refine lv_aload hx hb dX9_nextTold_97 (lv_at hl 0 rfl) ?_
                rcases hb_19 : oP Z b_9 5 with _ | b_18
                · refine va_get (D := (dC, dI)) (ci := 3) (v := .null) (C := RX3) (T := TX3) (N := 6) hx hb hts in_wsX9_nextTold_X3 hown hK hP q_10 hq_10 rfl 5 (by decide) (hts (.fieldLink RX9 53 "ShipOffice$Happening" "before" "LShipOffice$Happening;") iw_X9_nextTold_3) (fun _ h9 => h9) (o_rd hb_19) dX9_nextTold_99 ?_
                  have r_20 : oR Z none = 0 := rfl
                  refine lv_astoreN (lv' := [(4, .null), (3, .int y_8), (0, .ref o), (1, .int x1), (2, .int x2)]) hx hb dX9_nextTold_102 hl (by decide) rfl (fun ls hl => ?_)
                  refine lv_goto (tgt := 59) hx hb dX9_nextTold_104 (by decide) ?_
                  exact ih (n - 1) (by omega) none y_8 _ _ ls (by omega) (fun b h => by cases h) (by omega) (qK_m hq0_cut_6 (by omega)) (qK_m hq1_cut_6 (by omega)) (chQ_s hq2_cut_6 hb_19 (by omega) (by intro h; omega)) (by omega) hP hS (lv_sub hl [0, 1, 2, 3, 4] rfl)
                · refine va_get (D := (dC, dI)) (ci := 3) (v := .ref b_18) (C := RX3) (T := TX3) (N := 6) hx hb hts in_wsX9_nextTold_X3 hown hK hP q_10 hq_10 rfl 5 (by decide) (hts (.fieldLink RX9 53 "ShipOffice$Happening" "before" "LShipOffice$Happening;") iw_X9_nextTold_3) (fun _ h9 => h9) (o_rd hb_19) dX9_nextTold_99 ?_
                  have tb_18 : oty Z b_18 3 := oInv.rd gI tb_9.2 hb_19 rfl rfl
                  have hGb_18 : oG Z b_18 < oG Z b_9 := gI.2.2.2.2.2.1 b_9 b_18 tb_9.2 hb_19
                  have rb_18 : oR Z (some b_18) = oG Z b_18 + 1 := rfl
                  refine lv_astore (lv' := [(4, .ref b_18), (3, .int y_8), (0, .ref o), (1, .int x1), (2, .int x2)]) hx hb dX9_nextTold_102 hl (by decide) rfl (fun ls hl => ?_)
                  refine lv_goto (tgt := 59) hx hb dX9_nextTold_104 (by decide) ?_
                  exact ih (n - 1) (by omega) (some b_18) y_8 _ _ ls (by omega) (fun b h => by cases h; exact tb_18) (by omega) (qK_m hq0_cut_6 (by omega)) (qK_m hq1_cut_6 (by omega)) (chQ_s hq2_cut_6 hb_19 (by omega) (by intro h; omega)) (by omega) hP hS (lv_sub hl [0, 1, 2, 3, 4] rfl)
              · have dc_17 := c_nle (a := x_16.toInt) (b := x1.toInt) rfl rfl c_17
                refine lv_aload hx hb dX9_nextTold_82 (lv_at hl 0 rfl) ?_
                refine va_get (D := (dC, dI)) (ci := 3) (v := .int (oI Z b_9 1)) (C := RX3) (T := TX3) (N := 6) hx hb hts in_wsX9_nextTold_X3 hown hK hP q_10 hq_10 rfl 1 (by decide) (hts (.fieldLink RX9 50 "ShipOffice$Happening" "day" "I") iw_X9_nextTold_4) (fun _ h9 => h9) rfl dX9_nextTold_84 ?_
                refine lv_topi (fun x_21 ex_21 => ?_)
                have gx_21 : x_21.toInt = (oI Z b_9 1).toInt := iv_to ex_21
                clear ex_21
                refine lv_iload_n hx hb dX9_nextTold_87 rfl (lv_at hl 1 rfl) ?_
                refine lv_icmp_ge (tgt := 97) hx hb dX9_nextTold_88 (by decide) (fun c_22 => ?_) (fun c_22 => ?_)
                · have dc_22 := c_le (a := y_8.toInt) (b := x_21.toInt) rfl rfl c_22
                  refine lv_aload hx hb dX9_nextTold_97 (lv_at hl 0 rfl) ?_
                  rcases hb_24 : oP Z b_9 5 with _ | b_23
                  · refine va_get (D := (dC, dI)) (ci := 3) (v := .null) (C := RX3) (T := TX3) (N := 6) hx hb hts in_wsX9_nextTold_X3 hown hK hP q_10 hq_10 rfl 5 (by decide) (hts (.fieldLink RX9 53 "ShipOffice$Happening" "before" "LShipOffice$Happening;") iw_X9_nextTold_3) (fun _ h9 => h9) (o_rd hb_24) dX9_nextTold_99 ?_
                    have r_25 : oR Z none = 0 := rfl
                    refine lv_astoreN (lv' := [(4, .null), (3, .int y_8), (0, .ref o), (1, .int x1), (2, .int x2)]) hx hb dX9_nextTold_102 hl (by decide) rfl (fun ls hl => ?_)
                    refine lv_goto (tgt := 59) hx hb dX9_nextTold_104 (by decide) ?_
                    exact ih (n - 1) (by omega) none y_8 _ _ ls (by omega) (fun b h => by cases h) (by omega) (qK_m hq0_cut_6 (by omega)) (qK_m hq1_cut_6 (by omega)) (chQ_s hq2_cut_6 hb_24 (by omega) (by intro h; omega)) (by omega) hP hS (lv_sub hl [0, 1, 2, 3, 4] rfl)
                  · refine va_get (D := (dC, dI)) (ci := 3) (v := .ref b_23) (C := RX3) (T := TX3) (N := 6) hx hb hts in_wsX9_nextTold_X3 hown hK hP q_10 hq_10 rfl 5 (by decide) (hts (.fieldLink RX9 53 "ShipOffice$Happening" "before" "LShipOffice$Happening;") iw_X9_nextTold_3) (fun _ h9 => h9) (o_rd hb_24) dX9_nextTold_99 ?_
                    have tb_23 : oty Z b_23 3 := oInv.rd gI tb_9.2 hb_24 rfl rfl
                    have hGb_23 : oG Z b_23 < oG Z b_9 := gI.2.2.2.2.2.1 b_9 b_23 tb_9.2 hb_24
                    have rb_23 : oR Z (some b_23) = oG Z b_23 + 1 := rfl
                    refine lv_astore (lv' := [(4, .ref b_23), (3, .int y_8), (0, .ref o), (1, .int x1), (2, .int x2)]) hx hb dX9_nextTold_102 hl (by decide) rfl (fun ls hl => ?_)
                    refine lv_goto (tgt := 59) hx hb dX9_nextTold_104 (by decide) ?_
                    exact ih (n - 1) (by omega) (some b_23) y_8 _ _ ls (by omega) (fun b h => by cases h; exact tb_23) (by omega) (qK_m hq0_cut_6 (by omega)) (qK_m hq1_cut_6 (by omega)) (chQ_s hq2_cut_6 hb_24 (by omega) (by intro h; omega)) (by omega) hP hS (lv_sub hl [0, 1, 2, 3, 4] rfl)
                · have dc_22 := c_nle (a := y_8.toInt) (b := x_21.toInt) rfl rfl c_22
                  refine lv_aload hx hb dX9_nextTold_91 (lv_at hl 0 rfl) ?_
                  refine va_get (D := (dC, dI)) (ci := 3) (v := .int (oI Z b_9 1)) (C := RX3) (T := TX3) (N := 6) hx hb hts in_wsX9_nextTold_X3 hown hK hP q_10 hq_10 rfl 1 (by decide) (hts (.fieldLink RX9 50 "ShipOffice$Happening" "day" "I") iw_X9_nextTold_4) (fun _ h9 => h9) rfl dX9_nextTold_93 ?_
                  refine lv_topi (fun x_26 ex_26 => ?_)
                  have gx_26 : x_26.toInt = (oI Z b_9 1).toInt := iv_to ex_26
                  clear ex_26
                  refine lv_istore_n (lv' := [(3, .int x_26), (4, .ref b_9), (0, .ref o), (1, .int x1), (2, .int x2)]) hx hb dX9_nextTold_96 rfl hl (by decide) rfl (fun ls hl => ?_)
                  refine lv_aload hx hb dX9_nextTold_97 (lv_at hl 1 rfl) ?_
                  rcases hb_28 : oP Z b_9 5 with _ | b_27
                  · refine va_get (D := (dC, dI)) (ci := 3) (v := .null) (C := RX3) (T := TX3) (N := 6) hx hb hts in_wsX9_nextTold_X3 hown hK hP q_10 hq_10 rfl 5 (by decide) (hts (.fieldLink RX9 53 "ShipOffice$Happening" "before" "LShipOffice$Happening;") iw_X9_nextTold_3) (fun _ h9 => h9) (o_rd hb_28) dX9_nextTold_99 ?_
                    have r_29 : oR Z none = 0 := rfl
                    refine lv_astoreN (lv' := [(4, .null), (3, .int x_26), (0, .ref o), (1, .int x1), (2, .int x2)]) hx hb dX9_nextTold_102 hl (by decide) rfl (fun ls hl => ?_)
                    refine lv_goto (tgt := 59) hx hb dX9_nextTold_104 (by decide) ?_
                    exact ih (n - 1) (by omega) none x_26 _ _ ls (by omega) (fun b h => by cases h) (by omega) (qK_m hq0_cut_6 (by omega)) (qK_m hq1_cut_6 (by omega)) (chQ_s hq2_cut_6 hb_28 (by omega) (by intro h; omega)) (by omega) hP hS (lv_sub hl [0, 1, 2, 3, 4] rfl)
                  · refine va_get (D := (dC, dI)) (ci := 3) (v := .ref b_27) (C := RX3) (T := TX3) (N := 6) hx hb hts in_wsX9_nextTold_X3 hown hK hP q_10 hq_10 rfl 5 (by decide) (hts (.fieldLink RX9 53 "ShipOffice$Happening" "before" "LShipOffice$Happening;") iw_X9_nextTold_3) (fun _ h9 => h9) (o_rd hb_28) dX9_nextTold_99 ?_
                    have tb_27 : oty Z b_27 3 := oInv.rd gI tb_9.2 hb_28 rfl rfl
                    have hGb_27 : oG Z b_27 < oG Z b_9 := gI.2.2.2.2.2.1 b_9 b_27 tb_9.2 hb_28
                    have rb_27 : oR Z (some b_27) = oG Z b_27 + 1 := rfl
                    refine lv_astore (lv' := [(4, .ref b_27), (3, .int x_26), (0, .ref o), (1, .int x1), (2, .int x2)]) hx hb dX9_nextTold_102 hl (by decide) rfl (fun ls hl => ?_)
                    refine lv_goto (tgt := 59) hx hb dX9_nextTold_104 (by decide) ?_
                    exact ih (n - 1) (by omega) (some b_27) x_26 _ _ ls (by omega) (fun b h => by cases h; exact tb_27) (by omega) (qK_m hq0_cut_6 (by omega)) (qK_m hq1_cut_6 (by omega)) (chQ_s hq2_cut_6 hb_28 (by omega) (by intro h; omega)) (by omega) hP hS (lv_sub hl [0, 1, 2, 3, 4] rfl)
      exact cut_6 (oR Z none) none y_2 _ _ ls (by omega) (fun b h => by cases h) (by omega) (qK_m hq0_cut_1 (by omega)) (qK_m hq1_cut_1 (by omega)) (chQ_i (Q := hvS fa x) fyho hb_5 (fun i h => decide_eq_true h)) (by omega) hP hS (lv_sub hl [0, 1, 2, 3, 4] rfl)
    · refine va_get (D := (dC, dI)) (ci := 9) (v := .ref b_4) (C := RX9) (T := TX9) (N := 10) hx hb hts in_wsX9_nextTold_X9 hown hK hP q_3 hq_3 rfl 9 (by decide) (hts (.fieldLink RX9 41 "ShipOffice$Voyage" "heardOf" "LShipOffice$Happening;") iw_X9_nextTold_1) (fun _ h9 => h9) (o_rd hb_5) dX9_nextTold_54 ?_
      have tb_4 : oty Z b_4 3 := oInv.rd gI to.2 hb_5 rfl rfl
      refine lv_astore (lv' := [(4, .ref b_4), (3, .int y_2), (0, .ref o), (1, .int x1), (2, .int x2)]) hx hb dX9_nextTold_57 hl (by decide) rfl (fun ls hl => ?_)
      have cut_30 : ∀ (n : Nat) (y_31 : Option Nat) (y_32 : Int32) (H : Heap) (locs : List Loc) (ls : Array Slot), (oR Z y_31 : Int) ≤ (n : Int) → (∀ b, y_31 = some b → oty Z b 3) → (1 ≤ y_32.toInt ∧ y_32.toInt ≤ 1000000) → qK v fa 0 (x : Int) x2.toInt x1.toInt y_32.toInt → qK v fa 2 (x : Int) x2.toInt x1.toInt y_32.toInt → chQ Z v fa (pV fa (x : Int)) x2.toInt x1.toInt y_32.toInt y_31 → x1.toInt < y_32.toInt → va_P (dC, dI) vwCl (oW cq Z) H → va_S A s.heap H locs → lv_has ls 5 [(4, va_rf y_31), (3, .int y_32), (0, .ref o), (1, .int x1), (2, .int x2)] → W p l e (headSpec wsX9_nextTold { frames := 0, cells := 0, slots := 0, locals := 0 }).room s m #[Value.ref o, Value.int x1, Value.int x2] below meth c H locs 0 0 (MQ below (va_Qi (fun (r : Int32) (u : Unit) => (1 ≤ r.toInt ∧ r.toInt ≤ 1000000) ∧ (x1.toInt < r.toInt ∧ r.toInt ≤ 1000000 ∧ qV v fa (x : Int) x2.toInt x1.toInt r.toInt)) (fun _ _ => True) A) #[Value.ref o, Value.int x1, Value.int x2] s 0 0 A) (F0 m 59 ls []) := by
        intro n
        induction n using Nat.strongRecOn with
        | ind n ih =>
          intro y_31 y_32 H locs ls hm ty_31 hy_32 hq0_cut_30 hq1_cut_30 hq2_cut_30 hq3_cut_30 hP hS hl
          rcases y_31 with _ | b_33
          · have hl : lv_has ls 5 [(4, .null), (3, .int y_32), (0, .ref o), (1, .int x1), (2, .int x2)] := hl
            refine lv_aloadN hx hb dX9_nextTold_59 (lv_at hl 0 rfl) ?_
            refine lv_ifnullN (tgt := 107) hx hb dX9_nextTold_61 (by decide) ?_
            refine lv_iload_n hx hb dX9_nextTold_107 rfl (lv_at hl 1 rfl) ?_
            exact W.iret (v := y_32) hx hb hr (fun t ht hW => ⟨⟨y_32, (), rfl, ⟨(by omega), ⟨by omega, by omega, qV_3 hq0_cut_30 hq1_cut_30 hq2_cut_30⟩⟩, trivial⟩, hS.F ht⟩) hS.2.2 dX9_nextTold_108
          · have hl : lv_has ls 5 [(4, .ref b_33), (3, .int y_32), (0, .ref o), (1, .int x1), (2, .int x2)] := hl
            have tb_33 : oty Z b_33 3 := ty_31 b_33 rfl
            have rb_33 : oR Z (some b_33) = oG Z b_33 + 1 := rfl
            refine lv_aload hx hb dX9_nextTold_59 (lv_at hl 0 rfl) ?_
            refine lv_ifnull hx hb dX9_nextTold_61 ?_
            refine lv_aload hx hb dX9_nextTold_64 (lv_at hl 0 rfl) ?_
            obtain ⟨q_34, hq_34⟩ := og (cq := cq) tb_33.1 (oE_3 tb_33.2)
            refine va_get (D := (dC, dI)) (ci := 3) (v := .int (oI Z b_33 2)) (C := RX3) (T := TX3) (N := 6) hx hb hts in_wsX9_nextTold_X3 hown hK hP q_34 hq_34 rfl 2 (by decide) (hts (.fieldLink RX9 45 "ShipOffice$Happening" "told" "I") iw_X9_nextTold_2) (fun _ h9 => h9) rfl dX9_nextTold_66 ?_
            refine lv_topi (fun x_35 ex_35 => ?_)
            have gx_35 : x_35.toInt = (oI Z b_33 2).toInt := iv_to ex_35
            clear ex_35
            refine lv_iload_n hx hb dX9_nextTold_69 rfl (lv_at hl 4 rfl) ?_
            refine lv_icmp_gt (tgt := 97) hx hb dX9_nextTold_70 (by decide) (fun c_36 => ?_) (fun c_36 => ?_)
            · have dc_36 := c_lt (a := x2.toInt) (b := x_35.toInt) rfl rfl c_36
              refine lv_aload hx hb dX9_nextTold_97 (lv_at hl 0 rfl) ?_
              rcases hb_38 : oP Z b_33 5 with _ | b_37
              · refine va_get (D := (dC, dI)) (ci := 3) (v := .null) (C := RX3) (T := TX3) (N := 6) hx hb hts in_wsX9_nextTold_X3 hown hK hP q_34 hq_34 rfl 5 (by decide) (hts (.fieldLink RX9 53 "ShipOffice$Happening" "before" "LShipOffice$Happening;") iw_X9_nextTold_3) (fun _ h9 => h9) (o_rd hb_38) dX9_nextTold_99 ?_
                have r_39 : oR Z none = 0 := rfl
                refine lv_astoreN (lv' := [(4, .null), (3, .int y_32), (0, .ref o), (1, .int x1), (2, .int x2)]) hx hb dX9_nextTold_102 hl (by decide) rfl (fun ls hl => ?_)
                refine lv_goto (tgt := 59) hx hb dX9_nextTold_104 (by decide) ?_
                exact ih (n - 1) (by omega) none y_32 _ _ ls (by omega) (fun b h => by cases h) (by omega) (qK_m hq0_cut_30 (by omega)) (qK_m hq1_cut_30 (by omega)) (chQ_s hq2_cut_30 hb_38 (by omega) (by intro h; omega)) (by omega) hP hS (lv_sub hl [0, 1, 2, 3, 4] rfl)
              · refine va_get (D := (dC, dI)) (ci := 3) (v := .ref b_37) (C := RX3) (T := TX3) (N := 6) hx hb hts in_wsX9_nextTold_X3 hown hK hP q_34 hq_34 rfl 5 (by decide) (hts (.fieldLink RX9 53 "ShipOffice$Happening" "before" "LShipOffice$Happening;") iw_X9_nextTold_3) (fun _ h9 => h9) (o_rd hb_38) dX9_nextTold_99 ?_
                have tb_37 : oty Z b_37 3 := oInv.rd gI tb_33.2 hb_38 rfl rfl
                have hGb_37 : oG Z b_37 < oG Z b_33 := gI.2.2.2.2.2.1 b_33 b_37 tb_33.2 hb_38
                have rb_37 : oR Z (some b_37) = oG Z b_37 + 1 := rfl
                refine lv_astore (lv' := [(4, .ref b_37), (3, .int y_32), (0, .ref o), (1, .int x1), (2, .int x2)]) hx hb dX9_nextTold_102 hl (by decide) rfl (fun ls hl => ?_)
                refine lv_goto (tgt := 59) hx hb dX9_nextTold_104 (by decide) ?_
                exact ih (n - 1) (by omega) (some b_37) y_32 _ _ ls (by omega) (fun b h => by cases h; exact tb_37) (by omega) (qK_m hq0_cut_30 (by omega)) (qK_m hq1_cut_30 (by omega)) (chQ_s hq2_cut_30 hb_38 (by omega) (by intro h; omega)) (by omega) hP hS (lv_sub hl [0, 1, 2, 3, 4] rfl)
            · have dc_36 := c_nlt (a := x2.toInt) (b := x_35.toInt) rfl rfl c_36
              refine lv_aload hx hb dX9_nextTold_73 (lv_at hl 0 rfl) ?_
              refine va_get (D := (dC, dI)) (ci := 3) (v := .int (oI Z b_33 1)) (C := RX3) (T := TX3) (N := 6) hx hb hts in_wsX9_nextTold_X3 hown hK hP q_34 hq_34 rfl 1 (by decide) (hts (.fieldLink RX9 50 "ShipOffice$Happening" "day" "I") iw_X9_nextTold_4) (fun _ h9 => h9) rfl dX9_nextTold_75 ?_
              refine lv_topi (fun x_40 ex_40 => ?_)
              have gx_40 : x_40.toInt = (oI Z b_33 1).toInt := iv_to ex_40
              clear ex_40
              refine lv_iload_n hx hb dX9_nextTold_78 rfl (lv_at hl 3 rfl) ?_
              refine lv_icmp_le (tgt := 97) hx hb dX9_nextTold_79 (by decide) (fun c_41 => ?_) (fun c_41 => ?_)
              · have dc_41 := c_le (a := x_40.toInt) (b := x1.toInt) rfl rfl c_41
                refine lv_aload hx hb dX9_nextTold_97 (lv_at hl 0 rfl) ?_
                rcases hb_43 : oP Z b_33 5 with _ | b_42
                · refine va_get (D := (dC, dI)) (ci := 3) (v := .null) (C := RX3) (T := TX3) (N := 6) hx hb hts in_wsX9_nextTold_X3 hown hK hP q_34 hq_34 rfl 5 (by decide) (hts (.fieldLink RX9 53 "ShipOffice$Happening" "before" "LShipOffice$Happening;") iw_X9_nextTold_3) (fun _ h9 => h9) (o_rd hb_43) dX9_nextTold_99 ?_
                  have r_44 : oR Z none = 0 := rfl
                  refine lv_astoreN (lv' := [(4, .null), (3, .int y_32), (0, .ref o), (1, .int x1), (2, .int x2)]) hx hb dX9_nextTold_102 hl (by decide) rfl (fun ls hl => ?_)
                  refine lv_goto (tgt := 59) hx hb dX9_nextTold_104 (by decide) ?_
                  exact ih (n - 1) (by omega) none y_32 _ _ ls (by omega) (fun b h => by cases h) (by omega) (qK_m hq0_cut_30 (by omega)) (qK_m hq1_cut_30 (by omega)) (chQ_s hq2_cut_30 hb_43 (by omega) (by intro h; omega)) (by omega) hP hS (lv_sub hl [0, 1, 2, 3, 4] rfl)
                · refine va_get (D := (dC, dI)) (ci := 3) (v := .ref b_42) (C := RX3) (T := TX3) (N := 6) hx hb hts in_wsX9_nextTold_X3 hown hK hP q_34 hq_34 rfl 5 (by decide) (hts (.fieldLink RX9 53 "ShipOffice$Happening" "before" "LShipOffice$Happening;") iw_X9_nextTold_3) (fun _ h9 => h9) (o_rd hb_43) dX9_nextTold_99 ?_
                  have tb_42 : oty Z b_42 3 := oInv.rd gI tb_33.2 hb_43 rfl rfl
                  have hGb_42 : oG Z b_42 < oG Z b_33 := gI.2.2.2.2.2.1 b_33 b_42 tb_33.2 hb_43
                  have rb_42 : oR Z (some b_42) = oG Z b_42 + 1 := rfl
                  refine lv_astore (lv' := [(4, .ref b_42), (3, .int y_32), (0, .ref o), (1, .int x1), (2, .int x2)]) hx hb dX9_nextTold_102 hl (by decide) rfl (fun ls hl => ?_)
                  refine lv_goto (tgt := 59) hx hb dX9_nextTold_104 (by decide) ?_
                  exact ih (n - 1) (by omega) (some b_42) y_32 _ _ ls (by omega) (fun b h => by cases h; exact tb_42) (by omega) (qK_m hq0_cut_30 (by omega)) (qK_m hq1_cut_30 (by omega)) (chQ_s hq2_cut_30 hb_43 (by omega) (by intro h; omega)) (by omega) hP hS (lv_sub hl [0, 1, 2, 3, 4] rfl)
              · have dc_41 := c_nle (a := x_40.toInt) (b := x1.toInt) rfl rfl c_41
                refine lv_aload hx hb dX9_nextTold_82 (lv_at hl 0 rfl) ?_
                refine va_get (D := (dC, dI)) (ci := 3) (v := .int (oI Z b_33 1)) (C := RX3) (T := TX3) (N := 6) hx hb hts in_wsX9_nextTold_X3 hown hK hP q_34 hq_34 rfl 1 (by decide) (hts (.fieldLink RX9 50 "ShipOffice$Happening" "day" "I") iw_X9_nextTold_4) (fun _ h9 => h9) rfl dX9_nextTold_84 ?_
                refine lv_topi (fun x_45 ex_45 => ?_)
                have gx_45 : x_45.toInt = (oI Z b_33 1).toInt := iv_to ex_45
                clear ex_45
                refine lv_iload_n hx hb dX9_nextTold_87 rfl (lv_at hl 1 rfl) ?_
                refine lv_icmp_ge (tgt := 97) hx hb dX9_nextTold_88 (by decide) (fun c_46 => ?_) (fun c_46 => ?_)
                · have dc_46 := c_le (a := y_32.toInt) (b := x_45.toInt) rfl rfl c_46
                  refine lv_aload hx hb dX9_nextTold_97 (lv_at hl 0 rfl) ?_
                  rcases hb_48 : oP Z b_33 5 with _ | b_47
                  · refine va_get (D := (dC, dI)) (ci := 3) (v := .null) (C := RX3) (T := TX3) (N := 6) hx hb hts in_wsX9_nextTold_X3 hown hK hP q_34 hq_34 rfl 5 (by decide) (hts (.fieldLink RX9 53 "ShipOffice$Happening" "before" "LShipOffice$Happening;") iw_X9_nextTold_3) (fun _ h9 => h9) (o_rd hb_48) dX9_nextTold_99 ?_
                    have r_49 : oR Z none = 0 := rfl
                    refine lv_astoreN (lv' := [(4, .null), (3, .int y_32), (0, .ref o), (1, .int x1), (2, .int x2)]) hx hb dX9_nextTold_102 hl (by decide) rfl (fun ls hl => ?_)
                    refine lv_goto (tgt := 59) hx hb dX9_nextTold_104 (by decide) ?_
                    exact ih (n - 1) (by omega) none y_32 _ _ ls (by omega) (fun b h => by cases h) (by omega) (qK_m hq0_cut_30 (by omega)) (qK_m hq1_cut_30 (by omega)) (chQ_s hq2_cut_30 hb_48 (by omega) (by intro h; omega)) (by omega) hP hS (lv_sub hl [0, 1, 2, 3, 4] rfl)
                  · refine va_get (D := (dC, dI)) (ci := 3) (v := .ref b_47) (C := RX3) (T := TX3) (N := 6) hx hb hts in_wsX9_nextTold_X3 hown hK hP q_34 hq_34 rfl 5 (by decide) (hts (.fieldLink RX9 53 "ShipOffice$Happening" "before" "LShipOffice$Happening;") iw_X9_nextTold_3) (fun _ h9 => h9) (o_rd hb_48) dX9_nextTold_99 ?_
                    have tb_47 : oty Z b_47 3 := oInv.rd gI tb_33.2 hb_48 rfl rfl
                    have hGb_47 : oG Z b_47 < oG Z b_33 := gI.2.2.2.2.2.1 b_33 b_47 tb_33.2 hb_48
                    have rb_47 : oR Z (some b_47) = oG Z b_47 + 1 := rfl
                    refine lv_astore (lv' := [(4, .ref b_47), (3, .int y_32), (0, .ref o), (1, .int x1), (2, .int x2)]) hx hb dX9_nextTold_102 hl (by decide) rfl (fun ls hl => ?_)
                    refine lv_goto (tgt := 59) hx hb dX9_nextTold_104 (by decide) ?_
                    exact ih (n - 1) (by omega) (some b_47) y_32 _ _ ls (by omega) (fun b h => by cases h; exact tb_47) (by omega) (qK_m hq0_cut_30 (by omega)) (qK_m hq1_cut_30 (by omega)) (chQ_s hq2_cut_30 hb_48 (by omega) (by intro h; omega)) (by omega) hP hS (lv_sub hl [0, 1, 2, 3, 4] rfl)
                · have dc_46 := c_nle (a := y_32.toInt) (b := x_45.toInt) rfl rfl c_46
                  refine lv_aload hx hb dX9_nextTold_91 (lv_at hl 0 rfl) ?_
                  refine va_get (D := (dC, dI)) (ci := 3) (v := .int (oI Z b_33 1)) (C := RX3) (T := TX3) (N := 6) hx hb hts in_wsX9_nextTold_X3 hown hK hP q_34 hq_34 rfl 1 (by decide) (hts (.fieldLink RX9 50 "ShipOffice$Happening" "day" "I") iw_X9_nextTold_4) (fun _ h9 => h9) rfl dX9_nextTold_93 ?_
                  refine lv_topi (fun x_50 ex_50 => ?_)
                  have gx_50 : x_50.toInt = (oI Z b_33 1).toInt := iv_to ex_50
                  clear ex_50
                  refine lv_istore_n (lv' := [(3, .int x_50), (4, .ref b_33), (0, .ref o), (1, .int x1), (2, .int x2)]) hx hb dX9_nextTold_96 rfl hl (by decide) rfl (fun ls hl => ?_)
                  refine lv_aload hx hb dX9_nextTold_97 (lv_at hl 1 rfl) ?_
                  rcases hb_52 : oP Z b_33 5 with _ | b_51
                  · refine va_get (D := (dC, dI)) (ci := 3) (v := .null) (C := RX3) (T := TX3) (N := 6) hx hb hts in_wsX9_nextTold_X3 hown hK hP q_34 hq_34 rfl 5 (by decide) (hts (.fieldLink RX9 53 "ShipOffice$Happening" "before" "LShipOffice$Happening;") iw_X9_nextTold_3) (fun _ h9 => h9) (o_rd hb_52) dX9_nextTold_99 ?_
                    have r_53 : oR Z none = 0 := rfl
                    refine lv_astoreN (lv' := [(4, .null), (3, .int x_50), (0, .ref o), (1, .int x1), (2, .int x2)]) hx hb dX9_nextTold_102 hl (by decide) rfl (fun ls hl => ?_)
                    refine lv_goto (tgt := 59) hx hb dX9_nextTold_104 (by decide) ?_
                    exact ih (n - 1) (by omega) none x_50 _ _ ls (by omega) (fun b h => by cases h) (by omega) (qK_m hq0_cut_30 (by omega)) (qK_m hq1_cut_30 (by omega)) (chQ_s hq2_cut_30 hb_52 (by omega) (by intro h; omega)) (by omega) hP hS (lv_sub hl [0, 1, 2, 3, 4] rfl)
                  · refine va_get (D := (dC, dI)) (ci := 3) (v := .ref b_51) (C := RX3) (T := TX3) (N := 6) hx hb hts in_wsX9_nextTold_X3 hown hK hP q_34 hq_34 rfl 5 (by decide) (hts (.fieldLink RX9 53 "ShipOffice$Happening" "before" "LShipOffice$Happening;") iw_X9_nextTold_3) (fun _ h9 => h9) (o_rd hb_52) dX9_nextTold_99 ?_
                    have tb_51 : oty Z b_51 3 := oInv.rd gI tb_33.2 hb_52 rfl rfl
                    have hGb_51 : oG Z b_51 < oG Z b_33 := gI.2.2.2.2.2.1 b_33 b_51 tb_33.2 hb_52
                    have rb_51 : oR Z (some b_51) = oG Z b_51 + 1 := rfl
                    refine lv_astore (lv' := [(4, .ref b_51), (3, .int x_50), (0, .ref o), (1, .int x1), (2, .int x2)]) hx hb dX9_nextTold_102 hl (by decide) rfl (fun ls hl => ?_)
                    refine lv_goto (tgt := 59) hx hb dX9_nextTold_104 (by decide) ?_
                    exact ih (n - 1) (by omega) (some b_51) x_50 _ _ ls (by omega) (fun b h => by cases h; exact tb_51) (by omega) (qK_m hq0_cut_30 (by omega)) (qK_m hq1_cut_30 (by omega)) (chQ_s hq2_cut_30 hb_52 (by omega) (by intro h; omega)) (by omega) hP hS (lv_sub hl [0, 1, 2, 3, 4] rfl)
      exact cut_30 (oR Z (some b_4)) (some b_4) y_2 _ _ ls (by omega) (fun b h => by cases h; exact tb_4) (by omega) (qK_m hq0_cut_1 (by omega)) (qK_m hq1_cut_1 (by omega)) (chQ_i (Q := hvS fa x) fyho hb_5 (fun i h => decide_eq_true h)) (by omega) hP hS (lv_sub hl [0, 1, 2, 3, 4] rfl)
  have cut_54 : ∀ (y_55 : Int32) (H : Heap) (locs : List Loc) (ls : Array Slot), (1 ≤ y_55.toInt ∧ y_55.toInt ≤ 1000000) → qK v fa 0 (x : Int) x2.toInt x1.toInt y_55.toInt → x1.toInt < y_55.toInt → va_P (dC, dI) vwCl (oW cq Z) H → va_S A s.heap H locs → lv_has ls 5 [(3, .int y_55), (0, .ref o), (1, .int x1), (2, .int x2)] → W p l e (headSpec wsX9_nextTold { frames := 0, cells := 0, slots := 0, locals := 0 }).room s m #[Value.ref o, Value.int x1, Value.int x2] below meth c H locs 0 0 (MQ below (va_Qi (fun (r : Int32) (u : Unit) => (1 ≤ r.toInt ∧ r.toInt ≤ 1000000) ∧ (x1.toInt < r.toInt ∧ r.toInt ≤ 1000000 ∧ qV v fa (x : Int) x2.toInt x1.toInt r.toInt)) (fun _ _ => True) A) #[Value.ref o, Value.int x1, Value.int x2] s 0 0 A) (F0 m 24 ls []) := by
    intro y_55 H locs ls hy_55 hq0_cut_54 hq1_cut_54 hP hS hl
    refine lv_aload_n hx hb dX9_nextTold_24 rfl (lv_at hl 1 rfl) ?_
    obtain ⟨q_56, hq_56⟩ := og (cq := cq) to.1 (oE_9 to.2)
    refine va_get (D := (dC, dI)) (ci := 9) (v := .int (oI Z o 8)) (C := RX9) (T := TX9) (N := 10) hx hb hts in_wsX9_nextTold_X9 hown hK hP q_56 hq_56 rfl 8 (by decide) (hts (.fieldLink RX9 22 "ShipOffice$Voyage" "lostTold" "I") iw_X9_nextTold_5) (fun _ h9 => h9) rfl dX9_nextTold_25 ?_
    refine lv_topi (fun x_57 ex_57 => ?_)
    have gx_57 : x_57.toInt = (oI Z o 8).toInt := iv_to ex_57
    clear ex_57
    refine lv_iload_n hx hb dX9_nextTold_28 rfl (lv_at hl 3 rfl) ?_
    refine lv_icmp_gt (tgt := 53) hx hb dX9_nextTold_29 (by decide) (fun c_58 => ?_) (fun c_58 => ?_)
    · have dc_58 := c_lt (a := x2.toInt) (b := x_57.toInt) rfl rfl c_58
      exact cut_1 y_55 _ _ ls (by omega) (qK_m hq0_cut_54 (by omega)) (qK_o fyLo (by intro h; omega)) (by omega) hP hS (lv_sub hl [0, 1, 2, 3] rfl)
    · have dc_58 := c_nlt (a := x2.toInt) (b := x_57.toInt) rfl rfl c_58
      refine lv_aload_n hx hb dX9_nextTold_32 rfl (lv_at hl 1 rfl) ?_
      refine va_get (D := (dC, dI)) (ci := 9) (v := .int (oI Z o 7)) (C := RX9) (T := TX9) (N := 10) hx hb hts in_wsX9_nextTold_X9 hown hK hP q_56 hq_56 rfl 7 (by decide) (hts (.fieldLink RX9 19 "ShipOffice$Voyage" "lostDay" "I") iw_X9_nextTold_6) (fun _ h9 => h9) rfl dX9_nextTold_33 ?_
      refine lv_topi (fun x_59 ex_59 => ?_)
      have gx_59 : x_59.toInt = (oI Z o 7).toInt := iv_to ex_59
      clear ex_59
      refine lv_iload_n hx hb dX9_nextTold_36 rfl (lv_at hl 2 rfl) ?_
      refine lv_icmp_le (tgt := 53) hx hb dX9_nextTold_37 (by decide) (fun c_60 => ?_) (fun c_60 => ?_)
      · have dc_60 := c_le (a := x_59.toInt) (b := x1.toInt) rfl rfl c_60
        exact cut_1 y_55 _ _ ls (by omega) (qK_m hq0_cut_54 (by omega)) (qK_o fyLo (by intro h; omega)) (by omega) hP hS (lv_sub hl [0, 1, 2, 3] rfl)
      · have dc_60 := c_nle (a := x_59.toInt) (b := x1.toInt) rfl rfl c_60
        refine lv_aload_n hx hb dX9_nextTold_40 rfl (lv_at hl 1 rfl) ?_
        refine va_get (D := (dC, dI)) (ci := 9) (v := .int (oI Z o 7)) (C := RX9) (T := TX9) (N := 10) hx hb hts in_wsX9_nextTold_X9 hown hK hP q_56 hq_56 rfl 7 (by decide) (hts (.fieldLink RX9 19 "ShipOffice$Voyage" "lostDay" "I") iw_X9_nextTold_6) (fun _ h9 => h9) rfl dX9_nextTold_41 ?_
        refine lv_topi (fun x_61 ex_61 => ?_)
        have gx_61 : x_61.toInt = (oI Z o 7).toInt := iv_to ex_61
        clear ex_61
        refine lv_iload_n hx hb dX9_nextTold_44 rfl (lv_at hl 0 rfl) ?_
        refine lv_icmp_ge (tgt := 53) hx hb dX9_nextTold_45 (by decide) (fun c_62 => ?_) (fun c_62 => ?_)
        · have dc_62 := c_le (a := y_55.toInt) (b := x_61.toInt) rfl rfl c_62
          exact cut_1 y_55 _ _ ls (by omega) (qK_m hq0_cut_54 (by omega)) (qK_o fyLo (by intro h; omega)) (by omega) hP hS (lv_sub hl [0, 1, 2, 3] rfl)
        · have dc_62 := c_nle (a := y_55.toInt) (b := x_61.toInt) rfl rfl c_62
          refine lv_aload_n hx hb dX9_nextTold_48 rfl (lv_at hl 1 rfl) ?_
          refine va_get (D := (dC, dI)) (ci := 9) (v := .int (oI Z o 7)) (C := RX9) (T := TX9) (N := 10) hx hb hts in_wsX9_nextTold_X9 hown hK hP q_56 hq_56 rfl 7 (by decide) (hts (.fieldLink RX9 19 "ShipOffice$Voyage" "lostDay" "I") iw_X9_nextTold_6) (fun _ h9 => h9) rfl dX9_nextTold_49 ?_
          refine lv_topi (fun x_63 ex_63 => ?_)
          have gx_63 : x_63.toInt = (oI Z o 7).toInt := iv_to ex_63
          clear ex_63
          refine lv_istore_n (lv' := [(3, .int x_63), (0, .ref o), (1, .int x1), (2, .int x2)]) hx hb dX9_nextTold_52 rfl hl (by decide) rfl (fun ls hl => ?_)
          exact cut_1 x_63 _ _ ls (by omega) (qK_m hq0_cut_54 (by omega)) (qK_o fyLo (by intro h; omega)) (by omega) hP hS (lv_sub hl [0, 1, 2, 3] rfl)
  refine lv_aload_n hx hb dX9_nextTold_3 rfl (lv_at hl 1 rfl) ?_
  obtain ⟨q_64, hq_64⟩ := og (cq := cq) to.1 (oE_9 to.2)
  refine va_get (D := (dC, dI)) (ci := 9) (v := .int (oI Z o 6)) (C := RX9) (T := TX9) (N := 10) hx hb hts in_wsX9_nextTold_X9 hown hK hP q_64 hq_64 rfl 6 (by decide) (hts (.fieldLink RX9 16 "ShipOffice$Voyage" "sailedTold" "I") iw_X9_nextTold_7) (fun _ h9 => h9) rfl dX9_nextTold_4 ?_
  refine lv_topi (fun x_65 ex_65 => ?_)
  have gx_65 : x_65.toInt = (oI Z o 6).toInt := iv_to ex_65
  clear ex_65
  refine lv_iload_n hx hb dX9_nextTold_7 rfl (lv_at hl 3 rfl) ?_
  refine lv_icmp_gt (tgt := 24) hx hb dX9_nextTold_8 (by decide) (fun c_66 => ?_) (fun c_66 => ?_)
  · have dc_66 := c_lt (a := x2.toInt) (b := x_65.toInt) rfl rfl c_66
    have kc_67 : (1000000 : Int32).toInt = 1000000 := by decide
    exact cut_54 1000000 _ _ ls (by decide) (qK_o fySo (by intro h; have rc : (1000000 : Int32).toInt = 1000000 := (by decide); omega)) (by have rc : (1000000 : Int32).toInt = 1000000 := (by decide); omega) hP hS (lv_sub hl [0, 1, 2, 3] rfl)
  · have dc_66 := c_nlt (a := x2.toInt) (b := x_65.toInt) rfl rfl c_66
    refine lv_aload_n hx hb dX9_nextTold_11 rfl (lv_at hl 1 rfl) ?_
    refine va_get (D := (dC, dI)) (ci := 9) (v := .int (oI Z o 5)) (C := RX9) (T := TX9) (N := 10) hx hb hts in_wsX9_nextTold_X9 hown hK hP q_64 hq_64 rfl 5 (by decide) (hts (.fieldLink RX9 10 "ShipOffice$Voyage" "sailedDay" "I") iw_X9_nextTold_8) (fun _ h9 => h9) rfl dX9_nextTold_12 ?_
    refine lv_topi (fun x_68 ex_68 => ?_)
    have hx_68 : 0 ≤ x_68.toInt ∧ x_68.toInt ≤ 1000000 := iv_of ex_68 (oInv.iv gI to.2 rfl rfl)
    have gx_68 : x_68.toInt = (oI Z o 5).toInt := iv_to ex_68
    clear ex_68
    refine lv_iload_n hx hb dX9_nextTold_15 rfl (lv_at hl 2 rfl) ?_
    refine lv_icmp_le (tgt := 24) hx hb dX9_nextTold_16 (by decide) (fun c_69 => ?_) (fun c_69 => ?_)
    · have dc_69 := c_le (a := x_68.toInt) (b := x1.toInt) rfl rfl c_69
      have kc_70 : (1000000 : Int32).toInt = 1000000 := by decide
      exact cut_54 1000000 _ _ ls (by decide) (qK_o fySo (by intro h; have rc : (1000000 : Int32).toInt = 1000000 := (by decide); omega)) (by have rc : (1000000 : Int32).toInt = 1000000 := (by decide); omega) hP hS (lv_sub hl [0, 1, 2, 3] rfl)
    · have dc_69 := c_nle (a := x_68.toInt) (b := x1.toInt) rfl rfl c_69
      refine lv_aload_n hx hb dX9_nextTold_19 rfl (lv_at hl 1 rfl) ?_
      refine va_get (D := (dC, dI)) (ci := 9) (v := .int (oI Z o 5)) (C := RX9) (T := TX9) (N := 10) hx hb hts in_wsX9_nextTold_X9 hown hK hP q_64 hq_64 rfl 5 (by decide) (hts (.fieldLink RX9 10 "ShipOffice$Voyage" "sailedDay" "I") iw_X9_nextTold_8) (fun _ h9 => h9) rfl dX9_nextTold_20 ?_
      refine lv_topi (fun x_71 ex_71 => ?_)
      have hx_71 : 0 ≤ x_71.toInt ∧ x_71.toInt ≤ 1000000 := iv_of ex_71 (oInv.iv gI to.2 rfl rfl)
      have gx_71 : x_71.toInt = (oI Z o 5).toInt := iv_to ex_71
      clear ex_71
      refine lv_istore_n (lv' := [(3, .int x_71), (0, .ref o), (1, .int x1), (2, .int x2)]) hx hb dX9_nextTold_23 rfl hl (by decide) rfl (fun ls hl => ?_)
      exact cut_54 x_71 _ _ ls (by omega) (qK_o fySo (by intro h; omega)) (by omega) hP hS (lv_sub hl [0, 1, 2, 3] rfl)
set_option maxHeartbeats 4000000 in
set_option maxRecDepth 100000 in
theorem c_X5_nextPresume_c (l : Launch) (dC : Nat → ClassId) (dI : Nat → Nat → Nat) (sz : Nat) (cq : Nat → ClassId) (Z : oS) (gI : oInv Z) (o : Nat) (to : oty Z o 5) (x1 : Int32) (hx1 : 0 ≤ x1.toInt ∧ x1.toInt ≤ 3000) (v : Nat → Int32) (fa : Nat → Nat → Int32) (hL : rLw Z o v fa) : Met l yX5_nextPresume wsX5_nextPresume ({ frames := 0, cells := 0, slots := 0, locals := 0 }) (va_Pc [.ref o, .int x1] (pcW (dC, dI) (oT cq) (oW cq Z) sz)) (va_Qi (fun (r : Int32) (u : Unit) => (1 ≤ r.toInt ∧ r.toInt ≤ 1000000) ∧ (x1.toInt < r.toInt ∧ qP v fa x1.toInt r.toInt)) (fun _ _ => True) (va_A [] sz)) 0 0 (va_A [] sz) := by
  refine Met.ofW (cc := cX5_nextPresume) (maxL := 4) (ret := (some .int)) (by decide) rfl ?_
  intro p e s m args below meth c s₁ B hml hv
  obtain ⟨rfl, hsz, hP, hK, hD0⟩ := hv
  have hx := B.exec
  have hb := B.bytes
  have hr := B.returns
  have hts := atoms_spec (ws := wsX5_nextPresume) B.pre
  have hown : s.vm.findClass RX5 = some m.cls := findClass_of_methodNamed B.named
  have hlocks := B.notSynchronized
  subst hsz
  have hD := hD0
  generalize hAe : va_A [] s.heap.size = A at ⊢
  have hA : ∀ q : Nat, s.heap.size ≤ q → A q := fun q h => by rw [← hAe]; exact Or.inr h
  have hS : va_S A s.heap s.heap [] := va_S.rf
  have hP : va_P (dC, dI) vwCl (oW cq Z) s.heap := hP
  have hl := lv_entry ([.ref o, .int x1]) (n := 4) (Nat.le_of_ble_eq_true rfl)
  rw [lg_entry_eq]
  generalize (lg_sl ([.ref o, .int x1]) ++ List.replicate (4 - (lg_sl ([.ref o, .int x1])).length) Slot.unset).toArray = ls at hl ⊢
  have hl : lv_has ls 4 [(0, .ref o), (1, .int x1)] := hl
  have fl0 := hL.1
  have iv_1 : 0 ≤ (oI Z o 2).toInt ∧ (oI Z o 2).toInt ≤ 30 := oInv.iv gI to.2 rfl rfl
  refine lv_ldc (v := 1000000) hx hb hown (hts (.constant RX5 33 (1000000)) (by decide +kernel)) dX5_nextPresume_0 ?_
  refine lv_istore_n (lv' := [(2, .int 1000000), (0, .ref o), (1, .int x1)]) hx hb dX5_nextPresume_2 rfl hl (by decide) rfl (fun ls hl => ?_)
  refine lv_iconst (v := 0) hx hb dX5_nextPresume_3 (by decide) ?_
  refine lv_istore_n (lv' := [(3, .int 0), (2, .int 1000000), (0, .ref o), (1, .int x1)]) hx hb dX5_nextPresume_4 rfl hl (by decide) rfl (fun ls hl => ?_)
  have cut_2 : ∀ (n : Nat) (y_3 : Int32) (y_4 : Int32) (H : Heap) (locs : List Loc) (ls : Array Slot), 30 - y_3.toInt ≤ (n : Int) → (0 ≤ y_3.toInt ∧ y_3.toInt ≤ 30) → (1 ≤ y_4.toInt ∧ y_4.toInt ≤ 1000000) → qPn fa y_3.toNatClampNeg x1.toInt y_4.toInt → x1.toInt < y_4.toInt → y_3.toInt ≤ (v 42).toInt → va_P (dC, dI) vwCl (oW cq Z) H → va_S A s.heap H locs → lv_has ls 4 [(3, .int y_3), (2, .int y_4), (0, .ref o), (1, .int x1)] → W p l e (headSpec wsX5_nextPresume { frames := 0, cells := 0, slots := 0, locals := 0 }).room s m #[Value.ref o, Value.int x1] below meth c H locs 0 0 (MQ below (va_Qi (fun (r : Int32) (u : Unit) => (1 ≤ r.toInt ∧ r.toInt ≤ 1000000) ∧ (x1.toInt < r.toInt ∧ qP v fa x1.toInt r.toInt)) (fun _ _ => True) A) #[Value.ref o, Value.int x1] s 0 0 A) (F0 m 5 ls []) := by
    intro n
    induction n using Nat.strongRecOn with
    | ind n ih =>
      intro y_3 y_4 H locs ls hm hy_3 hy_4 hq0_cut_2 hq1_cut_2 hq2_cut_2 hP hS hl
      refine lv_iload_n hx hb dX5_nextPresume_5 rfl (lv_at hl 0 rfl) ?_
      refine lv_aload_n hx hb dX5_nextPresume_6 rfl (lv_at hl 2 rfl) ?_
      obtain ⟨q_5, hq_5⟩ := og (cq := cq) to.1 (oE_5 to.2)
      refine va_get (D := (dC, dI)) (ci := 5) (v := .int (oI Z o 2)) (C := RX5) (T := TX5) (N := 3) hx hb hts in_wsX5_nextPresume_X5 hown hK hP q_5 hq_5 rfl 2 (by decide) (hts (.fieldLink RX5 23 "ShipOffice$Law" "actCount" "I") iw_X5_nextPresume_1) (fun _ h9 => h9) rfl dX5_nextPresume_7 ?_
      refine lv_topi (fun x_6 ex_6 => ?_)
      have hx_6 : 0 ≤ x_6.toInt ∧ x_6.toInt ≤ 30 := iv_of ex_6 (oInv.iv gI to.2 rfl rfl)
      have gx_6 : x_6.toInt = (oI Z o 2).toInt := iv_to ex_6
      clear ex_6
      refine lv_icmp_ge (tgt := 68) hx hb dX5_nextPresume_10 (by decide) (fun c_7 => ?_) (fun c_7 => ?_)
      · have dc_7 := c_le (a := x_6.toInt) (b := y_3.toInt) rfl rfl c_7
        refine lv_iload_n hx hb dX5_nextPresume_68 rfl (lv_at hl 1 rfl) ?_
        exact W.iret (v := y_4) hx hb hr (fun t ht hW => ⟨⟨y_4, (), rfl, ⟨(by omega), ⟨by omega, by unfold qP; rw [show (v 42).toNatClampNeg = y_3.toNatClampNeg from (show (v 42).toInt.toNat = y_3.toInt.toNat by omega)]; exact hq0_cut_2⟩⟩, trivial⟩, hS.F ht⟩) hS.2.2 dX5_nextPresume_69
      · have dc_7 := c_nle (a := x_6.toInt) (b := y_3.toInt) rfl rfl c_7
        refine lv_aload_n hx hb dX5_nextPresume_13 rfl (lv_at hl 2 rfl) ?_
        obtain ⟨b_8, hb_8⟩ := oInv.nn (i := 0) gI to rfl
        refine va_get (D := (dC, dI)) (ci := 5) (v := .ref b_8) (C := RX5) (T := TX5) (N := 3) hx hb hts in_wsX5_nextPresume_X5 hown hK hP q_5 hq_5 rfl 0 (by decide) (hts (.fieldLink RX5 11 "ShipOffice$Law" "acts" "[LShipOffice$Act;") iw_X5_nextPresume_2) (fun _ h9 => h9) (o_rd hb_8) dX5_nextPresume_14 ?_
        have tb_8 : oty Z b_8 12 := oInv.rd gI to.2 hb_8 rfl rfl
        refine lv_iload_n hx hb dX5_nextPresume_17 rfl (lv_at hl 0 rfl) ?_
        obtain ⟨q_9, hq_9⟩ := og (cq := cq) tb_8.1 (oE_12 tb_8.2)
        refine va_aldq hx hb hK hP q_9 2 hq_9 rfl (vp_in_iff.mpr (by omega)) dX5_nextPresume_18 ?_
        obtain ⟨b_10, hb_10⟩ := oInv.el (i := 2) (x := y_3) gI to rfl hb_8 (by omega) (by omega)
        refine W.eq (g2 := F0 m 19 ls [.ref b_10]) (congrArg (fun z => F0 m 19 ls [va_rf z]) hb_10) ?_
        have tb_10 : oty Z b_10 0 := oInv.rd gI tb_8.2 hb_10 rfl rfl
        have ejb_10 : b_10 = acA Z o y_3.toNatClampNeg := by unfold acA; rw [oQ_e hb_8, oQ_e hb_10]
        have hAb_10 := hL.2.1 y_3.toNatClampNeg (ni_lt (by omega) (by omega))
        rw [← ejb_10] at hAb_10
        obtain ⟨fu0b_10, fu1b_10, -⟩ := hAb_10
        obtain ⟨q_11, hq_11⟩ := og (cq := cq) tb_10.1 (oE_0 tb_10.2)
        refine va_get (D := (dC, dI)) (ci := 0) (v := .int (oI Z b_10 0)) (C := RX0) (T := TX0) (N := 5) hx hb hts in_wsX5_nextPresume_X0 hown hK hP q_11 hq_11 rfl 0 (by decide) (hts (.fieldLink RX5 27 "ShipOffice$Act" "purpose" "I") iw_X5_nextPresume_3) (fun _ h9 => h9) rfl dX5_nextPresume_19 ?_
        refine lv_topi (fun x_12 ex_12 => ?_)
        have gx_12 : x_12.toInt = (oI Z b_10 0).toInt := iv_to ex_12
        clear ex_12
        refine lv_iconst (v := 4) hx hb dX5_nextPresume_22 (by decide) ?_
        refine lv_icmp_ne (tgt := 62) hx hb dX5_nextPresume_23 (by decide) (fun c_13 => ?_) (fun c_13 => ?_)
        · have dc_13 := c_ne (a := x_12.toInt) (b := 4) rfl (by decide) c_13
          obtain ⟨x_14, ex_14⟩ : ∃ zq : Int32, y_3 + 1 = zq := ⟨_, rfl⟩
          have hx_14 : x_14.toInt = y_3.toInt + 1 := (iv_to ex_14).symm.trans (ad_i rfl (by decide) (by omega) (by omega))
          refine lv_iinc (v := x_14) (lv' := [(3, .int x_14), (2, .int y_4), (0, .ref o), (1, .int x1)]) hx hb dX5_nextPresume_62 hl (k := 0) rfl ex_14 (by decide) rfl (fun ls hl => ?_)
          clear ex_14
          refine lv_goto (tgt := 5) hx hb dX5_nextPresume_65 (by decide) ?_
          exact ih (n - 1) (by omega) x_14 y_4 _ _ ls (by omega) (by omega) (by omega) (qPn_s hq0_cut_2 (by omega) (by intro h1 h2; omega) (by omega) (by omega)) (by omega) (by omega) hP hS (lv_sub hl [0, 1, 2, 3] rfl)
        · have dc_13 := c_eq (a := x_12.toInt) (b := 4) rfl (by decide) c_13
          refine lv_aload_n hx hb dX5_nextPresume_26 rfl (lv_at hl 2 rfl) ?_
          refine va_get (D := (dC, dI)) (ci := 5) (v := .ref b_8) (C := RX5) (T := TX5) (N := 3) hx hb hts in_wsX5_nextPresume_X5 hown hK hP q_5 hq_5 rfl 0 (by decide) (hts (.fieldLink RX5 11 "ShipOffice$Law" "acts" "[LShipOffice$Act;") iw_X5_nextPresume_2) (fun _ h9 => h9) (o_rd hb_8) dX5_nextPresume_27 ?_
          refine lv_iload_n hx hb dX5_nextPresume_30 rfl (lv_at hl 0 rfl) ?_
          refine va_aldq hx hb hK hP q_9 2 hq_9 rfl (vp_in_iff.mpr (by omega)) dX5_nextPresume_31 ?_
          obtain ⟨b_15, hb_15⟩ := oInv.el (i := 2) (x := y_3) gI to rfl hb_8 (by omega) (by omega)
          refine W.eq (g2 := F0 m 32 ls [.ref b_15]) (congrArg (fun z => F0 m 32 ls [va_rf z]) hb_15) ?_
          have tb_15 : oty Z b_15 0 := oInv.rd gI tb_8.2 hb_15 rfl rfl
          have ejb_15 : b_15 = acA Z o y_3.toNatClampNeg := by unfold acA; rw [oQ_e hb_8, oQ_e hb_15]
          have hAb_15 := hL.2.1 y_3.toNatClampNeg (ni_lt (by omega) (by omega))
          rw [← ejb_15] at hAb_15
          obtain ⟨fu0b_15, fu1b_15, -⟩ := hAb_15
          obtain ⟨q_16, hq_16⟩ := og (cq := cq) tb_15.1 (oE_0 tb_15.2)
          refine va_get (D := (dC, dI)) (ci := 0) (v := .int (oI Z b_15 1)) (C := RX0) (T := TX0) (N := 5) hx hb hts in_wsX5_nextPresume_X0 hown hK hP q_16 hq_16 rfl 1 (by decide) (hts (.fieldLink RX5 30 "ShipOffice$Act" "day" "I") iw_X5_nextPresume_4) (fun _ h9 => h9) rfl dX5_nextPresume_32 ?_
          refine lv_topi (fun x_17 ex_17 => ?_)
          have gx_17 : x_17.toInt = (oI Z b_15 1).toInt := iv_to ex_17
          clear ex_17
          refine lv_iload_n hx hb dX5_nextPresume_35 rfl (lv_at hl 3 rfl) ?_
          refine lv_icmp_le (tgt := 62) hx hb dX5_nextPresume_36 (by decide) (fun c_18 => ?_) (fun c_18 => ?_)
          · have dc_18 := c_le (a := x_17.toInt) (b := x1.toInt) rfl rfl c_18
            obtain ⟨x_19, ex_19⟩ : ∃ zq : Int32, y_3 + 1 = zq := ⟨_, rfl⟩
            have hx_19 : x_19.toInt = y_3.toInt + 1 := (iv_to ex_19).symm.trans (ad_i rfl (by decide) (by omega) (by omega))
            refine lv_iinc (v := x_19) (lv' := [(3, .int x_19), (2, .int y_4), (0, .ref o), (1, .int x1)]) hx hb dX5_nextPresume_62 hl (k := 0) rfl ex_19 (by decide) rfl (fun ls hl => ?_)
            clear ex_19
            refine lv_goto (tgt := 5) hx hb dX5_nextPresume_65 (by decide) ?_
            exact ih (n - 1) (by omega) x_19 y_4 _ _ ls (by omega) (by omega) (by omega) (qPn_s hq0_cut_2 (by omega) (by intro h1 h2; omega) (by omega) (by omega)) (by omega) (by omega) hP hS (lv_sub hl [0, 1, 2, 3] rfl)
          · have dc_18 := c_nle (a := x_17.toInt) (b := x1.toInt) rfl rfl c_18
            refine lv_aload_n hx hb dX5_nextPresume_39 rfl (lv_at hl 2 rfl) ?_
            refine va_get (D := (dC, dI)) (ci := 5) (v := .ref b_8) (C := RX5) (T := TX5) (N := 3) hx hb hts in_wsX5_nextPresume_X5 hown hK hP q_5 hq_5 rfl 0 (by decide) (hts (.fieldLink RX5 11 "ShipOffice$Law" "acts" "[LShipOffice$Act;") iw_X5_nextPresume_2) (fun _ h9 => h9) (o_rd hb_8) dX5_nextPresume_40 ?_
            refine lv_iload_n hx hb dX5_nextPresume_43 rfl (lv_at hl 0 rfl) ?_
            refine va_aldq hx hb hK hP q_9 2 hq_9 rfl (vp_in_iff.mpr (by omega)) dX5_nextPresume_44 ?_
            obtain ⟨b_20, hb_20⟩ := oInv.el (i := 2) (x := y_3) gI to rfl hb_8 (by omega) (by omega)
            refine W.eq (g2 := F0 m 45 ls [.ref b_20]) (congrArg (fun z => F0 m 45 ls [va_rf z]) hb_20) ?_
            have tb_20 : oty Z b_20 0 := oInv.rd gI tb_8.2 hb_20 rfl rfl
            have ejb_20 : b_20 = acA Z o y_3.toNatClampNeg := by unfold acA; rw [oQ_e hb_8, oQ_e hb_20]
            have hAb_20 := hL.2.1 y_3.toNatClampNeg (ni_lt (by omega) (by omega))
            rw [← ejb_20] at hAb_20
            obtain ⟨fu0b_20, fu1b_20, -⟩ := hAb_20
            obtain ⟨q_21, hq_21⟩ := og (cq := cq) tb_20.1 (oE_0 tb_20.2)
            refine va_get (D := (dC, dI)) (ci := 0) (v := .int (oI Z b_20 1)) (C := RX0) (T := TX0) (N := 5) hx hb hts in_wsX5_nextPresume_X0 hown hK hP q_21 hq_21 rfl 1 (by decide) (hts (.fieldLink RX5 30 "ShipOffice$Act" "day" "I") iw_X5_nextPresume_4) (fun _ h9 => h9) rfl dX5_nextPresume_45 ?_
            refine lv_topi (fun x_22 ex_22 => ?_)
            have gx_22 : x_22.toInt = (oI Z b_20 1).toInt := iv_to ex_22
            clear ex_22
            refine lv_iload_n hx hb dX5_nextPresume_48 rfl (lv_at hl 1 rfl) ?_
            refine lv_icmp_ge (tgt := 62) hx hb dX5_nextPresume_49 (by decide) (fun c_23 => ?_) (fun c_23 => ?_)
            · have dc_23 := c_le (a := y_4.toInt) (b := x_22.toInt) rfl rfl c_23
              obtain ⟨x_24, ex_24⟩ : ∃ zq : Int32, y_3 + 1 = zq := ⟨_, rfl⟩
              have hx_24 : x_24.toInt = y_3.toInt + 1 := (iv_to ex_24).symm.trans (ad_i rfl (by decide) (by omega) (by omega))
              refine lv_iinc (v := x_24) (lv' := [(3, .int x_24), (2, .int y_4), (0, .ref o), (1, .int x1)]) hx hb dX5_nextPresume_62 hl (k := 0) rfl ex_24 (by decide) rfl (fun ls hl => ?_)
              clear ex_24
              refine lv_goto (tgt := 5) hx hb dX5_nextPresume_65 (by decide) ?_
              exact ih (n - 1) (by omega) x_24 y_4 _ _ ls (by omega) (by omega) (by omega) (qPn_s hq0_cut_2 (by omega) (by intro h1 h2; omega) (by omega) (by omega)) (by omega) (by omega) hP hS (lv_sub hl [0, 1, 2, 3] rfl)
            · have dc_23 := c_nle (a := y_4.toInt) (b := x_22.toInt) rfl rfl c_23
              refine lv_aload_n hx hb dX5_nextPresume_52 rfl (lv_at hl 2 rfl) ?_
              refine va_get (D := (dC, dI)) (ci := 5) (v := .ref b_8) (C := RX5) (T := TX5) (N := 3) hx hb hts in_wsX5_nextPresume_X5 hown hK hP q_5 hq_5 rfl 0 (by decide) (hts (.fieldLink RX5 11 "ShipOffice$Law" "acts" "[LShipOffice$Act;") iw_X5_nextPresume_2) (fun _ h9 => h9) (o_rd hb_8) dX5_nextPresume_53 ?_
              refine lv_iload_n hx hb dX5_nextPresume_56 rfl (lv_at hl 0 rfl) ?_
              refine va_aldq hx hb hK hP q_9 2 hq_9 rfl (vp_in_iff.mpr (by omega)) dX5_nextPresume_57 ?_
              obtain ⟨b_25, hb_25⟩ := oInv.el (i := 2) (x := y_3) gI to rfl hb_8 (by omega) (by omega)
              refine W.eq (g2 := F0 m 58 ls [.ref b_25]) (congrArg (fun z => F0 m 58 ls [va_rf z]) hb_25) ?_
              have tb_25 : oty Z b_25 0 := oInv.rd gI tb_8.2 hb_25 rfl rfl
              have ejb_25 : b_25 = acA Z o y_3.toNatClampNeg := by unfold acA; rw [oQ_e hb_8, oQ_e hb_25]
              have hAb_25 := hL.2.1 y_3.toNatClampNeg (ni_lt (by omega) (by omega))
              rw [← ejb_25] at hAb_25
              obtain ⟨fu0b_25, fu1b_25, -⟩ := hAb_25
              obtain ⟨q_26, hq_26⟩ := og (cq := cq) tb_25.1 (oE_0 tb_25.2)
              refine va_get (D := (dC, dI)) (ci := 0) (v := .int (oI Z b_25 1)) (C := RX0) (T := TX0) (N := 5) hx hb hts in_wsX5_nextPresume_X0 hown hK hP q_26 hq_26 rfl 1 (by decide) (hts (.fieldLink RX5 30 "ShipOffice$Act" "day" "I") iw_X5_nextPresume_4) (fun _ h9 => h9) rfl dX5_nextPresume_58 ?_
              refine lv_topi (fun x_27 ex_27 => ?_)
              have gx_27 : x_27.toInt = (oI Z b_25 1).toInt := iv_to ex_27
              clear ex_27
              refine lv_istore_n (lv' := [(2, .int x_27), (3, .int y_3), (0, .ref o), (1, .int x1)]) hx hb dX5_nextPresume_61 rfl hl (by decide) rfl (fun ls hl => ?_)
              obtain ⟨x_28, ex_28⟩ : ∃ zq : Int32, y_3 + 1 = zq := ⟨_, rfl⟩
              have hx_28 : x_28.toInt = y_3.toInt + 1 := (iv_to ex_28).symm.trans (ad_i rfl (by decide) (by omega) (by omega))
              refine lv_iinc (v := x_28) (lv' := [(3, .int x_28), (2, .int x_27), (0, .ref o), (1, .int x1)]) hx hb dX5_nextPresume_62 hl (k := 1) rfl ex_28 (by decide) rfl (fun ls hl => ?_)
              clear ex_28
              refine lv_goto (tgt := 5) hx hb dX5_nextPresume_65 (by decide) ?_
              exact ih (n - 1) (by omega) x_28 x_27 _ _ ls (by omega) (by omega) (by omega) (qPn_s hq0_cut_2 (by omega) (by intro h1 h2; omega) (by omega) (by omega)) (by omega) (by omega) hP hS (lv_sub hl [0, 1, 2, 3] rfl)
  have kc_29 : (0 : Int32).toInt = 0 := by decide
  have kc_30 : (1000000 : Int32).toInt = 1000000 := by decide
  exact cut_2 31 0 1000000 _ _ ls (by omega) (by decide) (by decide) (qPn_0 (by decide)) (by have rc : (1000000 : Int32).toInt = 1000000 := (by decide); omega) (by have rc : (0 : Int32).toInt = 0 := (by decide); omega) hP hS (lv_sub hl [0, 1, 2, 3] rfl)
