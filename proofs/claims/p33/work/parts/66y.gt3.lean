


set_option maxHeartbeats 4000000 in
set_option maxRecDepth 100000 in
theorem c_J7_fill_d0a16_s (l : Launch) (dC : Nat → ClassId) (dI : Nat → Nat → Nat) (sz : Nat) (cq : Nat → ClassId) (Z : oS) (gI : oInv Z) (a1 : Nat) (ta1 : oty Z a1 18) (x2 : Int64) : Met l yJ7_fill_d0a16 wsJ7_fill_d0a16 ({ frames := 0, cells := 0, slots := 0, locals := 0 }) (va_Pc [.ref a1, .long x2] (pcW (dC, dI) (oT cq) (oW cq Z) sz)) (va_Qv (fun (u : oS) => oInv u ∧ oX [2018] Z u ∧ (∀ j, j < 81 → oJ u a1 j = x2)) (fun u t => va_P (dC, dI) vwCl (oW cq u) t.heap ∧ va_K (dC, dI) vwCl (oT cq) t ∧ va_D (va_A (oW cq Z) sz) (oW cq u)) (va_A (oW cq Z) sz)) 0 0 (va_A (oW cq Z) sz) := by
  refine Met.ofW (cc := cJ7_fill_d0a16) (maxL := 5) (ret := none) (by decide) rfl ?_
  intro p e s m args below meth c s₁ B hml hv
  obtain ⟨rfl, hsz, hP, hK, hD0⟩ := hv
  have hx := B.exec
  have hb := B.bytes
  have hr := B.returns
  have hts := atoms_spec (ws := wsJ7_fill_d0a16) B.pre
  have hown : s.vm.findClass RJ7 = some m.cls := findClass_of_methodNamed B.named
  have hlocks := B.notSynchronized
  subst hsz
  have hD := hD0.self (sz := s.heap.size)
  generalize hAe : va_A (oW cq Z) s.heap.size = A at hD ⊢
  have hA : ∀ q : Nat, s.heap.size ≤ q → A q := fun q h => by rw [← hAe]; exact Or.inr h
  have hS : va_S A s.heap s.heap [] := va_S.rf
  have hP : va_P (dC, dI) vwCl (oW cq Z) s.heap := hP
  have hl := lv_entry ([.ref a1, .long x2]) (n := 5) (Nat.le_of_ble_eq_true rfl)
  rw [lg_entry_eq]
  generalize (lg_sl ([.ref a1, .long x2]) ++ List.replicate (5 - (lg_sl ([.ref a1, .long x2])).length) Slot.unset).toArray = ls at hl ⊢
  have hl : lv_has ls 5 [(0, .ref a1), (1, .long x2)] := hl
  refine lv_iconst (v := 0) hx hb dJ7_fill_d0a16_0 (by decide) ?_
  refine lv_istore_n (lv' := [(3, .int 0), (0, .ref a1), (1, .long x2)]) hx hb dJ7_fill_d0a16_1 rfl hl (by decide) rfl (fun ls hl => ?_)
  refine lv_aload_n hx hb dJ7_fill_d0a16_2 rfl (lv_at hl 1 rfl) ?_
  obtain ⟨q_1, hq_1⟩ := og (cq := cq) ta1.1 (oE_18 ta1.2)
  refine va_alen (v := 81) hx hb hK hP q_1 1 hq_1 rfl (show Int32.ofNat 81 = 81 by decide) dJ7_fill_d0a16_3 ?_
  refine lv_istore (lv' := [(4, .int 81), (3, .int 0), (0, .ref a1), (1, .long x2)]) hx hb dJ7_fill_d0a16_4 hl (by decide) rfl (fun ls hl => ?_)
  have cut_2 : ∀ (n : Nat) (y_3 : Int32) (S_4 : oS) (H : Heap) (locs : List Loc) (ls : Array Slot), 81 - y_3.toInt ≤ (n : Int) → (0 ≤ y_3.toInt ∧ y_3.toInt ≤ 81) → (∀ j, j < y_3.toNatClampNeg → oJ S_4 a1 j = x2) → oInv S_4 → oX [2018] Z S_4 → va_P (dC, dI) vwCl (oW cq S_4) H → va_D A (oW cq S_4) → va_S A s.heap H locs → lv_has ls 5 [(3, .int y_3), (4, .int 81), (0, .ref a1), (1, .long x2)] → W p l e (headSpec wsJ7_fill_d0a16 { frames := 0, cells := 0, slots := 0, locals := 0 }).room s m #[Value.ref a1, Value.long x2] below meth c H locs 0 0 (MQ below (va_Qv (fun (u : oS) => oInv u ∧ oX [2018] Z u ∧ (∀ j, j < 81 → oJ u a1 j = x2)) (fun u t => va_P (dC, dI) vwCl (oW cq u) t.heap ∧ va_K (dC, dI) vwCl (oT cq) t ∧ va_D A (oW cq u)) A) #[Value.ref a1, Value.long x2] s 0 0 A) (F0 m 6 ls []) := by
    intro n
    induction n using Nat.strongRecOn with
    | ind n ih =>
      intro y_3 S_4 H locs ls hm hy_3 hq0_cut_2 hIS_4 XS_4 hP hD hS hl
      have YS_4 : oX [2018] Z S_4 := oX.st oX.rf XS_4 (fun _ q => q)
      refine lv_iload_n hx hb dJ7_fill_d0a16_6 rfl (lv_at hl 0 rfl) ?_
      refine lv_iload hx hb dJ7_fill_d0a16_7 (lv_at hl 1 rfl) ?_
      refine lv_icmp_ge (tgt := 22) hx hb dJ7_fill_d0a16_9 (by decide) (fun c_5 => ?_) (fun c_5 => ?_)
      · have dc_5 := c_le (a := 81) (b := y_3.toInt) (by decide) rfl c_5
        exact W.vret hx hb hr (fun t ht hW => ⟨⟨S_4, rfl, ⟨hIS_4, YS_4, (fun j hj => hq0_cut_2 j (show j < y_3.toInt.toNat by omega))⟩, ⟨by rw [ht]; exact hP, va_K.moved hW.alike hK, hD⟩⟩, hS.F ht⟩) hS.2.2 dJ7_fill_d0a16_22
      · have dc_5 := c_nle (a := 81) (b := y_3.toInt) (by decide) rfl c_5
        refine lv_aload_n hx hb dJ7_fill_d0a16_12 rfl (lv_at hl 2 rfl) ?_
        refine lv_iload_n hx hb dJ7_fill_d0a16_13 rfl (lv_at hl 0 rfl) ?_
        refine lv_lload_n hx hb dJ7_fill_d0a16_14 rfl (lv_at hl 3 rfl) ?_
        have t_6 : oty S_4 a1 18 := (oX.ty XS_4 ta1)
        obtain ⟨q_7, hq_7⟩ := og (cq := cq) t_6.1 (oE_18 t_6.2)
        refine va_last hx hb hK hP hD hS q_7 1 hq_7 rfl (vp_in_iff.mpr (by omega)) dJ7_fill_d0a16_15 (fun H locs hP1 hD1 hS => ?_)
        obtain ⟨S_8, eS_8⟩ : ∃ zq, zq = setJ S_4 a1 (y_3 : Int32).toNatClampNeg x2 := ⟨_, rfl⟩
        have hP : va_P (dC, dI) vwCl (oW cq S_8) H := by rw [eS_8]; exact cP (oset t_6.1 hq_7 hD rfl (he_18 t_6.2) neJ) hP1
        have hD : va_D A (oW cq S_8) := by rw [eS_8]; exact cD (oset t_6.1 hq_7 hD rfl (he_18 t_6.2) neJ) hD1
        clear hP1 hD1
        have hIS_8 : oInv S_8 := by rw [eS_8]; exact oInv.J hIS_4
        have XS_8 : oX [2018] S_4 S_8 := by rw [eS_8]; exact oX.J (k := 18) (key := 2018) t_6.2 (fun _ => rfl) (List.mem_singleton.mpr rfl)
        have X_9 : oX [2018] Z S_8 := oX.st YS_4 XS_8 (by decide)
        obtain ⟨x_10, ex_10⟩ : ∃ zq : Int32, y_3 + 1 = zq := ⟨_, rfl⟩
        have hx_10 : x_10.toInt = y_3.toInt + 1 := (iv_to ex_10).symm.trans (ad_i rfl (by decide) (by omega) (by omega))
        refine lv_iinc (v := x_10) (lv' := [(3, .int x_10), (4, .int 81), (0, .ref a1), (1, .long x2)]) hx hb dJ7_fill_d0a16_16 hl (k := 0) rfl ex_10 (by decide) rfl (fun ls hl => ?_)
        clear ex_10
        refine lv_goto (tgt := 6) hx hb dJ7_fill_d0a16_19 (by decide) ?_
        exact ih (n - 1) (by omega) x_10 S_8 _ _ ls (by omega) (by omega) (fun j hj => by rw [eS_8, setJ_fun]; by_cases q : j = y_3.toNatClampNeg; (case pos => rw [q, upL_e]); (case neg => rw [upL_n q]; exact hq0_cut_2 j (by have q1 : y_3.toNatClampNeg = y_3.toInt.toNat := rfl; have q2 : x_10.toNatClampNeg = x_10.toInt.toNat := rfl; omega))) hIS_8 (oX.st (oX.st oX.rf XS_4 (by decide)) XS_8 (by decide)) hP hD hS (lv_sub hl [0, 1, 2, 3] rfl)
  have kc_11 : (0 : Int32).toInt = 0 := by decide
  exact cut_2 82 0 Z _ _ ls (by omega) (by decide) (fun j hj => absurd hj (by rw [show (0 : Int32).toNatClampNeg = 0 from by decide]; exact Nat.not_lt_zero j)) gI oX.rf hP hD hS (lv_sub hl [1, 0, 2, 3] rfl)
theorem ho_d {x c r : Int32} (hc : 0 ≤ c.toInt ∧ c.toInt ≤ 3) (h : r.toInt = x.toInt / (if c.toInt = 0 then 1 else if c.toInt = 1 then 3 else if c.toInt = 2 then 9 else 27) % 3) (h0 : 0 ≤ x.toInt) : r.toInt = (dg x.toNatClampNeg c.toNatClampNeg : Int) := by
  have q := dg_v x.toNatClampNeg
  have e : x.toNatClampNeg = x.toInt.toNat := rfl
  have k : c.toInt = 0 ∨ c.toInt = 1 ∨ c.toInt = 2 ∨ c.toInt = 3 := by omega
  have ec : c.toNatClampNeg = c.toInt.toNat := rfl
  rcases k with k | k | k | k
  · rw [ec, k]
    rw [k, if_pos rfl] at h
    show r.toInt = (dg x.toNatClampNeg 0 : Int)
    omega
  · rw [ec, k]
    rw [k, if_neg (by decide), if_pos rfl] at h
    show r.toInt = (dg x.toNatClampNeg 1 : Int)
    omega
  · rw [ec, k]
    rw [k, if_neg (by decide), if_neg (by decide), if_pos rfl] at h
    show r.toInt = (dg x.toNatClampNeg 2 : Int)
    omega
  · rw [ec, k]
    rw [k, if_neg (by decide), if_neg (by decide), if_neg (by decide)] at h
    show r.toInt = (dg x.toNatClampNeg 3 : Int)
    omega
set_option maxHeartbeats 4000000 in
set_option maxRecDepth 100000 in
theorem c_X4_begin_c (l : Launch) (dC : Nat → ClassId) (dI : Nat → Nat → Nat) (sz : Nat) (tL tS tG : Nat) (cq : Nat → ClassId) (Z : oS) (gI : oInv Z) (o : Nat) (to : oty Z o 4) (x1 : Int32) (hx1 : 0 ≤ x1.toInt ∧ x1.toInt ≤ 80) (br of9 fr : Nat) (hbr : oP Z o 0 = some br) (hof : oP Z o 1 = some of9) (hfr : oP Z o 3 = some fr) : Met l yX4_begin wsX4_begin ({ frames := 1, cells := 0, slots := 0, locals := 24 }) (va_Pc [.ref o, .int x1] (pcO (dC, dI) (oT cq) (oW cq Z) sz tL tS tG (oW cq Z))) (va_Qv (fun (u : oS) => oInv u ∧ oX [402, 404, 405, 2018, 2061] Z u ∧ (((oI u o 2).toInt = 0 ∧ (oI u o 4).toInt = x1.toInt ∧ (oI u o 5).toInt = (hnd x1.toNatClampNeg : Int)) ∧ (∀ r, r < 4 → (oI u fr r).toInt = (fpl x1.toNatClampNeg r : Int)) ∧ ∀ c, c < 81 → (c = 0 ∧ (oJ u br c).toInt = 0) ∨ (c ≠ 0 ∧ (oJ u br c).toInt = 1152921504606846976))) (fun u t => va_P (dC, dI) vwCl (oW cq u) t.heap ∧ va_K (dC, dI) vwCl (oT cq) t ∧ va_D (va_A (oW cq Z) sz) (oW cq u)) (va_A (oW cq Z) sz)) 0 0 (va_A (oW cq Z) sz) := by
  refine Met.ofW (cc := cX4_begin) (maxL := 3) (ret := none) (by decide) rfl ?_
  intro p e s m args below meth c s₁ B hml hv
  obtain ⟨rfl, ⟨hsz, hP, hK, hD0⟩, hZ⟩ := hv
  have hx := B.exec
  have hb := B.bytes
  have hr := B.returns
  have hts := atoms_spec (ws := wsX4_begin) B.pre
  have hown : s.vm.findClass RX4 = some m.cls := findClass_of_methodNamed B.named
  have hlocks := B.notSynchronized
  subst hsz
  have hD := hD0.self (sz := s.heap.size)
  generalize hAe : va_A (oW cq Z) s.heap.size = A at hD hZ ⊢
  have hA : ∀ q : Nat, s.heap.size ≤ q → A q := fun q h => by rw [← hAe]; exact Or.inr h
  have hS : va_S A s.heap s.heap [] := va_S.rf
  have hP : va_P (dC, dI) vwCl (oW cq Z) s.heap := hP
  have hl := lv_entry ([.ref o, .int x1]) (n := 3) (Nat.le_of_ble_eq_true rfl)
  rw [lg_entry_eq]
  generalize (lg_sl ([.ref o, .int x1]) ++ List.replicate (3 - (lg_sl ([.ref o, .int x1])).length) Slot.unset).toArray = ls at hl ⊢
  have hl : lv_has ls 3 [(0, .ref o), (1, .int x1)] := hl
  have tbr : oty Z br 18 := oInv.rd gI to.2 hbr rfl rfl
  have tof : oty Z of9 62 := oInv.rd gI to.2 hof rfl rfl
  have tfr : oty Z fr 61 := oInv.rd gI to.2 hfr rfl rfl
  refine lv_aload_n hx hb dX4_begin_0 rfl (lv_at hl 0 rfl) ?_
  obtain ⟨q_1, hq_1⟩ := og (cq := cq) to.1 (oE_4 to.2)
  refine va_get (D := (dC, dI)) (ci := 4) (v := .ref br) (C := RX4) (T := TX4) (N := 6) hx hb hts in_wsX4_begin_X4 hown hK hP q_1 hq_1 rfl 0 (by decide) (hts (.fieldLink RX4 11 "ShipOffice$Hiring" "best" "[J") iw_X4_begin_1) (fun _ h9 => h9) (o_rd hbr) dX4_begin_1 ?_
  refine lv_ldc2 (v := 1152921504606846976) hx hb hown (hts (.constantLong RX4 22 (1152921504606846976)) (by decide +kernel)) dX4_begin_4 ?_
  have hFc := o_free hD hS hA
  refine va_callv (va_runS (As := [.ref br, .long 1152921504606846976]) (rest := []) ⟨hx, hb, hml, hown, hts⟩ (c_J7_fill_d0a16_s l dC dI s.heap.size cq Z gI br tbr 1152921504606846976) (va_cwS 2 hts gX4_begin_J7_fill_d0a16 rfl rfl rfl (by decide +kernel) ⟨(Nat.le_of_ble_eq_true rfl), (Nat.le_of_ble_eq_true rfl)⟩) (pr_S hP hK hD) rfl rfl hl.1 rfl (lv_room (Nat.le_of_ble_eq_true rfl)) dX4_begin_7 ⟨(Nat.le_of_ble_eq_true rfl), (Nat.le_of_ble_eq_true rfl)⟩) hS (fun q _ h => hFc q h) hFc (fun u t H locs ht hvm w_2 hB hz1 hk1 hS => ?_)
  obtain ⟨S_4, rfl⟩ : ∃ z, z = u := ⟨_, rfl⟩
  obtain ⟨hP1, hK1, hD1⟩ := hB
  rw [ht] at hP1
  have hP : va_P (dC, dI) vwCl (oW cq S_4) H := hP1
  have hD : va_D A (oW cq S_4) := hD1.weaken (fun _ _ _ h => hFc _ h)
  clear hP1 hK1 hD1 hk1 hz1 hvm ht hFc
  obtain ⟨hIS_4, XS_4, hx_5⟩ := w_2
  have X_6 : oX [402, 404, 405, 2018, 2061] Z S_4 := oX.st oX.rf XS_4 (by decide)
  have g_7 : (oI S_4 o 2).toInt = (oI Z o 2).toInt := by rw [oX.i XS_4 to (by decide)]
  have g_8 : (oI S_4 o 4).toInt = (oI Z o 4).toInt := by rw [oX.i XS_4 to (by decide)]
  have g_9 : (oI S_4 o 5).toInt = (oI Z o 5).toInt := by rw [oX.i XS_4 to (by decide)]
  have pk_10 : oP S_4 o 0 = some br := by rw [oX.p XS_4 to (by decide)]; exact hbr
  have pk_11 : oP S_4 o 1 = some of9 := by rw [oX.p XS_4 to (by decide)]; exact hof
  have pk_12 : oP S_4 o 3 = some fr := by rw [oX.p XS_4 to (by decide)]; exact hfr
  refine lv_aload_n hx hb dX4_begin_10 rfl (lv_at hl 0 rfl) ?_
  have t_13 : oty S_4 o 4 := (oX.ty XS_4 to)
  obtain ⟨q_14, hq_14⟩ := og (cq := cq) t_13.1 (oE_4 t_13.2)
  refine va_get (D := (dC, dI)) (ci := 4) (v := .ref br) (C := RX4) (T := TX4) (N := 6) hx hb hts in_wsX4_begin_X4 hown hK hP q_14 hq_14 rfl 0 (by decide) (hts (.fieldLink RX4 11 "ShipOffice$Hiring" "best" "[J") iw_X4_begin_1) (fun _ h9 => h9) (o_rd pk_10) dX4_begin_11 ?_
  refine lv_iconst (v := 0) hx hb dX4_begin_14 (by decide) ?_
  refine lv_lconst (v := 0) hx hb dX4_begin_15 (by decide) ?_
  have t_15 : oty S_4 br 18 := (oX.ty XS_4 tbr)
  obtain ⟨q_16, hq_16⟩ := og (cq := cq) t_15.1 (oE_18 t_15.2)
  refine va_last hx hb hK hP hD hS q_16 1 hq_16 rfl (by unfold vp_in; decide) dX4_begin_16 (fun H locs hP1 hD1 hS => ?_)
  obtain ⟨S_17, eS_17⟩ : ∃ zq, zq = setJ S_4 br (0 : Int32).toNatClampNeg 0 := ⟨_, rfl⟩
  have hP : va_P (dC, dI) vwCl (oW cq S_17) H := by rw [eS_17]; exact cP (oset t_15.1 hq_16 hD rfl (he_18 t_15.2) neJ) hP1
  have hD : va_D A (oW cq S_17) := by rw [eS_17]; exact cD (oset t_15.1 hq_16 hD rfl (he_18 t_15.2) neJ) hD1
  clear hP1 hD1
  have hIS_17 : oInv S_17 := by rw [eS_17]; exact oInv.J hIS_4
  have XS_17 : oX [2018] S_4 S_17 := by rw [eS_17]; exact oX.J (k := 18) (key := 2018) t_15.2 (fun _ => rfl) (List.mem_singleton.mpr rfl)
  have pk_18 : oP S_17 o 0 = some br := by rw [eS_17]; exact pk_10
  have pk_19 : oP S_17 o 1 = some of9 := by rw [eS_17]; exact pk_11
  have pk_20 : oP S_17 o 3 = some fr := by rw [eS_17]; exact pk_12
  have X_21 : oX [402, 404, 405, 2018, 2061] Z S_17 := oX.st X_6 XS_17 (by decide)
  have g_22 : (oI S_17 o 2).toInt = (oI S_4 o 2).toInt := by rw [eS_17]; rfl
  have g_23 : (oI S_17 o 4).toInt = (oI S_4 o 4).toInt := by rw [eS_17]; rfl
  have g_24 : (oI S_17 o 5).toInt = (oI S_4 o 5).toInt := by rw [eS_17]; rfl
  have hjb : ∀ c, c < 81 → (c = 0 ∧ (oJ S_17 br c).toInt = 0) ∨ (c ≠ 0 ∧ (oJ S_17 br c).toInt = 1152921504606846976) := fun c hc => by rw [eS_17, setJ_fun, show (0 : Int32).toNatClampNeg = 0 from by decide]; by_cases q : c = 0; (case pos => rw [q, upL_e]; exact Or.inl ⟨rfl, by decide⟩); (case neg => rw [upL_n q, hx_5 c hc]; exact Or.inr ⟨q, no_i⟩)
  refine lv_aload_n hx hb dX4_begin_17 rfl (lv_at hl 0 rfl) ?_
  refine lv_iconst (v := 0) hx hb dX4_begin_18 (by decide) ?_
  have t_25 : oty S_17 o 4 := (oX.ty XS_17 t_13)
  obtain ⟨q_26, hq_26⟩ := og (cq := cq) t_25.1 (oE_4 t_25.2)
  refine va_put (D := (dC, dI)) (ci := 4) (v := .int 0) (ty := .int) (C := RX4) (T := TX4) (N := 6) hx hb hts in_wsX4_begin_X4 tyX4 tyX4_ok nmX4 hown hK hP hD hS q_26 hq_26 rfl 2 (by decide) (hts (.fieldLink RX4 30 "ShipOffice$Hiring" "offerCount" "I") iw_X4_begin_2) (fun _ h9 => h9) rfl (by decide +kernel) rfl rfl (Nat.le_of_ble_eq_true rfl) dX4_begin_19 (fun H locs hP1 hD1 hS => ?_)
  obtain ⟨S_27, eS_27⟩ : ∃ zq, zq = setI S_17 o 2 0 := ⟨_, rfl⟩
  have hP : va_P (dC, dI) vwCl (oW cq S_27) H := by rw [eS_27]; exact cP (oset t_25.1 hq_26 hD rfl (he_4_2 t_25.2) neI) hP1
  have hD : va_D A (oW cq S_27) := by rw [eS_27]; exact cD (oset t_25.1 hq_26 hD rfl (he_4_2 t_25.2) neI) hD1
  clear hP1 hD1
  have hIS_27 : oInv S_27 := by rw [eS_27]; exact oInv.I0 (k := 4) (lo := 0) (hi := 12) hIS_17 t_25.2 (by decide) rfl rfl rfl (by decide)
  have XS_27 : oX [402] S_17 S_27 := by rw [eS_27]; exact oX.I (k := 4) (key := 402) t_25.2 rfl (List.mem_singleton.mpr rfl)
  have pk_28 : oP S_27 o 0 = some br := by rw [eS_27]; exact pk_18
  have pk_29 : oP S_27 o 1 = some of9 := by rw [eS_27]; exact pk_19
  have pk_30 : oP S_27 o 3 = some fr := by rw [eS_27]; exact pk_20
  have X_31 : oX [402, 404, 405, 2018, 2061] Z S_27 := oX.st X_21 XS_27 (by decide)
  have g_32 : (oI S_27 o 2).toInt = 0 := by rw [eS_27, setI_same]; decide
  have g_33 : (oI S_27 o 4).toInt = (oI S_17 o 4).toInt := by rw [eS_27, setI_ne (by decide)]
  have g_34 : (oI S_27 o 5).toInt = (oI S_17 o 5).toInt := by rw [eS_27, setI_ne (by decide)]
  refine lv_aload_n hx hb dX4_begin_22 rfl (lv_at hl 0 rfl) ?_
  refine lv_iload_n hx hb dX4_begin_23 rfl (lv_at hl 1 rfl) ?_
  have t_35 : oty S_27 o 4 := (oX.ty XS_27 t_25)
  obtain ⟨q_36, hq_36⟩ := og (cq := cq) t_35.1 (oE_4 t_35.2)
  refine va_put (D := (dC, dI)) (ci := 4) (v := .int x1) (ty := .int) (C := RX4) (T := TX4) (N := 6) hx hb hts in_wsX4_begin_X4 tyX4 tyX4_ok nmX4 hown hK hP hD hS q_36 hq_36 rfl 4 (by decide) (hts (.fieldLink RX4 34 "ShipOffice$Hiring" "goal" "I") iw_X4_begin_3) (fun _ h9 => h9) rfl (by decide +kernel) rfl rfl (Nat.le_of_ble_eq_true rfl) dX4_begin_24 (fun H locs hP1 hD1 hS => ?_)
  obtain ⟨S_37, eS_37⟩ : ∃ zq, zq = setI S_27 o 4 x1 := ⟨_, rfl⟩
  have hP : va_P (dC, dI) vwCl (oW cq S_37) H := by rw [eS_37]; exact cP (oset t_35.1 hq_36 hD rfl (he_4_4 t_35.2) neI) hP1
  have hD : va_D A (oW cq S_37) := by rw [eS_37]; exact cD (oset t_35.1 hq_36 hD rfl (he_4_4 t_35.2) neI) hD1
  clear hP1 hD1
  have hIS_37 : oInv S_37 := by rw [eS_37]; exact oInv.I0 (k := 4) (lo := 0) (hi := 80) hIS_27 t_35.2 (by decide) rfl rfl rfl (by omega)
  have XS_37 : oX [404] S_27 S_37 := by rw [eS_37]; exact oX.I (k := 4) (key := 404) t_35.2 rfl (List.mem_singleton.mpr rfl)
  have pk_38 : oP S_37 o 0 = some br := by rw [eS_37]; exact pk_28
  have pk_39 : oP S_37 o 1 = some of9 := by rw [eS_37]; exact pk_29
  have pk_40 : oP S_37 o 3 = some fr := by rw [eS_37]; exact pk_30
  have X_41 : oX [402, 404, 405, 2018, 2061] Z S_37 := oX.st X_31 XS_37 (by decide)
  have g_42 : (oI S_37 o 2).toInt = (oI S_27 o 2).toInt := by rw [eS_37, setI_ne (by decide)]
  have g_43 : (oI S_37 o 4).toInt = x1.toInt := by rw [eS_37, setI_same]
  have g_44 : (oI S_37 o 5).toInt = (oI S_27 o 5).toInt := by rw [eS_37, setI_ne (by decide)]
  refine lv_aload_n hx hb dX4_begin_27 rfl (lv_at hl 0 rfl) ?_
  refine lv_iconst (v := 0) hx hb dX4_begin_28 (by decide) ?_
  have t_45 : oty S_37 o 4 := (oX.ty XS_37 t_35)
  obtain ⟨q_46, hq_46⟩ := og (cq := cq) t_45.1 (oE_4 t_45.2)
  refine va_put (D := (dC, dI)) (ci := 4) (v := .int 0) (ty := .int) (C := RX4) (T := TX4) (N := 6) hx hb hts in_wsX4_begin_X4 tyX4 tyX4_ok nmX4 hown hK hP hD hS q_46 hq_46 rfl 5 (by decide) (hts (.fieldLink RX4 37 "ShipOffice$Hiring" "places" "I") iw_X4_begin_4) (fun _ h9 => h9) rfl (by decide +kernel) rfl rfl (Nat.le_of_ble_eq_true rfl) dX4_begin_29 (fun H locs hP1 hD1 hS => ?_)
  obtain ⟨S_47, eS_47⟩ : ∃ zq, zq = setI S_37 o 5 0 := ⟨_, rfl⟩
  have hP : va_P (dC, dI) vwCl (oW cq S_47) H := by rw [eS_47]; exact cP (oset t_45.1 hq_46 hD rfl (he_4_5 t_45.2) neI) hP1
  have hD : va_D A (oW cq S_47) := by rw [eS_47]; exact cD (oset t_45.1 hq_46 hD rfl (he_4_5 t_45.2) neI) hD1
  clear hP1 hD1
  have hIS_47 : oInv S_47 := by rw [eS_47]; exact oInv.I0 (k := 4) (lo := -2147483648) (hi := 2147483647) hIS_37 t_45.2 (by decide) rfl rfl rfl (iv_all _)
  have XS_47 : oX [405] S_37 S_47 := by rw [eS_47]; exact oX.I (k := 4) (key := 405) t_45.2 rfl (List.mem_singleton.mpr rfl)
  have pk_48 : oP S_47 o 0 = some br := by rw [eS_47]; exact pk_38
  have pk_49 : oP S_47 o 1 = some of9 := by rw [eS_47]; exact pk_39
  have pk_50 : oP S_47 o 3 = some fr := by rw [eS_47]; exact pk_40
  have X_51 : oX [402, 404, 405, 2018, 2061] Z S_47 := oX.st X_41 XS_47 (by decide)
  have g_52 : (oI S_47 o 2).toInt = (oI S_37 o 2).toInt := by rw [eS_47, setI_ne (by decide)]
  have g_53 : (oI S_47 o 4).toInt = (oI S_37 o 4).toInt := by rw [eS_47, setI_ne (by decide)]
  have g_54 : (oI S_47 o 5).toInt = 0 := by rw [eS_47, setI_same]; decide
  refine lv_iconst (v := 0) hx hb dX4_begin_32 (by decide) ?_
  refine lv_istore_n (lv' := [(2, .int 0), (0, .ref o), (1, .int x1)]) hx hb dX4_begin_33 rfl hl (by decide) rfl (fun ls hl => ?_)
  have cut_55 : ∀ (n : Nat) (y_56 : Int32) (S_57 : oS) (H : Heap) (locs : List Loc) (ls : Array Slot), 4 - y_56.toInt ≤ (n : Int) → (0 ≤ y_56.toInt ∧ y_56.toInt ≤ 4) → (∀ c, c < 81 → (c = 0 ∧ (oJ S_57 br c).toInt = 0) ∨ (c ≠ 0 ∧ (oJ S_57 br c).toInt = 1152921504606846976)) → ((oI S_57 o 2).toInt = 0 ∧ (oI S_57 o 4).toInt = x1.toInt ∧ (oI S_57 o 5).toInt = (fpx x1.toNatClampNeg y_56.toNatClampNeg : Int)) → (∀ r, r < y_56.toNatClampNeg → (oI S_57 fr r).toInt = (fpl x1.toNatClampNeg r : Int)) → oInv S_57 → oX [402, 404, 405, 2018, 2061] S_47 S_57 → va_P (dC, dI) vwCl (oW cq S_57) H → va_D A (oW cq S_57) → va_S A s.heap H locs → oP S_57 o 0 = some br → oP S_57 o 1 = some of9 → oP S_57 o 3 = some fr → lv_has ls 3 [(2, .int y_56), (0, .ref o), (1, .int x1)] → W p l e (headSpec wsX4_begin { frames := 1, cells := 0, slots := 0, locals := 24 }).room s m #[Value.ref o, Value.int x1] below meth c H locs 0 0 (MQ below (va_Qv (fun (u : oS) => oInv u ∧ oX [402, 404, 405, 2018, 2061] Z u ∧ (((oI u o 2).toInt = 0 ∧ (oI u o 4).toInt = x1.toInt ∧ (oI u o 5).toInt = (hnd x1.toNatClampNeg : Int)) ∧ (∀ r, r < 4 → (oI u fr r).toInt = (fpl x1.toNatClampNeg r : Int)) ∧ ∀ c, c < 81 → (c = 0 ∧ (oJ u br c).toInt = 0) ∨ (c ≠ 0 ∧ (oJ u br c).toInt = 1152921504606846976))) (fun u t => va_P (dC, dI) vwCl (oW cq u) t.heap ∧ va_K (dC, dI) vwCl (oT cq) t ∧ va_D A (oW cq u)) A) #[Value.ref o, Value.int x1] s 0 0 A) (F0 m 34 ls []) := by
    intro n
    induction n using Nat.strongRecOn with
    | ind n ih =>
      intro y_56 S_57 H locs ls hm hy_56 hq0_cut_55 hq1_cut_55 hq2_cut_55 hIS_57 XS_57 hP hD hS pk_58 pk_59 pk_60 hl
      have YS_57 : oX [402, 404, 405, 2018, 2061] Z S_57 := oX.st X_51 XS_57 (fun _ q => q)
      refine lv_iload_n hx hb dX4_begin_34 rfl (lv_at hl 0 rfl) ?_
      refine lv_iconst (v := 4) hx hb dX4_begin_35 (by decide) ?_
      refine lv_icmp_ge (tgt := 69) hx hb dX4_begin_36 (by decide) (fun c_61 => ?_) (fun c_61 => ?_)
      · have dc_61 := c_le (a := 4) (b := y_56.toInt) (by decide) rfl c_61
        exact W.vret hx hb hr (fun t ht hW => ⟨⟨S_57, rfl, ⟨hIS_57, YS_57, (by have e4 : y_56.toNatClampNeg = 4 := (show y_56.toInt.toNat = 4 by omega); have q1 := hq1_cut_55; have q2 := hq2_cut_55; rw [e4] at q1 q2; exact ⟨⟨q1.1, q1.2.1, q1.2.2⟩, q2, hq0_cut_55⟩)⟩, ⟨by rw [ht]; exact hP, va_K.moved hW.alike hK, hD⟩⟩, hS.F ht⟩) hS.2.2 dX4_begin_69
      · have dc_61 := c_nle (a := 4) (b := y_56.toInt) (by decide) rfl c_61
        refine lv_aload_n hx hb dX4_begin_39 rfl (lv_at hl 1 rfl) ?_
        have t_62 : oty S_57 o 4 := (oX.ty XS_57 (oX.ty XS_47 t_45))
        obtain ⟨q_63, hq_63⟩ := og (cq := cq) t_62.1 (oE_4 t_62.2)
        refine va_get (D := (dC, dI)) (ci := 4) (v := .ref fr) (C := RX4) (T := TX4) (N := 6) hx hb hts in_wsX4_begin_X4 hown hK hP q_63 hq_63 rfl 3 (by decide) (hts (.fieldLink RX4 19 "ShipOffice$Hiring" "firstPlace" "[I") iw_X4_begin_5) (fun _ h9 => h9) (o_rd pk_60) dX4_begin_40 ?_
        refine lv_iload_n hx hb dX4_begin_43 rfl (lv_at hl 0 rfl) ?_
        refine lv_aload_n hx hb dX4_begin_44 rfl (lv_at hl 1 rfl) ?_
        refine va_get (D := (dC, dI)) (ci := 4) (v := .int (oI S_57 o 5)) (C := RX4) (T := TX4) (N := 6) hx hb hts in_wsX4_begin_X4 hown hK hP q_63 hq_63 rfl 5 (by decide) (hts (.fieldLink RX4 37 "ShipOffice$Hiring" "places" "I") iw_X4_begin_4) (fun _ h9 => h9) rfl dX4_begin_45 ?_
        refine lv_topi (fun x_64 ex_64 => ?_)
        have gx_64 : x_64.toInt = (oI S_57 o 5).toInt := iv_to ex_64
        clear ex_64
        have gbx_64 : 0 ≤ x_64.toInt ∧ x_64.toInt ≤ 8 := by have q := fpx_8 (n := x1.toNatClampNeg) (r := y_56.toNatClampNeg) (show y_56.toInt.toNat < 4 by omega); omega
        have t_65 : oty S_57 fr 61 := (oX.ty XS_57 (oX.ty XS_47 (oX.ty XS_37 (oX.ty XS_27 (oX.ty XS_17 (oX.ty XS_4 tfr))))))
        obtain ⟨q_66, hq_66⟩ := og (cq := cq) t_65.1 (oE_61 t_65.2)
        refine va_iast hx hb hK hP hD hS q_66 0 hq_66 rfl (vp_in_iff.mpr (by omega)) dX4_begin_48 (fun H locs hP1 hD1 hS => ?_)
        obtain ⟨S_67, eS_67⟩ : ∃ zq, zq = setI S_57 fr (y_56 : Int32).toNatClampNeg x_64 := ⟨_, rfl⟩
        have hP : va_P (dC, dI) vwCl (oW cq S_67) H := by rw [eS_67]; exact cP (oset t_65.1 hq_66 hD rfl (he_61 t_65.2) neI) hP1
        have hD : va_D A (oW cq S_67) := by rw [eS_67]; exact cD (oset t_65.1 hq_66 hD rfl (he_61 t_65.2) neI) hD1
        clear hP1 hD1
        have hIS_67 : oInv S_67 := by rw [eS_67]; exact oInv.A (k := 61) hIS_57 t_65.2 (by decide)
        have XS_67 : oX [2061] S_57 S_67 := by rw [eS_67]; exact oX.I (k := 61) (key := 2061) t_65.2 rfl (List.mem_singleton.mpr rfl)
        have pk_68 : oP S_67 o 0 = some br := by rw [eS_67]; exact pk_58
        have pk_69 : oP S_67 o 1 = some of9 := by rw [eS_67]; exact pk_59
        have pk_70 : oP S_67 o 3 = some fr := by rw [eS_67]; exact pk_60
        have X_71 : oX [402, 404, 405, 2018, 2061] Z S_67 := oX.st YS_57 XS_67 (by decide)
        have g_72 : (oI S_67 o 2).toInt = (oI S_57 o 2).toInt := by rw [eS_67, setI_oth (ty_ne t_62 t_65 (by decide))]
        have g_73 : (oI S_67 o 4).toInt = (oI S_57 o 4).toInt := by rw [eS_67, setI_oth (ty_ne t_62 t_65 (by decide))]
        have g_74 : (oI S_67 o 5).toInt = (oI S_57 o 5).toInt := by rw [eS_67, setI_oth (ty_ne t_62 t_65 (by decide))]
        refine lv_aload_n hx hb dX4_begin_49 rfl (lv_at hl 1 rfl) ?_
        refine lv_dup hx hb dX4_begin_50 rfl ?_
        have t_75 : oty S_67 o 4 := (oX.ty XS_67 t_62)
        obtain ⟨q_76, hq_76⟩ := og (cq := cq) t_75.1 (oE_4 t_75.2)
        refine va_get (D := (dC, dI)) (ci := 4) (v := .int (oI S_67 o 5)) (C := RX4) (T := TX4) (N := 6) hx hb hts in_wsX4_begin_X4 hown hK hP q_76 hq_76 rfl 5 (by decide) (hts (.fieldLink RX4 37 "ShipOffice$Hiring" "places" "I") iw_X4_begin_4) (fun _ h9 => h9) rfl dX4_begin_51 ?_
        refine lv_topi (fun x_77 ex_77 => ?_)
        have gx_77 : x_77.toInt = (oI S_67 o 5).toInt := iv_to ex_77
        clear ex_77
        have gbx_77 : 0 ≤ x_77.toInt ∧ x_77.toInt ≤ 8 := by have q := fpx_8 (n := x1.toNatClampNeg) (r := y_56.toNatClampNeg) (show y_56.toInt.toNat < 4 by omega); omega
        refine lv_iload_n hx hb dX4_begin_54 rfl (lv_at hl 2 rfl) ?_
        refine lv_iload_n hx hb dX4_begin_55 rfl (lv_at hl 0 rfl) ?_
        have hFc : ∀ q, va_A [] H.size q → A q := pu_free hS hA
        refine va_calli (va_runS (As := [.int x1, .int y_56]) (rest := [.int x_77, .ref o]) ⟨hx, hb, hml, hown, hts⟩ (c_X4_handsOf l dC dI H.size tL tS tG cq S_67 hIS_67 x1 (by omega) y_56 (by omega)) (va_cwS 2 hts gX4_begin_X4_handsOf rfl rfl rfl (by decide +kernel) ⟨(Nat.le_of_ble_eq_true rfl), (Nat.le_of_ble_eq_true rfl)⟩) (pr_SO hP hK hD (hZ.go hS hFc)) rfl rfl hl.1 rfl (lv_room (Nat.le_of_ble_eq_true rfl)) dX4_begin_56 ⟨(Nat.le_of_ble_eq_true rfl), (Nat.le_of_ble_eq_true rfl)⟩) hS (fun q _ h => hFc q h) hFc (fun r_79 u t H locs ht hvm w_78 hB hz1 hk1 hS => ?_)
        have hP := pu_keep hP hk1
        clear hk1 hz1 hvm hB ht hFc
        obtain ⟨hb_80, hx_81⟩ := w_78
        refine lv_iadd hx hb dX4_begin_59 ?_
        refine lv_topi (fun x_82 ex_82 => ?_)
        have hx_82 : x_82.toInt = x_77.toInt + r_79.toInt := (iv_to ex_82).trans (ad_i rfl rfl (by omega) (by omega))
        clear ex_82
        refine va_put (D := (dC, dI)) (ci := 4) (v := .int x_82) (ty := .int) (C := RX4) (T := TX4) (N := 6) hx hb hts in_wsX4_begin_X4 tyX4 tyX4_ok nmX4 hown hK hP hD hS q_76 hq_76 rfl 5 (by decide) (hts (.fieldLink RX4 37 "ShipOffice$Hiring" "places" "I") iw_X4_begin_4) (fun _ h9 => h9) rfl (by decide +kernel) rfl rfl (Nat.le_of_ble_eq_true rfl) dX4_begin_60 (fun H locs hP1 hD1 hS => ?_)
        obtain ⟨S_83, eS_83⟩ : ∃ zq, zq = setI S_67 o 5 x_82 := ⟨_, rfl⟩
        have hP : va_P (dC, dI) vwCl (oW cq S_83) H := by rw [eS_83]; exact cP (oset t_75.1 hq_76 hD rfl (he_4_5 t_75.2) neI) hP1
        have hD : va_D A (oW cq S_83) := by rw [eS_83]; exact cD (oset t_75.1 hq_76 hD rfl (he_4_5 t_75.2) neI) hD1
        clear hP1 hD1
        have hIS_83 : oInv S_83 := by rw [eS_83]; exact oInv.I0 (k := 4) (lo := -2147483648) (hi := 2147483647) hIS_67 t_75.2 (by decide) rfl rfl rfl (iv_all _)
        have XS_83 : oX [405] S_67 S_83 := by rw [eS_83]; exact oX.I (k := 4) (key := 405) t_75.2 rfl (List.mem_singleton.mpr rfl)
        have pk_84 : oP S_83 o 0 = some br := by rw [eS_83]; exact pk_68
        have pk_85 : oP S_83 o 1 = some of9 := by rw [eS_83]; exact pk_69
        have pk_86 : oP S_83 o 3 = some fr := by rw [eS_83]; exact pk_70
        have X_87 : oX [402, 404, 405, 2018, 2061] Z S_83 := oX.st X_71 XS_83 (by decide)
        have g_88 : (oI S_83 o 2).toInt = (oI S_67 o 2).toInt := by rw [eS_83, setI_ne (by decide)]
        have g_89 : (oI S_83 o 4).toInt = (oI S_67 o 4).toInt := by rw [eS_83, setI_ne (by decide)]
        have g_90 : (oI S_83 o 5).toInt = x_82.toInt := by rw [eS_83, setI_same]
        obtain ⟨x_91, ex_91⟩ : ∃ zq : Int32, y_56 + 1 = zq := ⟨_, rfl⟩
        have hx_91 : x_91.toInt = y_56.toInt + 1 := (iv_to ex_91).symm.trans (ad_i rfl (by decide) (by omega) (by omega))
        refine lv_iinc (v := x_91) (lv' := [(2, .int x_91), (0, .ref o), (1, .int x1)]) hx hb dX4_begin_63 hl (k := 0) rfl ex_91 (by decide) rfl (fun ls hl => ?_)
        clear ex_91
        refine lv_goto (tgt := 34) hx hb dX4_begin_66 (by decide) ?_
        exact ih (n - 1) (by omega) x_91 S_83 _ _ ls (by omega) (by omega) (fun c hc => by rw [show oJ S_83 br c = oJ S_57 br c from oX_j (W := [402, 404, 405, 2061]) (oX.st (oX.st oX.rf XS_67 (by decide)) XS_83 (by decide)) (oX.ty XS_57 (oX.ty XS_47 (oX.ty XS_37 (oX.ty XS_27 (oX.ty XS_17 t_15))))) (nkw (by decide) (by decide) (by decide))]; exact hq0_cut_55 c hc) (by have hs9 := fpx_s (n := x1.toNatClampNeg) (r := y_56.toNatClampNeg) (show y_56.toInt.toNat < 4 by omega); rw [show x_91.toNatClampNeg = y_56.toNatClampNeg + 1 from (show x_91.toInt.toNat = y_56.toInt.toNat + 1 by omega), hs9]; have hd9 : r_79.toInt = (dg x1.toNatClampNeg y_56.toNatClampNeg : Int) := ho_d (by omega) hx_81 (by omega); exact ⟨by omega, by omega, by omega⟩) (fun r hr => by rw [show oI S_83 fr = oI S_67 fr from oX.f (W := [405]) (oX.st oX.rf XS_83 (by decide)) (oX.ty XS_67 t_65) (fun _ => nkw (by decide) (by decide) (by decide)), eS_67, setI_fun]; by_cases q : r = y_56.toNatClampNeg; (case pos => rw [q, upd_eq]; rw [← show fpx x1.toNatClampNeg y_56.toNatClampNeg = fpl x1.toNatClampNeg y_56.toNatClampNeg from if_pos (show y_56.toInt.toNat < 4 by omega)]; omega); (case neg => rw [upd_ne q]; exact hq2_cut_55 r (by have q1 : y_56.toNatClampNeg = y_56.toInt.toNat := rfl; have q2 : x_91.toNatClampNeg = x_91.toInt.toNat := rfl; omega))) hIS_83 (oX.st (oX.st (oX.st oX.rf XS_57 (by decide)) XS_67 (by decide)) XS_83 (by decide)) hP hD hS pk_84 pk_85 pk_86 (lv_sub hl [0, 1, 2] rfl)
  have kc_92 : (0 : Int32).toInt = 0 := by decide
  exact cut_55 5 0 S_47 _ _ ls (by omega) (by decide) (fun c hc => by rw [show oJ S_47 br c = oJ S_17 br c from oX_j (W := [402, 404, 405, 2061]) (oX.st (oX.st (oX.st oX.rf XS_27 (by decide)) XS_37 (by decide)) XS_47 (by decide)) (oX.ty XS_17 t_15) (nkw (by decide) (by decide) (by decide))]; exact hjb c hc) (by rw [show (0 : Int32).toNatClampNeg = 0 from by decide, show fpx x1.toNatClampNeg 0 = 0 from rfl]; exact ⟨by omega, by omega, by omega⟩) (fun r hr => absurd hr (by rw [show (0 : Int32).toNatClampNeg = 0 from by decide]; exact Nat.not_lt_zero r)) hIS_47 oX.rf hP hD hS pk_48 pk_49 pk_50 (lv_sub hl [0, 1, 2] rfl)
