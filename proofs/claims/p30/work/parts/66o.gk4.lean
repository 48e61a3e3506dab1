


set_option maxHeartbeats 4000000 in
set_option maxRecDepth 100000 in
theorem c_J7_fill_53178_s (l : Launch) (dC : Nat → ClassId) (dI : Nat → Nat → Nat) (sz : Nat) (cq : Nat → ClassId) (Z : oS) (gI : oInv Z) (a1 : Nat) (ta1 : oty Z a1 110) (x2 : Int32) : Met l yJ7_fill_53178 wsJ7_fill_53178 ({ frames := 0, cells := 0, slots := 0, locals := 0 }) (va_Pc [.ref a1, .int x2] (pcW (dC, dI) (oT cq) (oW cq Z) sz)) (va_Qv (fun (u : oS) => oInv u ∧ oX [2110] Z u ∧ (∀ j, j < 10 → oI u a1 j = x2)) (fun u t => va_P (dC, dI) vwCl (oW cq u) t.heap ∧ va_K (dC, dI) vwCl (oT cq) t ∧ va_D (va_A (oW cq Z) sz) (oW cq u)) (va_A (oW cq Z) sz)) 0 0 (va_A (oW cq Z) sz) := by
  refine Met.ofW (cc := cJ7_fill_53178) (maxL := 4) (ret := none) (by decide) rfl ?_
  intro p e s m args below meth c s₁ B hml hv
  obtain ⟨rfl, hsz, hP, hK, hD0⟩ := hv
  have hx := B.exec
  have hb := B.bytes
  have hr := B.returns
  have hts := atoms_spec (ws := wsJ7_fill_53178) B.pre
  have hown : s.vm.findClass RJ7 = some m.cls := findClass_of_methodNamed B.named
  have hlocks := B.notSynchronized
  subst hsz
  have hD := hD0.self (sz := s.heap.size)
  generalize hAe : va_A (oW cq Z) s.heap.size = A at hD ⊢
  have hA : ∀ q : Nat, s.heap.size ≤ q → A q := fun q h => by rw [← hAe]; exact Or.inr h
  have hS : va_S A s.heap s.heap [] := va_S.rf
  have hP : va_P (dC, dI) vwCl (oW cq Z) s.heap := hP
  have hl := lv_entry ([.ref a1, .int x2]) (n := 4) (Nat.le_of_ble_eq_true rfl)
  rw [lg_entry_eq]
  generalize (lg_sl ([.ref a1, .int x2]) ++ List.replicate (4 - (lg_sl ([.ref a1, .int x2])).length) Slot.unset).toArray = ls at hl ⊢
  have hl : lv_has ls 4 [(0, .ref a1), (1, .int x2)] := hl
  refine lv_iconst (v := 0) hx hb dJ7_fill_53178_0 (by decide) ?_
  refine lv_istore_n (lv' := [(2, .int 0), (0, .ref a1), (1, .int x2)]) hx hb dJ7_fill_53178_1 rfl hl (by decide) rfl (fun ls hl => ?_)
  refine lv_aload_n hx hb dJ7_fill_53178_2 rfl (lv_at hl 1 rfl) ?_
  obtain ⟨q_1, hq_1⟩ := og (cq := cq) ta1.1 (oE_a1 (n := 10) ta1.2 (by decide))
  refine va_alen (v := 10) hx hb hK hP q_1 0 hq_1 rfl (show Int32.ofNat 10 = 10 by decide) dJ7_fill_53178_3 ?_
  refine lv_istore_n (lv' := [(3, .int 10), (2, .int 0), (0, .ref a1), (1, .int x2)]) hx hb dJ7_fill_53178_4 rfl hl (by decide) rfl (fun ls hl => ?_)
  have cut_2 : ∀ (n : Nat) (y_3 : Int32) (S_4 : oS) (H : Heap) (locs : List Loc) (ls : Array Slot), 10 - y_3.toInt ≤ (n : Int) → (0 ≤ y_3.toInt ∧ y_3.toInt ≤ 10) → (∀ j, j < y_3.toNatClampNeg → oI S_4 a1 j = x2) → oInv S_4 → oX [2110] Z S_4 → va_P (dC, dI) vwCl (oW cq S_4) H → va_D A (oW cq S_4) → va_S A s.heap H locs → lv_has ls 4 [(2, .int y_3), (3, .int 10), (0, .ref a1), (1, .int x2)] → W p l e (headSpec wsJ7_fill_53178 { frames := 0, cells := 0, slots := 0, locals := 0 }).room s m #[Value.ref a1, Value.int x2] below meth c H locs 0 0 (MQ below (va_Qv (fun (u : oS) => oInv u ∧ oX [2110] Z u ∧ (∀ j, j < 10 → oI u a1 j = x2)) (fun u t => va_P (dC, dI) vwCl (oW cq u) t.heap ∧ va_K (dC, dI) vwCl (oT cq) t ∧ va_D A (oW cq u)) A) #[Value.ref a1, Value.int x2] s 0 0 A) (F0 m 5 ls []) := by
    intro n
    induction n using Nat.strongRecOn with
    | ind n ih =>
      intro y_3 S_4 H locs ls hm hy_3 hq0_cut_2 hIS_4 XS_4 hP hD hS hl
      have YS_4 : oX [2110] Z S_4 := oX.st oX.rf XS_4 (fun _ q => q)
      refine lv_iload_n hx hb dJ7_fill_53178_5 rfl (lv_at hl 0 rfl) ?_
      refine lv_iload_n hx hb dJ7_fill_53178_6 rfl (lv_at hl 1 rfl) ?_
      refine lv_icmp_ge (tgt := 20) hx hb dJ7_fill_53178_7 (by decide) (fun c_5 => ?_) (fun c_5 => ?_)
      · have dc_5 := c_le (a := 10) (b := y_3.toInt) (by decide) rfl c_5
        exact W.vret hx hb hr (fun t ht hW => ⟨⟨S_4, rfl, ⟨hIS_4, YS_4, (fun j hj => hq0_cut_2 j (show j < y_3.toInt.toNat by omega))⟩, ⟨by rw [ht]; exact hP, va_K.moved hW.alike hK, hD⟩⟩, hS.F ht⟩) hS.2.2 dJ7_fill_53178_20
      · have dc_5 := c_nle (a := 10) (b := y_3.toInt) (by decide) rfl c_5
        refine lv_aload_n hx hb dJ7_fill_53178_10 rfl (lv_at hl 2 rfl) ?_
        refine lv_iload_n hx hb dJ7_fill_53178_11 rfl (lv_at hl 0 rfl) ?_
        refine lv_iload_n hx hb dJ7_fill_53178_12 rfl (lv_at hl 3 rfl) ?_
        have t_6 : oty S_4 a1 110 := (oX.ty XS_4 ta1)
        obtain ⟨q_7, hq_7⟩ := og (cq := cq) t_6.1 (oE_a1 (n := 10) t_6.2 (by decide))
        refine va_iast hx hb hK hP hD hS q_7 0 hq_7 rfl (vp_in_iff.mpr (by omega)) dJ7_fill_53178_13 (fun H locs hP1 hD1 hS => ?_)
        obtain ⟨S_8, eS_8⟩ : ∃ zq, zq = setI S_4 a1 (y_3 : Int32).toNatClampNeg x2 := ⟨_, rfl⟩
        have hP : va_P (dC, dI) vwCl (oW cq S_8) H := by rw [eS_8]; exact cP (oset t_6.1 hq_7 hD rfl (he_a1 (n := 10) t_6.2 (by decide)) neI) hP1
        have hD : va_D A (oW cq S_8) := by rw [eS_8]; exact cD (oset t_6.1 hq_7 hD rfl (he_a1 (n := 10) t_6.2 (by decide)) neI) hD1
        clear hP1 hD1
        have hIS_8 : oInv S_8 := by rw [eS_8]; exact oInv.A (k := 110) hIS_4 t_6.2 (by decide)
        have XS_8 : oX [2110] S_4 S_8 := by rw [eS_8]; exact oX.I (k := 110) (key := 2110) t_6.2 rfl (List.mem_singleton.mpr rfl)
        have X_9 : oX [2110] Z S_8 := oX.st YS_4 XS_8 (by decide)
        obtain ⟨x_10, ex_10⟩ : ∃ zq : Int32, y_3 + 1 = zq := ⟨_, rfl⟩
        have hx_10 : x_10.toInt = y_3.toInt + 1 := (iv_to ex_10).symm.trans (ad_i rfl (by decide) (by omega) (by omega))
        refine lv_iinc (v := x_10) (lv' := [(2, .int x_10), (3, .int 10), (0, .ref a1), (1, .int x2)]) hx hb dJ7_fill_53178_14 hl (k := 0) rfl ex_10 (by decide) rfl (fun ls hl => ?_)
        clear ex_10
        refine lv_goto (tgt := 5) hx hb dJ7_fill_53178_17 (by decide) ?_
        exact ih (n - 1) (by omega) x_10 S_8 _ _ ls (by omega) (by omega) (fl_s hq0_cut_2 (by omega) (by omega) (by rw [eS_8, setI_fun])) hIS_8 (oX.st (oX.st oX.rf XS_4 (by decide)) XS_8 (by decide)) hP hD hS (lv_sub hl [0, 1, 2, 3] rfl)
  have kc_11 : (0 : Int32).toInt = 0 := by decide
  exact cut_2 11 0 Z _ _ ls (by omega) (by decide) (al_0 (by decide)) gI oX.rf hP hD hS (lv_sub hl [1, 0, 2, 3] rfl)
theorem wy_f0 {S : oS} {r p : Nat} {y z : Int32} {M : Int} (h : ∀ j, j < 10 → oI S r j = y) (hy : y.toInt = M) (hz : z.toInt = 0) : ∀ x, x < 10 → (oI (setI S r p z) r x).toInt = wy0 M p x := fun x hx => by
  rw [setI_fun]
  unfold wy0
  by_cases c : x = p
  · rw [if_pos c, c, upd_eq]; exact hz
  · rw [if_neg c, upd_ne c, h x hx]; exact hy
set_option maxHeartbeats 4000000 in
set_option maxRecDepth 100000 in
theorem c_X7_way_c (l : Launch) (dC : Nat → ClassId) (dI : Nat → Nat → Nat) (sz : Nat) (cq : Nat → ClassId) (Z : oS) (gI : oInv Z) (o : Nat) (to : oty Z o 7) (x1 : Int32) (hx1 : 0 ≤ x1.toInt ∧ x1.toInt ≤ 9) (x2 : Int32) (hx2 : 0 ≤ x2.toInt ∧ x2.toInt ≤ 9) (mr_ lr_ : Nat) (hmL : oP Z o 0 = some mr_) (hlS : oP Z o 1 = some lr_) (Wm : Nat → Nat → Int) (hWm : ∀ a b, a < 10 → b < 10 → (oI Z mr_ (10 * a + b)).toInt = Wm a b) (hWb : ∀ a b, 0 ≤ Wm a b ∧ Wm a b ≤ 9999) : Met l yX7_way wsX7_way ({ frames := 1, cells := 0, slots := 0, locals := 23 }) (va_Pc [.ref o, .int x1, .int x2] (pcW (dC, dI) (oT cq) (oW cq Z) sz)) (va_Qi (fun (r : Int32) (u : oS) => oInv u ∧ oX [2110] Z u ∧ (r.toInt = wyF Wm x1.toNatClampNeg x2.toNatClampNeg)) (fun u t => va_P (dC, dI) vwCl (oW cq u) t.heap ∧ va_K (dC, dI) vwCl (oT cq) t ∧ va_D (va_A (oW cq Z) sz) (oW cq u)) (va_A (oW cq Z) sz)) 0 0 (va_A (oW cq Z) sz) := by
  refine Met.ofW (cc := cX7_way) (maxL := 4) (ret := (some .int)) (by decide) rfl ?_
  intro p e s m args below meth c s₁ B hml hv
  obtain ⟨rfl, hsz, hP, hK, hD0⟩ := hv
  have hx := B.exec
  have hb := B.bytes
  have hr := B.returns
  have hts := atoms_spec (ws := wsX7_way) B.pre
  have hown : s.vm.findClass RX7 = some m.cls := findClass_of_methodNamed B.named
  have hlocks := B.notSynchronized
  subst hsz
  have hD := hD0.self (sz := s.heap.size)
  generalize hAe : va_A (oW cq Z) s.heap.size = A at hD ⊢
  have hA : ∀ q : Nat, s.heap.size ≤ q → A q := fun q h => by rw [← hAe]; exact Or.inr h
  have hS : va_S A s.heap s.heap [] := va_S.rf
  have hP : va_P (dC, dI) vwCl (oW cq Z) s.heap := hP
  have hl := lv_entry ([.ref o, .int x1, .int x2]) (n := 4) (Nat.le_of_ble_eq_true rfl)
  rw [lg_entry_eq]
  generalize (lg_sl ([.ref o, .int x1, .int x2]) ++ List.replicate (4 - (lg_sl ([.ref o, .int x1, .int x2])).length) Slot.unset).toArray = ls at hl ⊢
  have hl : lv_has ls 4 [(0, .ref o), (1, .int x1), (2, .int x2)] := hl
  have tmr : oty Z mr_ 200 := oInv.rd gI to.2 hmL rfl rfl
  have tlr : oty Z lr_ 110 := oInv.rd gI to.2 hlS rfl rfl
  refine lv_aload_n hx hb dX7_way_0 rfl (lv_at hl 0 rfl) ?_
  obtain ⟨q_1, hq_1⟩ := og (cq := cq) to.1 (oE_7 to.2)
  refine va_get (D := (dC, dI)) (ci := 7) (v := .ref lr_) (C := RX7) (T := TX7) (N := 2) hx hb hts in_wsX7_way_X7 hown hK hP q_1 hq_1 rfl 1 (by decide) (hts (.fieldLink RX7 15 "ShipOffice$Sea" "least" "[I") iw_X7_way_1) (fun _ h9 => h9) (o_rd hlS) dX7_way_1 ?_
  refine lv_ldc (v := 1000000) hx hb hown (hts (.constant RX7 18 (1000000)) (by decide +kernel)) dX7_way_4 ?_
  have hFc := o_free hD hS hA
  refine va_callv (va_runS (As := [.ref lr_, .int 1000000]) (rest := []) ⟨hx, hb, hml, hown, hts⟩ (c_J7_fill_53178_s l dC dI s.heap.size cq Z gI lr_ tlr 1000000) (va_cwS 2 hts gX7_way_J7_fill_53178 rfl rfl rfl (by decide +kernel) ⟨(Nat.le_of_ble_eq_true rfl), (Nat.le_of_ble_eq_true rfl)⟩) (pr_S hP hK hD) rfl rfl hl.1 rfl (lv_room (Nat.le_of_ble_eq_true rfl)) dX7_way_6 ⟨(Nat.le_of_ble_eq_true rfl), (Nat.le_of_ble_eq_true rfl)⟩) hS (fun q _ h => hFc q h) hFc (fun u t H locs ht hvm w_2 hB hz1 hk1 hS => ?_)
  obtain ⟨S_4, rfl⟩ : ∃ z, z = u := ⟨_, rfl⟩
  obtain ⟨hP1, hK1, hD1⟩ := hB
  rw [ht] at hP1
  have hP : va_P (dC, dI) vwCl (oW cq S_4) H := hP1
  have hD : va_D A (oW cq S_4) := hD1.weaken (fun _ _ _ h => hFc _ h)
  clear hP1 hK1 hD1 hk1 hz1 hvm ht hFc
  obtain ⟨hIS_4, XS_4, hx_5⟩ := w_2
  have X_6 : oX [2110] Z S_4 := oX.st oX.rf XS_4 (by decide)
  have pk_7 : oP S_4 o 0 = some mr_ := by rw [oX.p XS_4 to (by decide)]; exact hmL
  have pk_8 : oP S_4 o 1 = some lr_ := by rw [oX.p XS_4 to (by decide)]; exact hlS
  refine lv_aload_n hx hb dX7_way_9 rfl (lv_at hl 0 rfl) ?_
  have t_9 : oty S_4 o 7 := (oX.ty XS_4 to)
  obtain ⟨q_10, hq_10⟩ := og (cq := cq) t_9.1 (oE_7 t_9.2)
  refine va_get (D := (dC, dI)) (ci := 7) (v := .ref lr_) (C := RX7) (T := TX7) (N := 2) hx hb hts in_wsX7_way_X7 hown hK hP q_10 hq_10 rfl 1 (by decide) (hts (.fieldLink RX7 15 "ShipOffice$Sea" "least" "[I") iw_X7_way_1) (fun _ h9 => h9) (o_rd pk_8) dX7_way_10 ?_
  refine lv_iload_n hx hb dX7_way_13 rfl (lv_at hl 1 rfl) ?_
  refine lv_iconst (v := 0) hx hb dX7_way_14 (by decide) ?_
  have t_11 : oty S_4 lr_ 110 := (oX.ty XS_4 tlr)
  obtain ⟨q_12, hq_12⟩ := og (cq := cq) t_11.1 (oE_a1 (n := 10) t_11.2 (by decide))
  refine va_iast hx hb hK hP hD hS q_12 0 hq_12 rfl (vp_in_iff.mpr (by omega)) dX7_way_15 (fun H locs hP1 hD1 hS => ?_)
  obtain ⟨S_13, eS_13⟩ : ∃ zq, zq = setI S_4 lr_ (x1 : Int32).toNatClampNeg 0 := ⟨_, rfl⟩
  have hP : va_P (dC, dI) vwCl (oW cq S_13) H := by rw [eS_13]; exact cP (oset t_11.1 hq_12 hD rfl (he_a1 (n := 10) t_11.2 (by decide)) neI) hP1
  have hD : va_D A (oW cq S_13) := by rw [eS_13]; exact cD (oset t_11.1 hq_12 hD rfl (he_a1 (n := 10) t_11.2 (by decide)) neI) hD1
  clear hP1 hD1
  have hIS_13 : oInv S_13 := by rw [eS_13]; exact oInv.A (k := 110) hIS_4 t_11.2 (by decide)
  have XS_13 : oX [2110] S_4 S_13 := by rw [eS_13]; exact oX.I (k := 110) (key := 2110) t_11.2 rfl (List.mem_singleton.mpr rfl)
  have pk_14 : oP S_13 o 0 = some mr_ := by rw [eS_13]; exact pk_7
  have pk_15 : oP S_13 o 1 = some lr_ := by rw [eS_13]; exact pk_8
  have X_16 : oX [2110] Z S_13 := oX.st X_6 XS_13 (by decide)
  refine lv_iconst (v := 1) hx hb dX7_way_16 (by decide) ?_
  refine lv_istore_n (lv' := [(3, .int 1), (0, .ref o), (1, .int x1), (2, .int x2)]) hx hb dX7_way_17 rfl hl (by decide) rfl (fun ls hl => ?_)
  have cut_17 : ∀ (n : Nat) (y_18 : Int32) (S_19 : oS) (H : Heap) (locs : List Loc) (ls : Array Slot), 10 - y_18.toInt ≤ (n : Int) → (1 ≤ y_18.toInt ∧ y_18.toInt ≤ 10) → (∀ x, x < 10 → (oI S_19 lr_ x).toInt = (wyR Wm 1000000 (wy0 1000000 x1.toNatClampNeg) (y_18.toNatClampNeg - 1)) x) → oInv S_19 → oX [2110] S_13 S_19 → va_P (dC, dI) vwCl (oW cq S_19) H → va_D A (oW cq S_19) → va_S A s.heap H locs → oP S_19 o 0 = some mr_ → oP S_19 o 1 = some lr_ → lv_has ls 4 [(3, .int y_18), (0, .ref o), (1, .int x1), (2, .int x2)] → W p l e (headSpec wsX7_way { frames := 1, cells := 0, slots := 0, locals := 23 }).room s m #[Value.ref o, Value.int x1, Value.int x2] below meth c H locs 0 0 (MQ below (va_Qi (fun (r : Int32) (u : oS) => oInv u ∧ oX [2110] Z u ∧ (r.toInt = wyF Wm x1.toNatClampNeg x2.toNatClampNeg)) (fun u t => va_P (dC, dI) vwCl (oW cq u) t.heap ∧ va_K (dC, dI) vwCl (oT cq) t ∧ va_D A (oW cq u)) A) #[Value.ref o, Value.int x1, Value.int x2] s 0 0 A) (F0 m 18 ls []) := by
    intro n
    induction n using Nat.strongRecOn with
    | ind n ih =>
      intro y_18 S_19 H locs ls hm hy_18 hq0_cut_17 hIS_19 XS_19 hP hD hS pk_20 pk_21 hl
      have YS_19 : oX [2110] Z S_19 := oX.st X_16 XS_19 (fun _ q => q)
      have tn_22 : ((y_18.toNatClampNeg : Nat) : Int) = y_18.toInt := tn_i (by omega)
      refine lv_iload_n hx hb dX7_way_18 rfl (lv_at hl 0 rfl) ?_
      refine lv_bipush (v := 10) hx hb dX7_way_19 (by decide) ?_
      refine lv_icmp_ge (tgt := 34) hx hb dX7_way_21 (by decide) (fun c_23 => ?_) (fun c_23 => ?_)
      · have dc_23 := c_le (a := 10) (b := y_18.toInt) (by decide) rfl c_23
        refine lv_aload_n hx hb dX7_way_34 rfl (lv_at hl 1 rfl) ?_
        have t_24 : oty S_19 o 7 := (oX.ty XS_19 (oX.ty XS_13 t_9))
        obtain ⟨q_25, hq_25⟩ := og (cq := cq) t_24.1 (oE_7 t_24.2)
        refine va_get (D := (dC, dI)) (ci := 7) (v := .ref lr_) (C := RX7) (T := TX7) (N := 2) hx hb hts in_wsX7_way_X7 hown hK hP q_25 hq_25 rfl 1 (by decide) (hts (.fieldLink RX7 15 "ShipOffice$Sea" "least" "[I") iw_X7_way_1) (fun _ h9 => h9) (o_rd pk_21) dX7_way_35 ?_
        refine lv_iload_n hx hb dX7_way_38 rfl (lv_at hl 3 rfl) ?_
        have t_26 : oty S_19 lr_ 110 := (oX.ty XS_19 (oX.ty XS_13 t_11))
        obtain ⟨q_27, hq_27⟩ := og (cq := cq) t_26.1 (oE_a1 (n := 10) t_26.2 (by decide))
        refine va_iald hx hb hK hP q_27 0 hq_27 rfl (vp_in_iff.mpr (by omega)) dX7_way_39 ?_
        refine lv_topi (fun x_28 ex_28 => ?_)
        have gx_28 : x_28.toInt = (oI S_19 lr_ (x2 : Int32).toNatClampNeg).toInt := iv_to ex_28
        have gfx_28 := hq0_cut_17 x2.toNatClampNeg (ni_lt10 (by omega) (by omega))
        refine lv_ldc (v := 1000000) hx hb hown (hts (.constant RX7 18 (1000000)) (by decide +kernel)) dX7_way_40 ?_
        refine lv_icmp_ne (tgt := 50) hx hb dX7_way_42 (by decide) (fun c_29 => ?_) (fun c_29 => ?_)
        · have dc_29 := c_ne (a := x_28.toInt) (b := 1000000) rfl (by decide) c_29
          refine lv_aload_n hx hb dX7_way_50 rfl (lv_at hl 1 rfl) ?_
          refine va_get (D := (dC, dI)) (ci := 7) (v := .ref lr_) (C := RX7) (T := TX7) (N := 2) hx hb hts in_wsX7_way_X7 hown hK hP q_25 hq_25 rfl 1 (by decide) (hts (.fieldLink RX7 15 "ShipOffice$Sea" "least" "[I") iw_X7_way_1) (fun _ h9 => h9) (o_rd pk_21) dX7_way_51 ?_
          refine lv_iload_n hx hb dX7_way_54 rfl (lv_at hl 3 rfl) ?_
          refine va_iald hx hb hK hP q_27 0 hq_27 rfl (vp_in_iff.mpr (by omega)) dX7_way_55 ?_
          refine lv_topi (fun x_30 ex_30 => ?_)
          have gx_30 : x_30.toInt = (oI S_19 lr_ (x2 : Int32).toNatClampNeg).toInt := iv_to ex_30
          have gfx_30 := hq0_cut_17 x2.toNatClampNeg (ni_lt10 (by omega) (by omega))
          exact W.iret (v := x_30) hx hb hr (fun t ht hW => ⟨⟨x_30, S_19, rfl, ⟨hIS_19, YS_19, (by rw [wyF_o (fun a b => (hWb a b).2) (ni_lt10 (by omega) (by omega)) (ni_lt10 (by omega) (by omega))]; have q := hq0_cut_17 x2.toNatClampNeg (ni_lt10 (by omega) (by omega)); rw [show y_18.toNatClampNeg - 1 = 9 from (show y_18.toInt.toNat - 1 = 9 by omega)] at q; (repeat (first | rw [if_pos (by omega)] | rw [if_neg (by omega)])); (first | done | omega))⟩, ⟨by rw [ht]; exact hP, va_K.moved hW.alike hK, hD⟩⟩, hS.F ht⟩) hS.2.2 dX7_way_56
        · have dc_29 := c_eq (a := x_28.toInt) (b := 1000000) rfl (by decide) c_29
          refine lv_bipush (v := (-9)) hx hb dX7_way_45 (by decide) ?_
          refine lv_goto (tgt := 56) hx hb dX7_way_47 (by decide) ?_
          exact W.iret (v := (-9)) hx hb hr (fun t ht hW => ⟨⟨(-9), S_19, rfl, ⟨hIS_19, YS_19, (by rw [wyF_o (fun a b => (hWb a b).2) (ni_lt10 (by omega) (by omega)) (ni_lt10 (by omega) (by omega))]; have q := hq0_cut_17 x2.toNatClampNeg (ni_lt10 (by omega) (by omega)); rw [show y_18.toNatClampNeg - 1 = 9 from (show y_18.toInt.toNat - 1 = 9 by omega)] at q; have rc : ((-9) : Int32).toInt = -9 := (by decide); (repeat (first | rw [if_pos (by omega)] | rw [if_neg (by omega)])); (first | done | omega))⟩, ⟨by rw [ht]; exact hP, va_K.moved hW.alike hK, hD⟩⟩, hS.F ht⟩) hS.2.2 dX7_way_56
      · have dc_23 := c_nle (a := 10) (b := y_18.toInt) (by decide) rfl c_23
        refine lv_aload_n hx hb dX7_way_24 rfl (lv_at hl 1 rfl) ?_
        have t_31 : oty S_19 o 7 := (oX.ty XS_19 (oX.ty XS_13 t_9))
        have hFc := o_free hD hS hA
        obtain ⟨q_32, hq_32⟩ := og (cq := cq) t_31.1 (oE_7 t_31.2)
        refine va_callv (va_runV (As := []) (rest := []) ⟨hx, hb, hml, hown, hts⟩ (c_X7_shorten_c l dC dI H.size cq S_19 hIS_19 o t_31 mr_ lr_ pk_20 pk_21 Wm (fun a b ha hb => by rw [oX.f (W := [2110]) (oX.st (oX.st (oX.st oX.rf XS_4 (by decide)) XS_13 (by decide)) XS_19 (by decide)) tmr (fun _ => nkw (by decide) (by decide) (by decide))]; exact hWm a b ha hb) hWb (wyR Wm 1000000 (wy0 1000000 x1.toNatClampNeg) (y_18.toNatClampNeg - 1)) hq0_cut_17 (fun x => wyR_b (fun x => (wy0_b (by decide)).1) (fun x => (wy0_b (by decide)).2))) (cwV 0 hts gX7_way_X7_shorten rfl rfl rfl (by decide +kernel) ⟨(Nat.le_of_ble_eq_true rfl), (Nat.le_of_ble_eq_true rfl)⟩) (pr_V (r := (RX7, TX7, 2)) hP hK hD q_32 7 rfl hq_32) rfl rfl hl.1 rfl (lv_room (Nat.le_of_ble_eq_true rfl)) dX7_way_25 ⟨(Nat.le_of_ble_eq_true rfl), (Nat.le_of_ble_eq_true rfl)⟩) hS (fun q _ h => hFc q h) hFc (fun u t H locs ht hvm w_33 hB hz1 hk1 hS => ?_)
        obtain ⟨S_35, rfl⟩ : ∃ z, z = u := ⟨_, rfl⟩
        obtain ⟨hP1, hK1, hD1⟩ := hB
        rw [ht] at hP1
        have hP : va_P (dC, dI) vwCl (oW cq S_35) H := hP1
        have hD : va_D A (oW cq S_35) := hD1.weaken (fun _ _ _ h => hFc _ h)
        clear hP1 hK1 hD1 hk1 hz1 hvm ht hFc
        obtain ⟨hIS_35, XS_35, hx_36⟩ := w_33
        have X_37 : oX [2110] Z S_35 := oX.st YS_19 XS_35 (by decide)
        have pk_38 : oP S_35 o 0 = some mr_ := by rw [oX.p XS_35 t_31 (by decide)]; exact pk_20
        have pk_39 : oP S_35 o 1 = some lr_ := by rw [oX.p XS_35 t_31 (by decide)]; exact pk_21
        obtain ⟨x_40, ex_40⟩ : ∃ zq : Int32, y_18 + 1 = zq := ⟨_, rfl⟩
        have hx_40 : x_40.toInt = y_18.toInt + 1 := (iv_to ex_40).symm.trans (ad_i rfl (by decide) (by omega) (by omega))
        refine lv_iinc (v := x_40) (lv' := [(3, .int x_40), (0, .ref o), (1, .int x1), (2, .int x2)]) hx hb dX7_way_28 hl (k := 0) rfl ex_40 (by decide) rfl (fun ls hl => ?_)
        clear ex_40
        refine lv_goto (tgt := 18) hx hb dX7_way_31 (by decide) ?_
        exact ih (n - 1) (by omega) x_40 S_35 _ _ ls (by omega) (by omega) (fun x hx => by have q := hx_36 x hx; rw [show x_40.toNatClampNeg - 1 = (y_18.toNatClampNeg - 1) + 1 from (show x_40.toInt.toNat - 1 = (y_18.toInt.toNat - 1) + 1 by omega)]; exact q) hIS_35 (oX.st (oX.st oX.rf XS_19 (by decide)) XS_35 (by decide)) hP hD hS pk_38 pk_39 (lv_sub hl [0, 1, 2, 3] rfl)
  have kc_41 : (1 : Int32).toInt = 1 := by decide
  exact cut_17 11 1 S_13 _ _ ls (by omega) (by decide) (by rw [show (1 : Int32).toNatClampNeg - 1 = 0 from by decide, eS_13]; exact wy_f0 hx_5 (by decide) (by decide)) hIS_13 oX.rf hP hD hS pk_14 pk_15 (lv_sub hl [0, 1, 2, 3] rfl)
