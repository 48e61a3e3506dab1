


set_option maxHeartbeats 4000000 in
set_option maxRecDepth 100000 in
theorem c_J7_fill_53178_c (l : Launch) (dC : Nat → ClassId) (dI : Nat → Nat → Nat) (sz : Nat) (cq : Nat → ClassId) (Z : oS) (gI : oInv Z) (a1 : Nat) (ta1 : oty Z a1 108) (x2 : Int32) : Met l yJ7_fill_53178 wsJ7_fill_53178 ({ frames := 0, cells := 0, slots := 0, locals := 0 }) (va_Pc [.ref a1, .int x2] (pcW (dC, dI) (oT cq) (oW cq Z) sz)) (va_Qv (fun (u : oS) => oInv u ∧ oX [2108] Z u ∧ (∀ j, j < 8 → oI u a1 j = x2)) (fun u t => va_P (dC, dI) vwCl (oW cq u) t.heap ∧ va_K (dC, dI) vwCl (oT cq) t ∧ va_D (va_A (oW cq Z) sz) (oW cq u)) (va_A (oW cq Z) sz)) 0 0 (va_A (oW cq Z) sz) := by
  refine Met.ofW (cc := cJ7_fill_53178) (maxL := 4) (ret := none) (by decide +kernel) rfl ?_
  intro p e s m args below meth c s₁ B hml hv
  obtain ⟨rfl, hsz, hP, hK, hD0⟩ := hv
  have hx := B.exec
  have hb := B.bytes
  have hr := B.returns
  have hts := atoms_spec (ws := wsJ7_fill_53178) B.pre
  have hown : s.vm.findClass RJ7 = some m.cls := findClass_of_methodNamed B.named
  have hlocks := B.notSynchronized
  subst hsz
  have hD := hD0.self (sz := s.heap.size)
  generalize hAe : va_A (oW cq Z) s.heap.size = A at hD ⊢
  have hA : ∀ q : Nat, s.heap.size ≤ q → A q := fun q h => by rw [← hAe]; exact Or.inr h
  have hS : va_S A s.heap s.heap [] := va_S.rf
  have hP : va_P (dC, dI) vwCl (oW cq Z) s.heap := hP
  have hl := lv_entry ([.ref a1, .int x2]) (n := 4) (Nat.le_of_ble_eq_true rfl)
  rw [lg_entry_eq]
  generalize (lg_sl ([.ref a1, .int x2]) ++ List.replicate (4 - (lg_sl ([.ref a1, .int x2])).length) Slot.unset).toArray = ls at hl ⊢
  have hl : lv_has ls 4 [(0, .ref a1), (1, .int x2)] := hl
  refine lv_iconst (v := 0) hx hb dJ7_fill_53178_0 (by decide +kernel) ?_
  refine lv_istore_n (lv' := [(2, .int 0), (0, .ref a1), (1, .int x2)]) hx hb dJ7_fill_53178_1 rfl hl (by decide +kernel) rfl (fun ls hl => ?_)
  refine lv_aload_n hx hb dJ7_fill_53178_2 rfl (lv_at hl 1 rfl) ?_
  obtain ⟨q_1, hq_1⟩ := og (cq := cq) ta1.1 (oE_a1 (n := 8) ta1.2 (by decide +kernel))
  refine va_alen (v := 8) hx hb hK hP q_1 0 hq_1 rfl (show Int32.ofNat 8 = 8 by decide) dJ7_fill_53178_3 ?_
  refine lv_istore_n (lv' := [(3, .int 8), (2, .int 0), (0, .ref a1), (1, .int x2)]) hx hb dJ7_fill_53178_4 rfl hl (by decide +kernel) rfl (fun ls hl => ?_)
  have cut_2 : ∀ (n : Nat) (y_3 : Int32) (S_4 : oS) (H : Heap) (locs : List Loc) (ls : Array Slot), 8 - y_3.toInt ≤ (n : Int) → (0 ≤ y_3.toInt ∧ y_3.toInt ≤ 8) → (∀ j, j < y_3.toNatClampNeg → oI S_4 a1 j = x2) → oInv S_4 → oX [2108] Z S_4 → va_P (dC, dI) vwCl (oW cq S_4) H → va_D A (oW cq S_4) → va_S A s.heap H locs → lv_has ls 4 [(2, .int y_3), (3, .int 8), (0, .ref a1), (1, .int x2)] → W p l e (headSpec wsJ7_fill_53178 { frames := 0, cells := 0, slots := 0, locals := 0 }).room s m #[Value.ref a1, Value.int x2] below meth c H locs 0 0 (MQ below (va_Qv (fun (u : oS) => oInv u ∧ oX [2108] Z u ∧ (∀ j, j < 8 → oI u a1 j = x2)) (fun u t => va_P (dC, dI) vwCl (oW cq u) t.heap ∧ va_K (dC, dI) vwCl (oT cq) t ∧ va_D A (oW cq u)) A) #[Value.ref a1, Value.int x2] s 0 0 A) (F0 m 5 ls []) := by
    intro n
    induction n using Nat.strongRecOn with
    | ind n ih =>
      intro y_3 S_4 H locs ls hm hy_3 hq0_cut_2 hIS_4 XS_4 hP hD hS hl
      have YS_4 : oX [2108] Z S_4 := oX.st oX.rf XS_4 (fun _ q => q)
      refine lv_iload_n hx hb dJ7_fill_53178_5 rfl (lv_at hl 0 rfl) ?_
      refine lv_iload_n hx hb dJ7_fill_53178_6 rfl (lv_at hl 1 rfl) ?_
      refine lv_icmp_ge (tgt := 20) hx hb dJ7_fill_53178_7 (by decide +kernel) (fun c_5 => ?_) (fun c_5 => ?_)
      · have dc_5 := c_le (a := 8) (b := y_3.toInt) (by decide +kernel) rfl c_5
        exact W.vret hx hb hr (fun t ht hW => ⟨⟨S_4, rfl, ⟨hIS_4, YS_4, (fun j hj => hq0_cut_2 j (show j < y_3.toInt.toNat by omega))⟩, ⟨by rw [ht]; exact hP, va_K.moved hW.alike hK, hD⟩⟩, hS.F ht⟩) hS.2.2 dJ7_fill_53178_20
      · have dc_5 := c_nle (a := 8) (b := y_3.toInt) (by decide +kernel) rfl c_5
        refine lv_aload_n hx hb dJ7_fill_53178_10 rfl (lv_at hl 2 rfl) ?_
        refine lv_iload_n hx hb dJ7_fill_53178_11 rfl (lv_at hl 0 rfl) ?_
        refine lv_iload_n hx hb dJ7_fill_53178_12 rfl (lv_at hl 3 rfl) ?_
        have t_6 : oty S_4 a1 108 := (oX.ty XS_4 ta1)
        obtain ⟨q_7, hq_7⟩ := og (cq := cq) t_6.1 (oE_a1 (n := 8) t_6.2 (by decide +kernel))
        refine va_iast hx hb hK hP hD hS q_7 0 hq_7 rfl (vp_in_iff.mpr (by omega)) dJ7_fill_53178_13 (fun H locs hP1 hD1 hS => ?_)
        obtain ⟨S_8, eS_8⟩ : ∃ zq, zq = setI S_4 a1 (y_3 : Int32).toNatClampNeg x2 := ⟨_, rfl⟩
        have hP : va_P (dC, dI) vwCl (oW cq S_8) H := by rw [eS_8]; exact cP (oset t_6.1 hq_7 hD rfl (he_a1 (n := 8) t_6.2 (by decide +kernel)) neI) hP1
        have hD : va_D A (oW cq S_8) := by rw [eS_8]; exact cD (oset t_6.1 hq_7 hD rfl (he_a1 (n := 8) t_6.2 (by decide +kernel)) neI) hD1
        clear hP1 hD1
        have hIS_8 : oInv S_8 := by rw [eS_8]; exact oInv.A (k := 108) hIS_4 t_6.2 (by decide +kernel)
        have XS_8 : oX [2108] S_4 S_8 := by rw [eS_8]; exact oX.I (k := 108) (key := 2108) t_6.2 rfl (List.mem_singleton.mpr rfl)
        have X_9 : oX [2108] Z S_8 := oX.st YS_4 XS_8 (by decide +kernel)
        obtain ⟨x_10, ex_10⟩ : ∃ zq : Int32, y_3 + 1 = zq := ⟨_, rfl⟩
        have hx_10 : x_10.toInt = y_3.toInt + 1 := (iv_to ex_10).symm.trans (ad_i rfl (by decide +kernel) (by omega) (by omega))
        refine lv_iinc (v := x_10) (lv' := [(2, .int x_10), (3, .int 8), (0, .ref a1), (1, .int x2)]) hx hb dJ7_fill_53178_14 hl (k := 0) rfl ex_10 (by decide +kernel) rfl (fun ls hl => ?_)
        clear ex_10
        refine lv_goto (tgt := 5) hx hb dJ7_fill_53178_17 (by decide +kernel) ?_
        exact ih (n - 1) (by omega) x_10 S_8 _ _ ls (by omega) (by omega) (fl_s hq0_cut_2 (by omega) (by omega) (by rw [eS_8, setI_fun])) hIS_8 (oX.st (oX.st oX.rf XS_4 (by decide +kernel)) XS_8 (by decide +kernel)) hP hD hS (lv_sub hl [0, 1, 2, 3] rfl)
  have kc_11 : (0 : Int32).toInt = 0 := by decide
  exact cut_2 9 0 Z _ _ ls (by omega) (by decide +kernel) (al_0 (by decide +kernel)) gI oX.rf hP hD hS (lv_sub hl [1, 0, 2, 3] rfl)
set_option maxHeartbeats 4000000 in
set_option maxRecDepth 100000 in
theorem c_X6_yearsOn_c (l : Launch) (dC : Nat → ClassId) (dI : Nat → Nat → Nat) (sz : Nat) (cq : Nat → ClassId) (Z : oS) (gI : oInv Z) (o : Nat) (to : oty Z o 6) (x1 : Int32) : Met l yX6_yearsOn wsX6_yearsOn ({ frames := 0, cells := 0, slots := 0, locals := 0 }) (va_Pc [.ref o, .int x1] (pcW (dC, dI) (oT cq) (oW cq Z) sz)) (va_Qi (fun (r : Int32) (u : Unit) => (r = (x1 - oI Z o 3) / 365)) (fun _ _ => True) (va_A [] sz)) 0 0 (va_A [] sz) := by
  refine Met.ofW (cc := cX6_yearsOn) (maxL := 2) (ret := (some .int)) (by decide +kernel) rfl ?_
  intro p e s m args below meth c s₁ B hml hv
  obtain ⟨rfl, hsz, hP, hK, hD0⟩ := hv
  have hx := B.exec
  have hb := B.bytes
  have hr := B.returns
  have hts := atoms_spec (ws := wsX6_yearsOn) B.pre
  have hown : s.vm.findClass RX6 = some m.cls := findClass_of_methodNamed B.named
  have hlocks := B.notSynchronized
  subst hsz
  have hD := hD0
  generalize hAe : va_A [] s.heap.size = A at ⊢
  have hA : ∀ q : Nat, s.heap.size ≤ q → A q := fun q h => by rw [← hAe]; exact Or.inr h
  have hS : va_S A s.heap s.heap [] := va_S.rf
  have hP : va_P (dC, dI) vwCl (oW cq Z) s.heap := hP
  have hl := lv_entry ([.ref o, .int x1]) (n := 2) (Nat.le_of_ble_eq_true rfl)
  rw [lg_entry_eq]
  generalize (lg_sl ([.ref o, .int x1]) ++ List.replicate (2 - (lg_sl ([.ref o, .int x1])).length) Slot.unset).toArray = ls at hl ⊢
  have hl : lv_has ls 2 [(0, .ref o), (1, .int x1)] := hl
  refine lv_iload_n hx hb dX6_yearsOn_0 rfl (lv_at hl 1 rfl) ?_
  refine lv_aload_n hx hb dX6_yearsOn_1 rfl (lv_at hl 0 rfl) ?_
  obtain ⟨q_1, hq_1⟩ := og (cq := cq) to.1 (oE_6 to.2)
  refine va_get (D := (dC, dI)) (ci := 6) (v := .int (oI Z o 3)) (C := RX6) (T := TX6) (N := 6) hx hb hts in_wsX6_yearsOn_X6 hown hK hP q_1 hq_1 rfl 3 (by decide +kernel) (hts (.fieldLink RX6 25 "ShipOffice$Man" "born" "I") iw_X6_yearsOn_1) (fun _ h9 => h9) rfl dX6_yearsOn_2 ?_
  refine lv_topi (fun x_2 ex_2 => ?_)
  have gx_2 : x_2.toInt = (oI Z o 3).toInt := iv_to ex_2
  clear ex_2
  refine lv_isub hx hb dX6_yearsOn_5 ?_
  refine lv_topi (fun x_3 ex_3 => ?_)
  refine lv_sipush (v := 365) hx hb dX6_yearsOn_6 (by decide +kernel) ?_
  refine lv_idiv hx hb dX6_yearsOn_9 (by decide +kernel) ?_
  refine lv_topi (fun x_4 ex_4 => ?_)
  exact W.iret (v := x_4) hx hb hr (fun t ht hW => ⟨⟨x_4, (), rfl, (by rw [ex_4, ex_3, show x_2 = oI Z o 3 from Int32.toInt_inj.mp (by omega)]), trivial⟩, hS.F ht⟩) hS.2.2 dX6_yearsOn_10
set_option maxHeartbeats 4000000 in
set_option maxRecDepth 100000 in
theorem c_X5_inForce_c (l : Launch) (dC : Nat → ClassId) (dI : Nat → Nat → Nat) (sz : Nat) (cq : Nat → ClassId) (Z : oS) (gI : oInv Z) (o : Nat) (to : oty Z o 5) (x1 : Int32) (hx1 : 0 ≤ x1.toInt ∧ x1.toInt ≤ 4) (x2 : Int32) (v : Nat → Int32) (fa : Nat → Nat → Int32) (hL : rLw Z o v fa) : Met l yX5_inForce wsX5_inForce ({ frames := 0, cells := 0, slots := 0, locals := 0 }) (va_Pc [.ref o, .int x1, .int x2] (pcW (dC, dI) (oT cq) (oW cq Z) sz)) (va_Qq (fun (r : Option Nat) (u : Unit) => (∃ b, r = some b ∧ oty Z b 0) ∧ (r = some (ifA Z o fa x1.toInt x2.toInt (v 42).toNatClampNeg))) (fun _ _ => True) (va_A [] sz)) 0 0 (va_A [] sz) := by
  refine Met.ofW (cc := cX5_inForce) (maxL := 6) (ret := (some (.object "ShipOffice$Act"))) (by decide +kernel) rfl ?_
  intro p e s m args below meth c s₁ B hml hv
  obtain ⟨rfl, hsz, hP, hK, hD0⟩ := hv
  have hx := B.exec
  have hb := B.bytes
  have hr := B.returns
  have hts := atoms_spec (ws := wsX5_inForce) B.pre
  have hown : s.vm.findClass RX5 = some m.cls := findClass_of_methodNamed B.named
  have hlocks := B.notSynchronized
  subst hsz
  have hD := hD0
  generalize hAe : va_A [] s.heap.size = A at ⊢
  have hA : ∀ q : Nat, s.heap.size ≤ q → A q := fun q h => by rw [← hAe]; exact Or.inr h
  have hS : va_S A s.heap s.heap [] := va_S.rf
  have hP : va_P (dC, dI) vwCl (oW cq Z) s.heap := hP
  have hl := lv_entry ([.ref o, .int x1, .int x2]) (n := 6) (Nat.le_of_ble_eq_true rfl)
  rw [lg_entry_eq]
  generalize (lg_sl ([.ref o, .int x1, .int x2]) ++ List.replicate (6 - (lg_sl ([.ref o, .int x1, .int x2])).length) Slot.unset).toArray = ls at hl ⊢
  have hl : lv_has ls 6 [(0, .ref o), (1, .int x1), (2, .int x2)] := hl
  have fl0 := hL.1
  have iv_1 : 0 ≤ (oI Z o 2).toInt ∧ (oI Z o 2).toInt ≤ 30 := oInv.iv gI to.2 rfl rfl
  refine lv_aload_n hx hb dX5_inForce_0 rfl (lv_at hl 0 rfl) ?_
  obtain ⟨q_2, hq_2⟩ := og (cq := cq) to.1 (oE_5 to.2)
  obtain ⟨b_3, hb_3⟩ := oInv.nn (i := 1) gI to rfl
  refine va_get (D := (dC, dI)) (ci := 5) (v := .ref b_3) (C := RX5) (T := TX5) (N := 3) hx hb hts in_wsX5_inForce_X5 hown hK hP q_2 hq_2 rfl 1 (by decide +kernel) (hts (.fieldLink RX5 17 "ShipOffice$Law" "customs" "[LShipOffice$Act;") iw_X5_inForce_1) (fun _ h9 => h9) (o_rd hb_3) dX5_inForce_1 ?_
  have tb_3 : oty Z b_3 13 := oInv.rd gI to.2 hb_3 rfl rfl
  refine lv_iload_n hx hb dX5_inForce_4 rfl (lv_at hl 1 rfl) ?_
  obtain ⟨q_4, hq_4⟩ := og (cq := cq) tb_3.1 (oE_13 tb_3.2)
  refine va_aldq hx hb hK hP q_4 2 hq_4 rfl (vp_in_iff.mpr (by omega)) dX5_inForce_5 ?_
  obtain ⟨b_5, hb_5⟩ := oInv.cu (x := x1) gI to hb_3 (by omega)
  refine W.eq (g2 := F0 m 6 ls [.ref b_5]) (congrArg (fun z => F0 m 6 ls [va_rf z]) hb_5) ?_
  have tb_5 : oty Z b_5 0 := oInv.rd gI tb_3.2 hb_5 rfl rfl
  have ejb_5 : b_5 = cuA Z o x1.toNatClampNeg := by unfold cuA; rw [oQ_e hb_3, oQ_e hb_5]
  refine lv_astore_n (lv' := [(3, .ref b_5), (0, .ref o), (1, .int x1), (2, .int x2)]) hx hb dX5_inForce_6 rfl hl (by decide +kernel) rfl (fun ls hl => ?_)
  refine lv_iconst (v := 0) hx hb dX5_inForce_7 (by decide +kernel) ?_
  refine lv_istore (lv' := [(4, .int 0), (3, .ref b_5), (0, .ref o), (1, .int x1), (2, .int x2)]) hx hb dX5_inForce_8 hl (by decide +kernel) rfl (fun ls hl => ?_)
  have cut_6 : ∀ (n : Nat) (y_7 : Nat) (y_8 : Int32) (H : Heap) (locs : List Loc) (ls : Array Slot), 30 - y_8.toInt ≤ (n : Int) → oty Z y_7 0 → (0 ≤ y_8.toInt ∧ y_8.toInt ≤ 30) → y_7 = ifA Z o fa x1.toInt x2.toInt y_8.toNatClampNeg → y_8.toInt ≤ (v 42).toInt → va_P (dC, dI) vwCl (oW cq Z) H → va_S A s.heap H locs → lv_has ls 6 [(3, .ref y_7), (4, .int y_8), (0, .ref o), (1, .int x1), (2, .int x2)] → W p l e (headSpec wsX5_inForce { frames := 0, cells := 0, slots := 0, locals := 0 }).room s m #[Value.ref o, Value.int x1, Value.int x2] below meth c H locs 0 0 (MQ below (va_Qq (fun (r : Option Nat) (u : Unit) => (∃ b, r = some b ∧ oty Z b 0) ∧ (r = some (ifA Z o fa x1.toInt x2.toInt (v 42).toNatClampNeg))) (fun _ _ => True) A) #[Value.ref o, Value.int x1, Value.int x2] s 0 0 A) (F0 m 10 ls []) := by
    intro n
    induction n using Nat.strongRecOn with
    | ind n ih =>
      intro y_7 y_8 H locs ls hm ty_7 hy_8 hq0_cut_6 hq1_cut_6 hP hS hl
      refine lv_iload hx hb dX5_inForce_10 (lv_at hl 1 rfl) ?_
      refine lv_aload_n hx hb dX5_inForce_12 rfl (lv_at hl 2 rfl) ?_
      obtain ⟨q_9, hq_9⟩ := og (cq := cq) to.1 (oE_5 to.2)
      refine va_get (D := (dC, dI)) (ci := 5) (v := .int (oI Z o 2)) (C := RX5) (T := TX5) (N := 3) hx hb hts in_wsX5_inForce_X5 hown hK hP q_9 hq_9 rfl 2 (by decide +kernel) (hts (.fieldLink RX5 23 "ShipOffice$Law" "actCount" "I") iw_X5_inForce_2) (fun _ h9 => h9) rfl dX5_inForce_13 ?_
      refine lv_topi (fun x_10 ex_10 => ?_)
      have hx_10 : 0 ≤ x_10.toInt ∧ x_10.toInt ≤ 30 := iv_of ex_10 (oInv.iv gI to.2 rfl rfl)
      have gx_10 : x_10.toInt = (oI Z o 2).toInt := iv_to ex_10
      clear ex_10
      refine lv_icmp_ge (tgt := 67) hx hb dX5_inForce_16 (by decide +kernel) (fun c_11 => ?_) (fun c_11 => ?_)
      · have dc_11 := c_le (a := x_10.toInt) (b := y_8.toInt) rfl rfl c_11
        refine lv_aload_n hx hb dX5_inForce_67 rfl (lv_at hl 0 rfl) ?_
        exact W.aret (v := .ref y_7) hx hb hr (Or.inl ⟨_, rfl⟩) (Or.inr ⟨_, rfl⟩) (fun t ht hW => ⟨⟨(some y_7), (), rfl, ⟨⟨_, rfl, ty_7⟩, (congrArg some (hq0_cut_6.trans (by rw [show y_8.toNatClampNeg = (v 42).toNatClampNeg from (show y_8.toInt.toNat = (v 42).toInt.toNat by omega)])))⟩, trivial⟩, hS.F ht⟩) hS.2.2 dX5_inForce_68
      · have dc_11 := c_nle (a := x_10.toInt) (b := y_8.toInt) rfl rfl c_11
        refine lv_aload_n hx hb dX5_inForce_19 rfl (lv_at hl 2 rfl) ?_
        obtain ⟨b_12, hb_12⟩ := oInv.nn (i := 0) gI to rfl
        refine va_get (D := (dC, dI)) (ci := 5) (v := .ref b_12) (C := RX5) (T := TX5) (N := 3) hx hb hts in_wsX5_inForce_X5 hown hK hP q_9 hq_9 rfl 0 (by decide +kernel) (hts (.fieldLink RX5 11 "ShipOffice$Law" "acts" "[LShipOffice$Act;") iw_X5_inForce_3) (fun _ h9 => h9) (o_rd hb_12) dX5_inForce_20 ?_
        have tb_12 : oty Z b_12 12 := oInv.rd gI to.2 hb_12 rfl rfl
        refine lv_iload hx hb dX5_inForce_23 (lv_at hl 1 rfl) ?_
        obtain ⟨q_13, hq_13⟩ := og (cq := cq) tb_12.1 (oE_12 tb_12.2)
        refine va_aldq hx hb hK hP q_13 2 hq_13 rfl (vp_in_iff.mpr (by omega)) dX5_inForce_25 ?_
        obtain ⟨b_14, hb_14⟩ := oInv.el (i := 2) (x := y_8) gI to rfl hb_12 (by omega) (by omega)
        refine W.eq (g2 := F0 m 26 ls [.ref b_14]) (congrArg (fun z => F0 m 26 ls [va_rf z]) hb_14) ?_
        have tb_14 : oty Z b_14 0 := oInv.rd gI tb_12.2 hb_14 rfl rfl
        have ejb_14 : b_14 = acA Z o y_8.toNatClampNeg := by unfold acA; rw [oQ_e hb_12, oQ_e hb_14]
        refine lv_astore (lv' := [(5, .ref b_14), (3, .ref y_7), (4, .int y_8), (0, .ref o), (1, .int x1), (2, .int x2)]) hx hb dX5_inForce_26 hl (by decide +kernel) rfl (fun ls hl => ?_)
        refine lv_aload hx hb dX5_inForce_28 (lv_at hl 0 rfl) ?_
        obtain ⟨q_15, hq_15⟩ := og (cq := cq) tb_14.1 (oE_0 tb_14.2)
        refine va_get (D := (dC, dI)) (ci := 0) (v := .int (oI Z b_14 0)) (C := RX0) (T := TX0) (N := 5) hx hb hts in_wsX5_inForce_X0 hown hK hP q_15 hq_15 rfl 0 (by decide +kernel) (hts (.fieldLink RX5 27 "ShipOffice$Act" "purpose" "I") iw_X5_inForce_4) (fun _ h9 => h9) rfl dX5_inForce_30 ?_
        refine lv_topi (fun x_16 ex_16 => ?_)
        have gx_16 : x_16.toInt = (oI Z b_14 0).toInt := iv_to ex_16
        clear ex_16
        refine lv_iload_n hx hb dX5_inForce_33 rfl (lv_at hl 4 rfl) ?_
        refine lv_icmp_ne (tgt := 61) hx hb dX5_inForce_34 (by decide +kernel) (fun c_17 => ?_) (fun c_17 => ?_)
        · have dc_17 := c_ne (a := x_16.toInt) (b := x1.toInt) rfl rfl c_17
          obtain ⟨x_18, ex_18⟩ : ∃ zq : Int32, y_8 + 1 = zq := ⟨_, rfl⟩
          have hx_18 : x_18.toInt = y_8.toInt + 1 := (iv_to ex_18).symm.trans (ad_i rfl (by decide +kernel) (by omega) (by omega))
          refine lv_iinc (v := x_18) (lv' := [(4, .int x_18), (5, .ref b_14), (3, .ref y_7), (0, .ref o), (1, .int x1), (2, .int x2)]) hx hb dX5_inForce_61 hl (k := 2) rfl ex_18 (by decide +kernel) rfl (fun ls hl => ?_)
          clear ex_18
          refine lv_goto (tgt := 10) hx hb dX5_inForce_64 (by decide +kernel) ?_
          exact ih (n - 1) (by omega) y_7 x_18 _ _ ls (by omega) ty_7 (by omega) (if_f hL (by omega) (by omega) hq0_cut_6 (by omega) (by omega) (by omega) ejb_14) (by omega) hP hS (lv_sub hl [2, 0, 3, 4, 5] rfl)
        · have dc_17 := c_eq (a := x_16.toInt) (b := x1.toInt) rfl rfl c_17
          refine lv_aload hx hb dX5_inForce_37 (lv_at hl 0 rfl) ?_
          refine va_get (D := (dC, dI)) (ci := 0) (v := .int (oI Z b_14 1)) (C := RX0) (T := TX0) (N := 5) hx hb hts in_wsX5_inForce_X0 hown hK hP q_15 hq_15 rfl 1 (by decide +kernel) (hts (.fieldLink RX5 30 "ShipOffice$Act" "day" "I") iw_X5_inForce_5) (fun _ h9 => h9) rfl dX5_inForce_39 ?_
          refine lv_topi (fun x_19 ex_19 => ?_)
          have gx_19 : x_19.toInt = (oI Z b_14 1).toInt := iv_to ex_19
          clear ex_19
          refine lv_iload_n hx hb dX5_inForce_42 rfl (lv_at hl 5 rfl) ?_
          refine lv_icmp_gt (tgt := 61) hx hb dX5_inForce_43 (by decide +kernel) (fun c_20 => ?_) (fun c_20 => ?_)
          · have dc_20 := c_lt (a := x2.toInt) (b := x_19.toInt) rfl rfl c_20
            obtain ⟨x_21, ex_21⟩ : ∃ zq : Int32, y_8 + 1 = zq := ⟨_, rfl⟩
            have hx_21 : x_21.toInt = y_8.toInt + 1 := (iv_to ex_21).symm.trans (ad_i rfl (by decide +kernel) (by omega) (by omega))
            refine lv_iinc (v := x_21) (lv' := [(4, .int x_21), (5, .ref b_14), (3, .ref y_7), (0, .ref o), (1, .int x1), (2, .int x2)]) hx hb dX5_inForce_61 hl (k := 2) rfl ex_21 (by decide +kernel) rfl (fun ls hl => ?_)
            clear ex_21
            refine lv_goto (tgt := 10) hx hb dX5_inForce_64 (by decide +kernel) ?_
            exact ih (n - 1) (by omega) y_7 x_21 _ _ ls (by omega) ty_7 (by omega) (if_f hL (by omega) (by omega) hq0_cut_6 (by omega) (by omega) (by omega) ejb_14) (by omega) hP hS (lv_sub hl [2, 0, 3, 4, 5] rfl)
          · have dc_20 := c_nlt (a := x2.toInt) (b := x_19.toInt) rfl rfl c_20
            refine lv_aload hx hb dX5_inForce_46 (lv_at hl 0 rfl) ?_
            refine va_get (D := (dC, dI)) (ci := 0) (v := .int (oI Z b_14 1)) (C := RX0) (T := TX0) (N := 5) hx hb hts in_wsX5_inForce_X0 hown hK hP q_15 hq_15 rfl 1 (by decide +kernel) (hts (.fieldLink RX5 30 "ShipOffice$Act" "day" "I") iw_X5_inForce_5) (fun _ h9 => h9) rfl dX5_inForce_48 ?_
            refine lv_topi (fun x_22 ex_22 => ?_)
            have gx_22 : x_22.toInt = (oI Z b_14 1).toInt := iv_to ex_22
            clear ex_22
            refine lv_aload_n hx hb dX5_inForce_51 rfl (lv_at hl 1 rfl) ?_
            obtain ⟨q_23, hq_23⟩ := og (cq := cq) ty_7.1 (oE_0 ty_7.2)
            refine va_get (D := (dC, dI)) (ci := 0) (v := .int (oI Z y_7 1)) (C := RX0) (T := TX0) (N := 5) hx hb hts in_wsX5_inForce_X0 hown hK hP q_23 hq_23 rfl 1 (by decide +kernel) (hts (.fieldLink RX5 30 "ShipOffice$Act" "day" "I") iw_X5_inForce_5) (fun _ h9 => h9) rfl dX5_inForce_52 ?_
            refine lv_topi (fun x_24 ex_24 => ?_)
            have gx_24 : x_24.toInt = (oI Z y_7 1).toInt := iv_to ex_24
            clear ex_24
            refine lv_icmp_lt (tgt := 61) hx hb dX5_inForce_55 (by decide +kernel) (fun c_25 => ?_) (fun c_25 => ?_)
            · have dc_25 := c_lt (a := x_22.toInt) (b := x_24.toInt) rfl rfl c_25
              obtain ⟨x_26, ex_26⟩ : ∃ zq : Int32, y_8 + 1 = zq := ⟨_, rfl⟩
              have hx_26 : x_26.toInt = y_8.toInt + 1 := (iv_to ex_26).symm.trans (ad_i rfl (by decide +kernel) (by omega) (by omega))
              refine lv_iinc (v := x_26) (lv' := [(4, .int x_26), (5, .ref b_14), (3, .ref y_7), (0, .ref o), (1, .int x1), (2, .int x2)]) hx hb dX5_inForce_61 hl (k := 2) rfl ex_26 (by decide +kernel) rfl (fun ls hl => ?_)
              clear ex_26
              refine lv_goto (tgt := 10) hx hb dX5_inForce_64 (by decide +kernel) ?_
              exact ih (n - 1) (by omega) y_7 x_26 _ _ ls (by omega) ty_7 (by omega) (if_f hL (by omega) (by omega) hq0_cut_6 (by omega) (by omega) (by omega) ejb_14) (by omega) hP hS (lv_sub hl [2, 0, 3, 4, 5] rfl)
            · have dc_25 := c_nlt (a := x_22.toInt) (b := x_24.toInt) rfl rfl c_25
              refine lv_aload hx hb dX5_inForce_58 (lv_at hl 0 rfl) ?_
              refine lv_astore_n (lv' := [(3, .ref b_14), (5, .ref b_14), (4, .int y_8), (0, .ref o), (1, .int x1), (2, .int x2)]) hx hb dX5_inForce_60 rfl hl (by decide +kernel) rfl (fun ls hl => ?_)
              obtain ⟨x_27, ex_27⟩ : ∃ zq : Int32, y_8 + 1 = zq := ⟨_, rfl⟩
              have hx_27 : x_27.toInt = y_8.toInt + 1 := (iv_to ex_27).symm.trans (ad_i rfl (by decide +kernel) (by omega) (by omega))
              refine lv_iinc (v := x_27) (lv' := [(4, .int x_27), (3, .ref b_14), (5, .ref b_14), (0, .ref o), (1, .int x1), (2, .int x2)]) hx hb dX5_inForce_61 hl (k := 2) rfl ex_27 (by decide +kernel) rfl (fun ls hl => ?_)
              clear ex_27
              refine lv_goto (tgt := 10) hx hb dX5_inForce_64 (by decide +kernel) ?_
              exact ih (n - 1) (by omega) b_14 x_27 _ _ ls (by omega) tb_14 (by omega) (if_t hL (by omega) (by omega) hq0_cut_6 (by omega) (by omega) (by omega) (by omega) (by omega) ejb_14) (by omega) hP hS (lv_sub hl [1, 0, 3, 4, 5] rfl)
  have kc_28 : (0 : Int32).toInt = 0 := by decide
  exact cut_6 31 b_5 0 _ _ ls (by omega) tb_5 (by decide +kernel) (if_0 (by decide +kernel) (by omega) ejb_5) (by have rc : (0 : Int32).toInt = 0 := (by decide +kernel); omega) hP hS (lv_sub hl [1, 0, 2, 3, 4] rfl)
