

/-- an agreement more, of a man, a voyage, with a paper or none -/
def sgO (Z : oS) (o ma va : Nat) (sh : Option Nat) (w k : Int32) (u : oS) : Prop := ∃ q S1 y, q ∉ oL Z ∧ oX [2108, 5001] Z S1 ∧ oty S1 q 1 ∧ (oP S1 q 0 = some ma ∧ oP S1 q 1 = some va ∧ oI S1 q 2 = oI Z o 0 ∧ oP S1 q 3 = sh ∧ oI S1 q 6 = 1000000 ∧ oI S1 q 7 = 0 ∧ oP S1 q 8 = none ∧ oI S1 q 9 = 0 ∧ oI S1 q 10 = 0 ∧ oI S1 q 11 = 0 ∧ (∃ rw, oP S1 q 12 = some rw ∧ rw ∉ oL Z) ∧ oI S1 q 13 = 0 ∧ (∃ rw, oP S1 q 14 = some rw ∧ rw ∉ oL Z) ∧ (∃ rw, oP S1 q 15 = some rw ∧ rw ∉ oL Z) ∧ oI S1 q 16 = 0 ∧ oI S1 q 17 = 0) ∧ y.toInt = (oI Z o 6).toInt + 1 ∧ u = setI (setP (setI (setI S1 q 4 w) q 5 k) (oQ Z o 5) (oI Z o 6).toNatClampNeg (some q)) o 6 y
def rO3 (Z : oS) (o : Nat) (u : oS) (r : Int32) (P : Prop) : Prop := (r.toInt < 0 ∧ ∃ S0, oInv S0 ∧ oX [2108, 5001] Z S0 ∧ rfO S0 o u r) ∨ (0 ≤ r.toInt ∧ P)
def shO (Z : oS) (o : Nat) (p : Int32) : Option Nat := if p.toInt < 0 then none else some (agA Z o p.toNatClampNeg)
theorem ex_nin {W : List Nat} {Z S u : oS} {a j : Nat} (X : oX W Z S) (h : ∃ rw, oP u a j = some rw ∧ rw ∉ oL S) : ∃ rw, oP u a j = some rw ∧ rw ∉ oL Z := by
  obtain ⟨rw_, h1, h2⟩ := h
  exact ⟨rw_, h1, X.nin h2⟩
set_option maxHeartbeats 4000000 in
set_option maxRecDepth 100000 in
theorem c_X10_sign_c (l : Launch) (dC : Nat → ClassId) (dI : Nat → Nat → Nat) (sz : Nat) (tL tS tG : Nat) (cq : Nat → ClassId) (Z : oS) (gI : oInv Z) (o : Nat) (to : oty Z o 10) (x1 : Int32) (x2 : Int32) (x3 : Int32) (x4 : Int32) (x5 : Int32) (v : Nat → Int32) (fa : Nat → Nat → Int32) (hR : RC Z o v fa) : Met l yX10_sign wsX10_sign ({ frames := 4, cells := 4, slots := 64, locals := 95 }) (va_Pc [.ref o, .int x1, .int x2, .int x3, .int x4, .int x5] (pcO (dC, dI) (oT cq) (oW cq Z) sz tL tS tG (oW cq Z))) (va_Qi (fun (r : Int32) (u : oS) => oInv u ∧ oX [1006, 2016, 2107, 2108, 5001] Z u ∧ (aSg x1.toInt (v 39).toInt x2.toInt (v 40).toInt x5.toInt (v 43).toInt x3.toInt x4.toInt (fa 9 x2.toNatClampNeg).toInt (tldI v fa 0 x2.toInt) (tldI v fa 2 x2.toInt) (fa 26 x5.toNatClampNeg).toInt (frI v fa x1.toInt) (wrt v fa 0 (v 38).toInt (ltS x3 x4 (yrs v fa x1.toNatClampNeg))).toInt r.toInt ∧ rO3 Z o u r (sgO Z o (mnA Z o x1.toNatClampNeg) (voA Z o x2.toNatClampNeg) (shO Z o x5) x3 x4 u))) (fun u t => va_P (dC, dI) vwCl (oW cq u) t.heap ∧ va_K (dC, dI) vwCl (oT cq) t ∧ va_D (va_A (oW cq Z) sz) (oW cq u)) (va_A (oW cq Z) sz)) 4 64 (va_A (oW cq Z) sz) := by
  refine Met.ofW (cc := cX10_sign) (maxL := 11) (ret := (some .int)) (by decide +kernel) rfl ?_
  intro p e s m args below meth c s₁ B hml hv
  obtain ⟨rfl, ⟨hsz, hP, hK, hD0⟩, hZ⟩ := hv
  have hx := B.exec
  have hb := B.bytes
  have hr := B.returns
  have hts := atoms_spec (ws := wsX10_sign) B.pre
  have hown : s.vm.findClass RX10 = some m.cls := findClass_of_methodNamed B.named
  have hlocks := B.notSynchronized
  subst hsz
  have hD := hD0.self (sz := s.heap.size)
  generalize hAe : va_A (oW cq Z) s.heap.size = A at hD hZ ⊢
  have hA : ∀ q : Nat, s.heap.size ≤ q → A q := fun q h => by rw [← hAe]; exact Or.inr h
  have hS : va_S A s.heap s.heap [] := va_S.rf
  have hP : va_P (dC, dI) vwCl (oW cq Z) s.heap := hP
  have hl := lv_entry ([.ref o, .int x1, .int x2, .int x3, .int x4, .int x5]) (n := 11) (Nat.le_of_ble_eq_true rfl)
  rw [lg_entry_eq]
  generalize (lg_sl ([.ref o, .int x1, .int x2, .int x3, .int x4, .int x5]) ++ List.replicate (11 - (lg_sl ([.ref o, .int x1, .int x2, .int x3, .int x4, .int x5])).length) Slot.unset).toArray = ls at hl ⊢
  have hl : lv_has ls 11 [(0, .ref o), (1, .int x1), (2, .int x2), (3, .int x3), (4, .int x4), (5, .int x5)] := hl
  obtain ⟨fn0, fn1, fn2, fn3, fn4⟩ := RC.n hR
  have fb38 : 0 ≤ (v 38).toInt ∧ (v 38).toInt ≤ 3000 := RC.V hR 38
  have fb39 : 0 ≤ (v 39).toInt ∧ (v 39).toInt ≤ 40 := RC.V hR 39
  have fb40 : 0 ≤ (v 40).toInt ∧ (v 40).toInt ≤ 20 := RC.V hR 40
  have fb43 : 0 ≤ (v 43).toInt ∧ (v 43).toInt ≤ 60 := RC.V hR 43
  have fb41 : 0 ≤ (v 41).toInt ∧ (v 41).toInt ≤ 200 := RC.V hR 41
  refine lv_aload_n hx hb dX10_sign_0 rfl (lv_at hl 0 rfl) ?_
  refine lv_iload_n hx hb dX10_sign_1 rfl (lv_at hl 1 rfl) ?_
  have hFc : ∀ q, va_A [] s.heap.size q → A q := pu_free hS hA
  obtain ⟨q_1, hq_1⟩ := og (cq := cq) to.1 (oE_10 to.2)
  refine va_callq (va_runV (As := [.int x1]) (rest := []) ⟨hx, hb, hml, hown, hts⟩ (c_X10_manAt_c l dC dI s.heap.size cq Z gI o to x1 v fa hR) (cwV 1 hts gX10_sign_X10_manAt rfl rfl rfl (by decide +kernel) ⟨(Nat.le_of_ble_eq_true rfl), (Nat.le_of_ble_eq_true rfl)⟩) (pr_V (r := (RX10, TX10, 16)) hP hK hD q_1 10 rfl hq_1) rfl rfl hl.1 rfl (lv_room (Nat.le_of_ble_eq_true rfl)) dX10_sign_2 ⟨(Nat.le_of_ble_eq_true rfl), (Nat.le_of_ble_eq_true rfl)⟩) hS (fun q _ h => hFc q h) hFc (fun r_3 u t H locs ht hvm w_2 hB hz1 hk1 hS => ?_)
  have hP := pu_keep hP hk1
  clear hk1 hz1 hvm hB ht hFc
  obtain ⟨hk_4, hx_5⟩ := w_2
  rcases r_3 with _ | b_6
  · refine W.eq (g2 := F0 m 5 ls [.null]) rfl ?_
    have hnr_3 := atF_n hx_5
    refine lv_astoreN (lv' := [(6, .null), (0, .ref o), (1, .int x1), (2, .int x2), (3, .int x3), (4, .int x4), (5, .int x5)]) hx hb dX10_sign_5 hl (by decide +kernel) rfl (fun ls hl => ?_)
    refine lv_aload_n hx hb dX10_sign_7 rfl (lv_at hl 1 rfl) ?_
    refine lv_iload_n hx hb dX10_sign_8 rfl (lv_at hl 3 rfl) ?_
    have hFc : ∀ q, va_A [] H.size q → A q := pu_free hS hA
    refine va_callq (va_runV (As := [.int x2]) (rest := []) ⟨hx, hb, hml, hown, hts⟩ (c_X10_voyageAt_c l dC dI H.size cq Z gI o to x2 v fa hR) (cwV 1 hts gX10_sign_X10_voyageAt rfl rfl rfl (by decide +kernel) ⟨(Nat.le_of_ble_eq_true rfl), (Nat.le_of_ble_eq_true rfl)⟩) (pr_V (r := (RX10, TX10, 16)) hP hK hD q_1 10 rfl hq_1) rfl rfl hl.1 rfl (lv_room (Nat.le_of_ble_eq_true rfl)) dX10_sign_9 ⟨(Nat.le_of_ble_eq_true rfl), (Nat.le_of_ble_eq_true rfl)⟩) hS (fun q _ h => hFc q h) hFc (fun r_8 u t H locs ht hvm w_7 hB hz1 hk1 hS => ?_)
    have hP := pu_keep hP hk1
    clear hk1 hz1 hvm hB ht hFc
    obtain ⟨hk_9, hx_10⟩ := w_7
    rcases r_8 with _ | b_11
    · refine W.eq (g2 := F0 m 12 ls [.null]) rfl ?_
      have hnr_8 := atF_n hx_10
      refine lv_astoreN (lv' := [(7, .null), (6, .null), (0, .ref o), (1, .int x1), (2, .int x2), (3, .int x3), (4, .int x4), (5, .int x5)]) hx hb dX10_sign_12 hl (by decide +kernel) rfl (fun ls hl => ?_)
      refine lv_aload_n hx hb dX10_sign_14 rfl (lv_at hl 2 rfl) ?_
      refine lv_iload hx hb dX10_sign_15 (lv_at hl 7 rfl) ?_
      have hFc : ∀ q, va_A [] H.size q → A q := pu_free hS hA
      refine va_callq (va_runV (As := [.int x5]) (rest := []) ⟨hx, hb, hml, hown, hts⟩ (c_X10_agreementAt_c l dC dI H.size cq Z gI o to x5 v fa hR) (cwV 1 hts gX10_sign_X10_agreementAt rfl rfl rfl (by decide +kernel) ⟨(Nat.le_of_ble_eq_true rfl), (Nat.le_of_ble_eq_true rfl)⟩) (pr_V (r := (RX10, TX10, 16)) hP hK hD q_1 10 rfl hq_1) rfl rfl hl.1 rfl (lv_room (Nat.le_of_ble_eq_true rfl)) dX10_sign_17 ⟨(Nat.le_of_ble_eq_true rfl), (Nat.le_of_ble_eq_true rfl)⟩) hS (fun q _ h => hFc q h) hFc (fun r_13 u t H locs ht hvm w_12 hB hz1 hk1 hS => ?_)
      have hP := pu_keep hP hk1
      clear hk1 hz1 hvm hB ht hFc
      obtain ⟨hk_14, hx_15⟩ := w_12
      rcases r_13 with _ | b_16
      · refine W.eq (g2 := F0 m 20 ls [.null]) rfl ?_
        have hnr_13 := atF_n hx_15
        refine lv_astoreN (lv' := [(8, .null), (7, .null), (6, .null), (0, .ref o), (1, .int x1), (2, .int x2), (3, .int x3), (4, .int x4), (5, .int x5)]) hx hb dX10_sign_20 hl (by decide +kernel) rfl (fun ls hl => ?_)
        refine lv_aloadN hx hb dX10_sign_22 (lv_at hl 2 rfl) ?_
        refine lv_ifnullN (tgt := 43) hx hb dX10_sign_24 (by decide +kernel) ?_
        refine lv_aload_n hx hb dX10_sign_43 rfl (lv_at hl 3 rfl) ?_
        refine lv_iconst (v := (-1)) hx hb dX10_sign_44 (by decide +kernel) ?_
        have hFc := o_free hD hS hA
        refine va_calli (va_runV (As := [.int (-1)]) (rest := []) ⟨hx, hb, hml, hown, hts⟩ (c_X10_refuse_c l dC dI H.size cq Z gI o to (-1) (by decide +kernel)) (cwV 1 hts gX10_sign_X10_refuse rfl rfl rfl (by decide +kernel) ⟨(Nat.le_of_ble_eq_true rfl), (Nat.le_of_ble_eq_true rfl)⟩) (pr_V (r := (RX10, TX10, 16)) hP hK hD q_1 10 rfl hq_1) rfl rfl hl.1 rfl (lv_room (Nat.le_of_ble_eq_true rfl)) dX10_sign_45 ⟨(Nat.le_of_ble_eq_true rfl), (Nat.le_of_ble_eq_true rfl)⟩) hS (fun q _ h => hFc q h) hFc (fun r_18 u t H locs ht hvm w_17 hB hz1 hk1 hS => ?_)
        obtain ⟨S_19, rfl⟩ : ∃ z, z = u := ⟨_, rfl⟩
        obtain ⟨hP1, hK1, hD1⟩ := hB
        rw [ht] at hP1
        have hP : va_P (dC, dI) vwCl (oW cq S_19) H := hP1
        have hD : va_D A (oW cq S_19) := hD1.weaken (fun _ _ _ h => hFc _ h)
        clear hP1 hK1 hD1 hk1 hz1 hvm ht hFc
        obtain ⟨hIS_19, XS_19, hb_20, hx_21⟩ := w_17
        have X_22 : oX [1006, 2016, 2107, 2108, 5001] Z S_19 := oX.st oX.rf XS_19 (by decide +kernel)
        have g_23 : (oI S_19 o 0).toInt = (oI Z o 0).toInt := by rw [oX.i XS_19 to (by decide +kernel)]
        have g_24 : (oI S_19 o 6).toInt = (oI Z o 6).toInt := by rw [oX.i XS_19 to (by decide +kernel)]
        have rf_25 : r_18.toInt = -1 := by rw [hx_21.1]; decide
        refine W.widen (k := 4) (n := 64) (Nat.le_of_ble_eq_true rfl) (Nat.le_of_ble_eq_true rfl) ?_
        exact W.iret (v := r_18) hx hb hr (fun t ht hW => ⟨⟨r_18, S_19, rfl, ⟨hIS_19, X_22, ⟨by have kc0 : (0 : Int32).toInt = 0 := (by decide +kernel); have kc1 : (1 : Int32).toInt = 1 := (by decide +kernel); have kc2 : (2 : Int32).toInt = 2 := (by decide +kernel); exact Or.inl ⟨by unfold sgK; omega, by omega⟩, Or.inl ⟨by omega, Z, gI, oX.rf, by rw [hx_21.1]; exact hx_21.2⟩⟩⟩, ⟨by rw [ht]; exact hP, va_K.moved hW.alike hK, hD⟩⟩, hS.F ht⟩) hS.2.2 dX10_sign_48
      · refine W.eq (g2 := F0 m 20 ls [.ref b_16]) rfl ?_
        have tb_16 : oty Z b_16 1 := hk_14 b_16 rfl
        obtain ⟨hjb_16, ejb_16⟩ := atF_s hx_15
        have ljb_16 := ni_lt hjb_16.1 hjb_16.2
        have njb_16 := tn_i hjb_16.1
        have fAb_16 := RC.a hR ljb_16
        rw [← ejb_16] at fAb_16
        obtain ⟨⟨fm1b_16, fm2b_16, fm3b_16⟩, ⟨fv1b_16, fv2b_16, fv3b_16⟩, fsib_16, fppb_16, fwgb_16, frkb_16, fofb_16, fdeb_16, fchb_16⟩ := fAb_16
        have fBb_16 : 0 ≤ (fa 25 x5.toNatClampNeg).toInt ∧ (fa 25 x5.toNatClampNeg).toInt ≤ 3000 := RC.A hR 25 _
        have lamb_16 : (fa 20 x5.toNatClampNeg).toNatClampNeg < (v 39).toNatClampNeg := ni_lt fm1b_16 fm2b_16
        have namb_16 : (((fa 20 x5.toNatClampNeg).toNatClampNeg : Nat) : Int) = (fa 20 x5.toNatClampNeg).toInt := tn_i fm1b_16
        obtain ⟨amb_16, eamb_16⟩ : ∃ z, z = mnA Z o (fa 20 x5.toNatClampNeg).toNatClampNeg := ⟨_, rfl⟩
        rw [← eamb_16] at fm3b_16
        have tamb_16 : oty Z amb_16 6 := by rw [eamb_16]; exact (RC.tm hR gI to lamb_16).2
        have fMamb_16 := RC.m hR lamb_16
        rw [← eamb_16] at fMamb_16
        obtain ⟨fz0amb_16, fz1amb_16, fz2amb_16, fz3amb_16⟩ := fMamb_16
        rw [namb_16] at fz0amb_16
        have lavb_16 : (fa 21 x5.toNatClampNeg).toNatClampNeg < (v 40).toNatClampNeg := ni_lt fv1b_16 fv2b_16
        have navb_16 : (((fa 21 x5.toNatClampNeg).toNatClampNeg : Nat) : Int) = (fa 21 x5.toNatClampNeg).toInt := tn_i fv1b_16
        obtain ⟨avb_16, eavb_16⟩ : ∃ z, z = voA Z o (fa 21 x5.toNatClampNeg).toNatClampNeg := ⟨_, rfl⟩
        rw [← eavb_16] at fv3b_16
        have tavb_16 : oty Z avb_16 9 := by rw [eavb_16]; exact (RC.tv hR gI to lavb_16).2
        have fVavb_16 := RC.vo hR lavb_16
        rw [← eavb_16] at fVavb_16
        obtain ⟨fy0avb_16, fy1avb_16, fy2avb_16, fy3avb_16, fy4avb_16, fySavb_16, fyLavb_16, fyhavb_16⟩ := fVavb_16
        have fBavb_16 : 0 ≤ (fa 7 ((fa 21 x5.toNatClampNeg).toNatClampNeg)).toInt ∧ (fa 7 ((fa 21 x5.toNatClampNeg).toNatClampNeg)).toInt ≤ 3000 := RC.A hR 7 _
        have fSavb_16 := onc_i fySavb_16
        have fLavb_16 := onc_i fyLavb_16
        rw [navb_16] at fy0avb_16 fSavb_16 fLavb_16
        refine lv_astore (lv' := [(8, .ref b_16), (7, .null), (6, .null), (0, .ref o), (1, .int x1), (2, .int x2), (3, .int x3), (4, .int x4), (5, .int x5)]) hx hb dX10_sign_20 hl (by decide +kernel) rfl (fun ls hl => ?_)
        refine lv_aloadN hx hb dX10_sign_22 (lv_at hl 2 rfl) ?_
        refine lv_ifnullN (tgt := 43) hx hb dX10_sign_24 (by decide +kernel) ?_
        refine lv_aload_n hx hb dX10_sign_43 rfl (lv_at hl 3 rfl) ?_
        refine lv_iconst (v := (-1)) hx hb dX10_sign_44 (by decide +kernel) ?_
        have hFc := o_free hD hS hA
        refine va_calli (va_runV (As := [.int (-1)]) (rest := []) ⟨hx, hb, hml, hown, hts⟩ (c_X10_refuse_c l dC dI H.size cq Z gI o to (-1) (by decide +kernel)) (cwV 1 hts gX10_sign_X10_refuse rfl rfl rfl (by decide +kernel) ⟨(Nat.le_of_ble_eq_true rfl), (Nat.le_of_ble_eq_true rfl)⟩) (pr_V (r := (RX10, TX10, 16)) hP hK hD q_1 10 rfl hq_1) rfl rfl hl.1 rfl (lv_room (Nat.le_of_ble_eq_true rfl)) dX10_sign_45 ⟨(Nat.le_of_ble_eq_true rfl), (Nat.le_of_ble_eq_true rfl)⟩) hS (fun q _ h => hFc q h) hFc (fun r_27 u t H locs ht hvm w_26 hB hz1 hk1 hS => ?_)
        obtain ⟨S_28, rfl⟩ : ∃ z, z = u := ⟨_, rfl⟩
        obtain ⟨hP1, hK1, hD1⟩ := hB
        rw [ht] at hP1
        have hP : va_P (dC, dI) vwCl (oW cq S_28) H := hP1
        have hD : va_D A (oW cq S_28) := hD1.weaken (fun _ _ _ h => hFc _ h)
        clear hP1 hK1 hD1 hk1 hz1 hvm ht hFc
        obtain ⟨hIS_28, XS_28, hb_29, hx_30⟩ := w_26
        have X_31 : oX [1006, 2016, 2107, 2108, 5001] Z S_28 := oX.st oX.rf XS_28 (by decide +kernel)
        have g_32 : (oI S_28 o 0).toInt = (oI Z o 0).toInt := by rw [oX.i XS_28 to (by decide +kernel)]
        have g_33 : (oI S_28 o 6).toInt = (oI Z o 6).toInt := by rw [oX.i XS_28 to (by decide +kernel)]
        have pk_34 : oP S_28 b_16 0 = some amb_16 := by rw [oX.p XS_28 tb_16 (by decide +kernel)]; exact fm3b_16
        have pk_35 : oP S_28 b_16 1 = some avb_16 := by rw [oX.p XS_28 tb_16 (by decide +kernel)]; exact fv3b_16
        have rf_36 : r_27.toInt = -1 := by rw [hx_30.1]; decide
        refine W.widen (k := 4) (n := 64) (Nat.le_of_ble_eq_true rfl) (Nat.le_of_ble_eq_true rfl) ?_
        exact W.iret (v := r_27) hx hb hr (fun t ht hW => ⟨⟨r_27, S_28, rfl, ⟨hIS_28, X_31, ⟨by have kc0 : (0 : Int32).toInt = 0 := (by decide +kernel); have kc1 : (1 : Int32).toInt = 1 := (by decide +kernel); have kc2 : (2 : Int32).toInt = 2 := (by decide +kernel); exact Or.inl ⟨by unfold sgK; omega, by omega⟩, Or.inl ⟨by omega, Z, gI, oX.rf, by rw [hx_30.1]; exact hx_30.2⟩⟩⟩, ⟨by rw [ht]; exact hP, va_K.moved hW.alike hK, hD⟩⟩, hS.F ht⟩) hS.2.2 dX10_sign_48
    · refine W.eq (g2 := F0 m 12 ls [.ref b_11]) rfl ?_
      have tb_11 : oty Z b_11 9 := hk_9 b_11 rfl
      obtain ⟨hjb_11, ejb_11⟩ := atF_s hx_10
      have ljb_11 := ni_lt hjb_11.1 hjb_11.2
      have njb_11 := tn_i hjb_11.1
      have fVb_11 := RC.vo hR ljb_11
      rw [← ejb_11] at fVb_11
      obtain ⟨fy0b_11, fy1b_11, fy2b_11, fy3b_11, fy4b_11, fySb_11, fyLb_11, fyhb_11⟩ := fVb_11
      have fBb_11 : 0 ≤ (fa 7 x2.toNatClampNeg).toInt ∧ (fa 7 x2.toNatClampNeg).toInt ≤ 3000 := RC.A hR 7 _
      have fSb_11 := onc_i fySb_11
      have fLb_11 := onc_i fyLb_11
      rw [njb_11] at fy0b_11 fSb_11 fLb_11
      refine lv_astore (lv' := [(7, .ref b_11), (6, .null), (0, .ref o), (1, .int x1), (2, .int x2), (3, .int x3), (4, .int x4), (5, .int x5)]) hx hb dX10_sign_12 hl (by decide +kernel) rfl (fun ls hl => ?_)
      refine lv_aload_n hx hb dX10_sign_14 rfl (lv_at hl 2 rfl) ?_
      refine lv_iload hx hb dX10_sign_15 (lv_at hl 7 rfl) ?_
      have hFc : ∀ q, va_A [] H.size q → A q := pu_free hS hA
      refine va_callq (va_runV (As := [.int x5]) (rest := []) ⟨hx, hb, hml, hown, hts⟩ (c_X10_agreementAt_c l dC dI H.size cq Z gI o to x5 v fa hR) (cwV 1 hts gX10_sign_X10_agreementAt rfl rfl rfl (by decide +kernel) ⟨(Nat.le_of_ble_eq_true rfl), (Nat.le_of_ble_eq_true rfl)⟩) (pr_V (r := (RX10, TX10, 16)) hP hK hD q_1 10 rfl hq_1) rfl rfl hl.1 rfl (lv_room (Nat.le_of_ble_eq_true rfl)) dX10_sign_17 ⟨(Nat.le_of_ble_eq_true rfl), (Nat.le_of_ble_eq_true rfl)⟩) hS (fun q _ h => hFc q h) hFc (fun r_38 u t H locs ht hvm w_37 hB hz1 hk1 hS => ?_)
      have hP := pu_keep hP hk1
      clear hk1 hz1 hvm hB ht hFc
      obtain ⟨hk_39, hx_40⟩ := w_37
      rcases r_38 with _ | b_41
      · refine W.eq (g2 := F0 m 20 ls [.null]) rfl ?_
        have hnr_38 := atF_n hx_40
        refine lv_astoreN (lv' := [(8, .null), (7, .ref b_11), (6, .null), (0, .ref o), (1, .int x1), (2, .int x2), (3, .int x3), (4, .int x4), (5, .int x5)]) hx hb dX10_sign_20 hl (by decide +kernel) rfl (fun ls hl => ?_)
        refine lv_aloadN hx hb dX10_sign_22 (lv_at hl 2 rfl) ?_
        refine lv_ifnullN (tgt := 43) hx hb dX10_sign_24 (by decide +kernel) ?_
        refine lv_aload_n hx hb dX10_sign_43 rfl (lv_at hl 3 rfl) ?_
        refine lv_iconst (v := (-1)) hx hb dX10_sign_44 (by decide +kernel) ?_
        have hFc := o_free hD hS hA
        refine va_calli (va_runV (As := [.int (-1)]) (rest := []) ⟨hx, hb, hml, hown, hts⟩ (c_X10_refuse_c l dC dI H.size cq Z gI o to (-1) (by decide +kernel)) (cwV 1 hts gX10_sign_X10_refuse rfl rfl rfl (by decide +kernel) ⟨(Nat.le_of_ble_eq_true rfl), (Nat.le_of_ble_eq_true rfl)⟩) (pr_V (r := (RX10, TX10, 16)) hP hK hD q_1 10 rfl hq_1) rfl rfl hl.1 rfl (lv_room (Nat.le_of_ble_eq_true rfl)) dX10_sign_45 ⟨(Nat.le_of_ble_eq_true rfl), (Nat.le_of_ble_eq_true rfl)⟩) hS (fun q _ h => hFc q h) hFc (fun r_43 u t H locs ht hvm w_42 hB hz1 hk1 hS => ?_)
        obtain ⟨S_44, rfl⟩ : ∃ z, z = u := ⟨_, rfl⟩
        obtain ⟨hP1, hK1, hD1⟩ := hB
        rw [ht] at hP1
        have hP : va_P (dC, dI) vwCl (oW cq S_44) H := hP1
        have hD : va_D A (oW cq S_44) := hD1.weaken (fun _ _ _ h => hFc _ h)
        clear hP1 hK1 hD1 hk1 hz1 hvm ht hFc
        obtain ⟨hIS_44, XS_44, hb_45, hx_46⟩ := w_42
        have X_47 : oX [1006, 2016, 2107, 2108, 5001] Z S_44 := oX.st oX.rf XS_44 (by decide +kernel)
        have g_48 : (oI S_44 o 0).toInt = (oI Z o 0).toInt := by rw [oX.i XS_44 to (by decide +kernel)]
        have g_49 : (oI S_44 o 6).toInt = (oI Z o 6).toInt := by rw [oX.i XS_44 to (by decide +kernel)]
        have rf_50 : r_43.toInt = -1 := by rw [hx_46.1]; decide
        refine W.widen (k := 4) (n := 64) (Nat.le_of_ble_eq_true rfl) (Nat.le_of_ble_eq_true rfl) ?_
        exact W.iret (v := r_43) hx hb hr (fun t ht hW => ⟨⟨r_43, S_44, rfl, ⟨hIS_44, X_47, ⟨by have kc0 : (0 : Int32).toInt = 0 := (by decide +kernel); have kc1 : (1 : Int32).toInt = 1 := (by decide +kernel); have kc2 : (2 : Int32).toInt = 2 := (by decide +kernel); exact Or.inl ⟨by unfold sgK; omega, by omega⟩, Or.inl ⟨by omega, Z, gI, oX.rf, by rw [hx_46.1]; exact hx_46.2⟩⟩⟩, ⟨by rw [ht]; exact hP, va_K.moved hW.alike hK, hD⟩⟩, hS.F ht⟩) hS.2.2 dX10_sign_48
      · refine W.eq (g2 := F0 m 20 ls [.ref b_41]) rfl ?_
        have tb_41 : oty Z b_41 1 := hk_39 b_41 rfl
        obtain ⟨hjb_41, ejb_41⟩ := atF_s hx_40
        have ljb_41 := ni_lt hjb_41.1 hjb_41.2
        have njb_41 := tn_i hjb_41.1
        have fAb_41 := RC.a hR ljb_41
        rw [← ejb_41] at fAb_41
        obtain ⟨⟨fm1b_41, fm2b_41, fm3b_41⟩, ⟨fv1b_41, fv2b_41, fv3b_41⟩, fsib_41, fppb_41, fwgb_41, frkb_41, fofb_41, fdeb_41, fchb_41⟩ := fAb_41
        have fBb_41 : 0 ≤ (fa 25 x5.toNatClampNeg).toInt ∧ (fa 25 x5.toNatClampNeg).toInt ≤ 3000 := RC.A hR 25 _
        have lamb_41 : (fa 20 x5.toNatClampNeg).toNatClampNeg < (v 39).toNatClampNeg := ni_lt fm1b_41 fm2b_41
        have namb_41 : (((fa 20 x5.toNatClampNeg).toNatClampNeg : Nat) : Int) = (fa 20 x5.toNatClampNeg).toInt := tn_i fm1b_41
        obtain ⟨amb_41, eamb_41⟩ : ∃ z, z = mnA Z o (fa 20 x5.toNatClampNeg).toNatClampNeg := ⟨_, rfl⟩
        rw [← eamb_41] at fm3b_41
        have tamb_41 : oty Z amb_41 6 := by rw [eamb_41]; exact (RC.tm hR gI to lamb_41).2
        have fMamb_41 := RC.m hR lamb_41
        rw [← eamb_41] at fMamb_41
        obtain ⟨fz0amb_41, fz1amb_41, fz2amb_41, fz3amb_41⟩ := fMamb_41
        rw [namb_41] at fz0amb_41
        have lavb_41 : (fa 21 x5.toNatClampNeg).toNatClampNeg < (v 40).toNatClampNeg := ni_lt fv1b_41 fv2b_41
        have navb_41 : (((fa 21 x5.toNatClampNeg).toNatClampNeg : Nat) : Int) = (fa 21 x5.toNatClampNeg).toInt := tn_i fv1b_41
        obtain ⟨avb_41, eavb_41⟩ : ∃ z, z = voA Z o (fa 21 x5.toNatClampNeg).toNatClampNeg := ⟨_, rfl⟩
        rw [← eavb_41] at fv3b_41
        have tavb_41 : oty Z avb_41 9 := by rw [eavb_41]; exact (RC.tv hR gI to lavb_41).2
        have fVavb_41 := RC.vo hR lavb_41
        rw [← eavb_41] at fVavb_41
        obtain ⟨fy0avb_41, fy1avb_41, fy2avb_41, fy3avb_41, fy4avb_41, fySavb_41, fyLavb_41, fyhavb_41⟩ := fVavb_41
        have fBavb_41 : 0 ≤ (fa 7 ((fa 21 x5.toNatClampNeg).toNatClampNeg)).toInt ∧ (fa 7 ((fa 21 x5.toNatClampNeg).toNatClampNeg)).toInt ≤ 3000 := RC.A hR 7 _
        have fSavb_41 := onc_i fySavb_41
        have fLavb_41 := onc_i fyLavb_41
        rw [navb_41] at fy0avb_41 fSavb_41 fLavb_41
        refine lv_astore (lv' := [(8, .ref b_41), (7, .ref b_11), (6, .null), (0, .ref o), (1, .int x1), (2, .int x2), (3, .int x3), (4, .int x4), (5, .int x5)]) hx hb dX10_sign_20 hl (by decide +kernel) rfl (fun ls hl => ?_)
        refine lv_aloadN hx hb dX10_sign_22 (lv_at hl 2 rfl) ?_
        refine lv_ifnullN (tgt := 43) hx hb dX10_sign_24 (by decide +kernel) ?_
        refine lv_aload_n hx hb dX10_sign_43 rfl (lv_at hl 3 rfl) ?_
        refine lv_iconst (v := (-1)) hx hb dX10_sign_44 (by decide +kernel) ?_
        have hFc := o_free hD hS hA
        refine va_calli (va_runV (As := [.int (-1)]) (rest := []) ⟨hx, hb, hml, hown, hts⟩ (c_X10_refuse_c l dC dI H.size cq Z gI o to (-1) (by decide +kernel)) (cwV 1 hts gX10_sign_X10_refuse rfl rfl rfl (by decide +kernel) ⟨(Nat.le_of_ble_eq_true rfl), (Nat.le_of_ble_eq_true rfl)⟩) (pr_V (r := (RX10, TX10, 16)) hP hK hD q_1 10 rfl hq_1) rfl rfl hl.1 rfl (lv_room (Nat.le_of_ble_eq_true rfl)) dX10_sign_45 ⟨(Nat.le_of_ble_eq_true rfl), (Nat.le_of_ble_eq_true rfl)⟩) hS (fun q _ h => hFc q h) hFc (fun r_52 u t H locs ht hvm w_51 hB hz1 hk1 hS => ?_)
        obtain ⟨S_53, rfl⟩ : ∃ z, z = u := ⟨_, rfl⟩
        obtain ⟨hP1, hK1, hD1⟩ := hB
        rw [ht] at hP1
        have hP : va_P (dC, dI) vwCl (oW cq S_53) H := hP1
        have hD : va_D A (oW cq S_53) := hD1.weaken (fun _ _ _ h => hFc _ h)
        clear hP1 hK1 hD1 hk1 hz1 hvm ht hFc
        obtain ⟨hIS_53, XS_53, hb_54, hx_55⟩ := w_51
        have X_56 : oX [1006, 2016, 2107, 2108, 5001] Z S_53 := oX.st oX.rf XS_53 (by decide +kernel)
        have g_57 : (oI S_53 o 0).toInt = (oI Z o 0).toInt := by rw [oX.i XS_53 to (by decide +kernel)]
        have g_58 : (oI S_53 o 6).toInt = (oI Z o 6).toInt := by rw [oX.i XS_53 to (by decide +kernel)]
        have pk_59 : oP S_53 b_41 0 = some amb_41 := by rw [oX.p XS_53 tb_41 (by decide +kernel)]; exact fm3b_41
        have pk_60 : oP S_53 b_41 1 = some avb_41 := by rw [oX.p XS_53 tb_41 (by decide +kernel)]; exact fv3b_41
        have rf_61 : r_52.toInt = -1 := by rw [hx_55.1]; decide
        refine W.widen (k := 4) (n := 64) (Nat.le_of_ble_eq_true rfl) (Nat.le_of_ble_eq_true rfl) ?_
        exact W.iret (v := r_52) hx hb hr (fun t ht hW => ⟨⟨r_52, S_53, rfl, ⟨hIS_53, X_56, ⟨by have kc0 : (0 : Int32).toInt = 0 := (by decide +kernel); have kc1 : (1 : Int32).toInt = 1 := (by decide +kernel); have kc2 : (2 : Int32).toInt = 2 := (by decide +kernel); exact Or.inl ⟨by unfold sgK; omega, by omega⟩, Or.inl ⟨by omega, Z, gI, oX.rf, by rw [hx_55.1]; exact hx_55.2⟩⟩⟩, ⟨by rw [ht]; exact hP, va_K.moved hW.alike hK, hD⟩⟩, hS.F ht⟩) hS.2.2 dX10_sign_48
  · refine W.eq (g2 := F0 m 5 ls [.ref b_6]) rfl ?_
    have tb_6 : oty Z b_6 6 := hk_4 b_6 rfl
    obtain ⟨hjb_6, ejb_6⟩ := atF_s hx_5
    have ljb_6 := ni_lt hjb_6.1 hjb_6.2
    have njb_6 := tn_i hjb_6.1
    have fMb_6 := RC.m hR ljb_6
    rw [← ejb_6] at fMb_6
    obtain ⟨fz0b_6, fz1b_6, fz2b_6, fz3b_6⟩ := fMb_6
    rw [njb_6] at fz0b_6
    refine lv_astore (lv' := [(6, .ref b_6), (0, .ref o), (1, .int x1), (2, .int x2), (3, .int x3), (4, .int x4), (5, .int x5)]) hx hb dX10_sign_5 hl (by decide +kernel) rfl (fun ls hl => ?_)
    refine lv_aload_n hx hb dX10_sign_7 rfl (lv_at hl 1 rfl) ?_
    refine lv_iload_n hx hb dX10_sign_8 rfl (lv_at hl 3 rfl) ?_
    have hFc : ∀ q, va_A [] H.size q → A q := pu_free hS hA
    refine va_callq (va_runV (As := [.int x2]) (rest := []) ⟨hx, hb, hml, hown, hts⟩ (c_X10_voyageAt_c l dC dI H.size cq Z gI o to x2 v fa hR) (cwV 1 hts gX10_sign_X10_voyageAt rfl rfl rfl (by decide +kernel) ⟨(Nat.le_of_ble_eq_true rfl), (Nat.le_of_ble_eq_true rfl)⟩) (pr_V (r := (RX10, TX10, 16)) hP hK hD q_1 10 rfl hq_1) rfl rfl hl.1 rfl (lv_room (Nat.le_of_ble_eq_true rfl)) dX10_sign_9 ⟨(Nat.le_of_ble_eq_true rfl), (Nat.le_of_ble_eq_true rfl)⟩) hS (fun q _ h => hFc q h) hFc (fun r_63 u t H locs ht hvm w_62 hB hz1 hk1 hS => ?_)
    have hP := pu_keep hP hk1
    clear hk1 hz1 hvm hB ht hFc
    obtain ⟨hk_64, hx_65⟩ := w_62
    rcases r_63 with _ | b_66
    · refine W.eq (g2 := F0 m 12 ls [.null]) rfl ?_
      have hnr_63 := atF_n hx_65
      refine lv_astoreN (lv' := [(7, .null), (6, .ref b_6), (0, .ref o), (1, .int x1), (2, .int x2), (3, .int x3), (4, .int x4), (5, .int x5)]) hx hb dX10_sign_12 hl (by decide +kernel) rfl (fun ls hl => ?_)
      refine lv_aload_n hx hb dX10_sign_14 rfl (lv_at hl 2 rfl) ?_
      refine lv_iload hx hb dX10_sign_15 (lv_at hl 7 rfl) ?_
      have hFc : ∀ q, va_A [] H.size q → A q := pu_free hS hA
      refine va_callq (va_runV (As := [.int x5]) (rest := []) ⟨hx, hb, hml, hown, hts⟩ (c_X10_agreementAt_c l dC dI H.size cq Z gI o to x5 v fa hR) (cwV 1 hts gX10_sign_X10_agreementAt rfl rfl rfl (by decide +kernel) ⟨(Nat.le_of_ble_eq_true rfl), (Nat.le_of_ble_eq_true rfl)⟩) (pr_V (r := (RX10, TX10, 16)) hP hK hD q_1 10 rfl hq_1) rfl rfl hl.1 rfl (lv_room (Nat.le_of_ble_eq_true rfl)) dX10_sign_17 ⟨(Nat.le_of_ble_eq_true rfl), (Nat.le_of_ble_eq_true rfl)⟩) hS (fun q _ h => hFc q h) hFc (fun r_68 u t H locs ht hvm w_67 hB hz1 hk1 hS => ?_)
      have hP := pu_keep hP hk1
      clear hk1 hz1 hvm hB ht hFc
      obtain ⟨hk_69, hx_70⟩ := w_67
      rcases r_68 with _ | b_71
      · refine W.eq (g2 := F0 m 20 ls [.null]) rfl ?_
        have hnr_68 := atF_n hx_70
        refine lv_astoreN (lv' := [(8, .null), (7, .null), (6, .ref b_6), (0, .ref o), (1, .int x1), (2, .int x2), (3, .int x3), (4, .int x4), (5, .int x5)]) hx hb dX10_sign_20 hl (by decide +kernel) rfl (fun ls hl => ?_)
        refine lv_aload hx hb dX10_sign_22 (lv_at hl 2 rfl) ?_
        refine lv_ifnull hx hb dX10_sign_24 ?_
        refine lv_aloadN hx hb dX10_sign_27 (lv_at hl 1 rfl) ?_
        refine lv_ifnullN (tgt := 43) hx hb dX10_sign_29 (by decide +kernel) ?_
        refine lv_aload_n hx hb dX10_sign_43 rfl (lv_at hl 3 rfl) ?_
        refine lv_iconst (v := (-1)) hx hb dX10_sign_44 (by decide +kernel) ?_
        have hFc := o_free hD hS hA
        refine va_calli (va_runV (As := [.int (-1)]) (rest := []) ⟨hx, hb, hml, hown, hts⟩ (c_X10_refuse_c l dC dI H.size cq Z gI o to (-1) (by decide +kernel)) (cwV 1 hts gX10_sign_X10_refuse rfl rfl rfl (by decide +kernel) ⟨(Nat.le_of_ble_eq_true rfl), (Nat.le_of_ble_eq_true rfl)⟩) (pr_V (r := (RX10, TX10, 16)) hP hK hD q_1 10 rfl hq_1) rfl rfl hl.1 rfl (lv_room (Nat.le_of_ble_eq_true rfl)) dX10_sign_45 ⟨(Nat.le_of_ble_eq_true rfl), (Nat.le_of_ble_eq_true rfl)⟩) hS (fun q _ h => hFc q h) hFc (fun r_73 u t H locs ht hvm w_72 hB hz1 hk1 hS => ?_)
        obtain ⟨S_74, rfl⟩ : ∃ z, z = u := ⟨_, rfl⟩
        obtain ⟨hP1, hK1, hD1⟩ := hB
        rw [ht] at hP1
        have hP : va_P (dC, dI) vwCl (oW cq S_74) H := hP1
        have hD : va_D A (oW cq S_74) := hD1.weaken (fun _ _ _ h => hFc _ h)
        clear hP1 hK1 hD1 hk1 hz1 hvm ht hFc
        obtain ⟨hIS_74, XS_74, hb_75, hx_76⟩ := w_72
        have X_77 : oX [1006, 2016, 2107, 2108, 5001] Z S_74 := oX.st oX.rf XS_74 (by decide +kernel)
        have g_78 : (oI S_74 o 0).toInt = (oI Z o 0).toInt := by rw [oX.i XS_74 to (by decide +kernel)]
        have g_79 : (oI S_74 o 6).toInt = (oI Z o 6).toInt := by rw [oX.i XS_74 to (by decide +kernel)]
        have rf_80 : r_73.toInt = -1 := by rw [hx_76.1]; decide
        refine W.widen (k := 4) (n := 64) (Nat.le_of_ble_eq_true rfl) (Nat.le_of_ble_eq_true rfl) ?_
        exact W.iret (v := r_73) hx hb hr (fun t ht hW => ⟨⟨r_73, S_74, rfl, ⟨hIS_74, X_77, ⟨by have kc0 : (0 : Int32).toInt = 0 := (by decide +kernel); have kc1 : (1 : Int32).toInt = 1 := (by decide +kernel); have kc2 : (2 : Int32).toInt = 2 := (by decide +kernel); exact Or.inl ⟨by unfold sgK; omega, by omega⟩, Or.inl ⟨by omega, Z, gI, oX.rf, by rw [hx_76.1]; exact hx_76.2⟩⟩⟩, ⟨by rw [ht]; exact hP, va_K.moved hW.alike hK, hD⟩⟩, hS.F ht⟩) hS.2.2 dX10_sign_48
      · refine W.eq (g2 := F0 m 20 ls [.ref b_71]) rfl ?_
        have tb_71 : oty Z b_71 1 := hk_69 b_71 rfl
        obtain ⟨hjb_71, ejb_71⟩ := atF_s hx_70
        have ljb_71 := ni_lt hjb_71.1 hjb_71.2
        have njb_71 := tn_i hjb_71.1
        have fAb_71 := RC.a hR ljb_71
        rw [← ejb_71] at fAb_71
        obtain ⟨⟨fm1b_71, fm2b_71, fm3b_71⟩, ⟨fv1b_71, fv2b_71, fv3b_71⟩, fsib_71, fppb_71, fwgb_71, frkb_71, fofb_71, fdeb_71, fchb_71⟩ := fAb_71
        have fBb_71 : 0 ≤ (fa 25 x5.toNatClampNeg).toInt ∧ (fa 25 x5.toNatClampNeg).toInt ≤ 3000 := RC.A hR 25 _
        have lamb_71 : (fa 20 x5.toNatClampNeg).toNatClampNeg < (v 39).toNatClampNeg := ni_lt fm1b_71 fm2b_71
        have namb_71 : (((fa 20 x5.toNatClampNeg).toNatClampNeg : Nat) : Int) = (fa 20 x5.toNatClampNeg).toInt := tn_i fm1b_71
        obtain ⟨amb_71, eamb_71⟩ : ∃ z, z = mnA Z o (fa 20 x5.toNatClampNeg).toNatClampNeg := ⟨_, rfl⟩
        rw [← eamb_71] at fm3b_71
        have tamb_71 : oty Z amb_71 6 := by rw [eamb_71]; exact (RC.tm hR gI to lamb_71).2
        have fMamb_71 := RC.m hR lamb_71
        rw [← eamb_71] at fMamb_71
        obtain ⟨fz0amb_71, fz1amb_71, fz2amb_71, fz3amb_71⟩ := fMamb_71
        rw [namb_71] at fz0amb_71
        have lavb_71 : (fa 21 x5.toNatClampNeg).toNatClampNeg < (v 40).toNatClampNeg := ni_lt fv1b_71 fv2b_71
        have navb_71 : (((fa 21 x5.toNatClampNeg).toNatClampNeg : Nat) : Int) = (fa 21 x5.toNatClampNeg).toInt := tn_i fv1b_71
        obtain ⟨avb_71, eavb_71⟩ : ∃ z, z = voA Z o (fa 21 x5.toNatClampNeg).toNatClampNeg := ⟨_, rfl⟩
        rw [← eavb_71] at fv3b_71
        have tavb_71 : oty Z avb_71 9 := by rw [eavb_71]; exact (RC.tv hR gI to lavb_71).2
        have fVavb_71 := RC.vo hR lavb_71
        rw [← eavb_71] at fVavb_71
        obtain ⟨fy0avb_71, fy1avb_71, fy2avb_71, fy3avb_71, fy4avb_71, fySavb_71, fyLavb_71, fyhavb_71⟩ := fVavb_71
        have fBavb_71 : 0 ≤ (fa 7 ((fa 21 x5.toNatClampNeg).toNatClampNeg)).toInt ∧ (fa 7 ((fa 21 x5.toNatClampNeg).toNatClampNeg)).toInt ≤ 3000 := RC.A hR 7 _
        have fSavb_71 := onc_i fySavb_71
        have fLavb_71 := onc_i fyLavb_71
        rw [navb_71] at fy0avb_71 fSavb_71 fLavb_71
        refine lv_astore (lv' := [(8, .ref b_71), (7, .null), (6, .ref b_6), (0, .ref o), (1, .int x1), (2, .int x2), (3, .int x3), (4, .int x4), (5, .int x5)]) hx hb dX10_sign_20 hl (by decide +kernel) rfl (fun ls hl => ?_)
        refine lv_aload hx hb dX10_sign_22 (lv_at hl 2 rfl) ?_
        refine lv_ifnull hx hb dX10_sign_24 ?_
        refine lv_aloadN hx hb dX10_sign_27 (lv_at hl 1 rfl) ?_
        refine lv_ifnullN (tgt := 43) hx hb dX10_sign_29 (by decide +kernel) ?_
        refine lv_aload_n hx hb dX10_sign_43 rfl (lv_at hl 3 rfl) ?_
        refine lv_iconst (v := (-1)) hx hb dX10_sign_44 (by decide +kernel) ?_
        have hFc := o_free hD hS hA
        refine va_calli (va_runV (As := [.int (-1)]) (rest := []) ⟨hx, hb, hml, hown, hts⟩ (c_X10_refuse_c l dC dI H.size cq Z gI o to (-1) (by decide +kernel)) (cwV 1 hts gX10_sign_X10_refuse rfl rfl rfl (by decide +kernel) ⟨(Nat.le_of_ble_eq_true rfl), (Nat.le_of_ble_eq_true rfl)⟩) (pr_V (r := (RX10, TX10, 16)) hP hK hD q_1 10 rfl hq_1) rfl rfl hl.1 rfl (lv_room (Nat.le_of_ble_eq_true rfl)) dX10_sign_45 ⟨(Nat.le_of_ble_eq_true rfl), (Nat.le_of_ble_eq_true rfl)⟩) hS (fun q _ h => hFc q h) hFc (fun r_82 u t H locs ht hvm w_81 hB hz1 hk1 hS => ?_)
        obtain ⟨S_83, rfl⟩ : ∃ z, z = u := ⟨_, rfl⟩
        obtain ⟨hP1, hK1, hD1⟩ := hB
        rw [ht] at hP1
        have hP : va_P (dC, dI) vwCl (oW cq S_83) H := hP1
        have hD : va_D A (oW cq S_83) := hD1.weaken (fun _ _ _ h => hFc _ h)
        clear hP1 hK1 hD1 hk1 hz1 hvm ht hFc
        obtain ⟨hIS_83, XS_83, hb_84, hx_85⟩ := w_81
        have X_86 : oX [1006, 2016, 2107, 2108, 5001] Z S_83 := oX.st oX.rf XS_83 (by decide +kernel)
        have g_87 : (oI S_83 o 0).toInt = (oI Z o 0).toInt := by rw [oX.i XS_83 to (by decide +kernel)]
        have g_88 : (oI S_83 o 6).toInt = (oI Z o 6).toInt := by rw [oX.i XS_83 to (by decide +kernel)]
        have pk_89 : oP S_83 b_71 0 = some amb_71 := by rw [oX.p XS_83 tb_71 (by decide +kernel)]; exact fm3b_71
        have pk_90 : oP S_83 b_71 1 = some avb_71 := by rw [oX.p XS_83 tb_71 (by decide +kernel)]; exact fv3b_71
        have rf_91 : r_82.toInt = -1 := by rw [hx_85.1]; decide
        refine W.widen (k := 4) (n := 64) (Nat.le_of_ble_eq_true rfl) (Nat.le_of_ble_eq_true rfl) ?_
        exact W.iret (v := r_82) hx hb hr (fun t ht hW => ⟨⟨r_82, S_83, rfl, ⟨hIS_83, X_86, ⟨by have kc0 : (0 : Int32).toInt = 0 := (by decide +kernel); have kc1 : (1 : Int32).toInt = 1 := (by decide +kernel); have kc2 : (2 : Int32).toInt = 2 := (by decide +kernel); exact Or.inl ⟨by unfold sgK; omega, by omega⟩, Or.inl ⟨by omega, Z, gI, oX.rf, by rw [hx_85.1]; exact hx_85.2⟩⟩⟩, ⟨by rw [ht]; exact hP, va_K.moved hW.alike hK, hD⟩⟩, hS.F ht⟩) hS.2.2 dX10_sign_48
    · refine W.eq (g2 := F0 m 12 ls [.ref b_66]) rfl ?_
      have tb_66 : oty Z b_66 9 := hk_64 b_66 rfl
      obtain ⟨hjb_66, ejb_66⟩ := atF_s hx_65
      have ljb_66 := ni_lt hjb_66.1 hjb_66.2
      have njb_66 := tn_i hjb_66.1
      have fVb_66 := RC.vo hR ljb_66
      rw [← ejb_66] at fVb_66
      obtain ⟨fy0b_66, fy1b_66, fy2b_66, fy3b_66, fy4b_66, fySb_66, fyLb_66, fyhb_66⟩ := fVb_66
      have fBb_66 : 0 ≤ (fa 7 x2.toNatClampNeg).toInt ∧ (fa 7 x2.toNatClampNeg).toInt ≤ 3000 := RC.A hR 7 _
      have fSb_66 := onc_i fySb_66
      have fLb_66 := onc_i fyLb_66
      rw [njb_66] at fy0b_66 fSb_66 fLb_66
      refine lv_astore (lv' := [(7, .ref b_66), (6, .ref b_6), (0, .ref o), (1, .int x1), (2, .int x2), (3, .int x3), (4, .int x4), (5, .int x5)]) hx hb dX10_sign_12 hl (by decide +kernel) rfl (fun ls hl => ?_)
      refine lv_aload_n hx hb dX10_sign_14 rfl (lv_at hl 2 rfl) ?_
      refine lv_iload hx hb dX10_sign_15 (lv_at hl 7 rfl) ?_
      have hFc : ∀ q, va_A [] H.size q → A q := pu_free hS hA
      refine va_callq (va_runV (As := [.int x5]) (rest := []) ⟨hx, hb, hml, hown, hts⟩ (c_X10_agreementAt_c l dC dI H.size cq Z gI o to x5 v fa hR) (cwV 1 hts gX10_sign_X10_agreementAt rfl rfl rfl (by decide +kernel) ⟨(Nat.le_of_ble_eq_true rfl), (Nat.le_of_ble_eq_true rfl)⟩) (pr_V (r := (RX10, TX10, 16)) hP hK hD q_1 10 rfl hq_1) rfl rfl hl.1 rfl (lv_room (Nat.le_of_ble_eq_true rfl)) dX10_sign_17 ⟨(Nat.le_of_ble_eq_true rfl), (Nat.le_of_ble_eq_true rfl)⟩) hS (fun q _ h => hFc q h) hFc (fun r_93 u t H locs ht hvm w_92 hB hz1 hk1 hS => ?_)
      have hP := pu_keep hP hk1
      clear hk1 hz1 hvm hB ht hFc
      obtain ⟨hk_94, hx_95⟩ := w_92
      rcases r_93 with _ | b_96
      · refine W.eq (g2 := F0 m 20 ls [.null]) rfl ?_
        have hnr_93 := atF_n hx_95
        refine lv_astoreN (lv' := [(8, .null), (7, .ref b_66), (6, .ref b_6), (0, .ref o), (1, .int x1), (2, .int x2), (3, .int x3), (4, .int x4), (5, .int x5)]) hx hb dX10_sign_20 hl (by decide +kernel) rfl (fun ls hl => ?_)
        refine lv_aload hx hb dX10_sign_22 (lv_at hl 2 rfl) ?_
        refine lv_ifnull hx hb dX10_sign_24 ?_
        refine lv_aload hx hb dX10_sign_27 (lv_at hl 1 rfl) ?_
        refine lv_ifnull hx hb dX10_sign_29 ?_
        refine lv_aloadN hx hb dX10_sign_32 (lv_at hl 0 rfl) ?_
        refine lv_ifnonnullN hx hb dX10_sign_34 ?_
        refine lv_iload hx hb dX10_sign_37 (lv_at hl 8 rfl) ?_
        refine lv_iconst (v := (-1)) hx hb dX10_sign_39 (by decide +kernel) ?_
        refine lv_icmp_eq (tgt := 49) hx hb dX10_sign_40 (by decide +kernel) (fun c_97 => ?_) (fun c_97 => ?_)
        · have dc_97 := c_eq (a := x5.toInt) (b := (-1)) rfl (by decide +kernel) c_97
          refine lv_iload_n hx hb dX10_sign_49 rfl (lv_at hl 6 rfl) ?_
          refine lv_iconst (v := 1) hx hb dX10_sign_50 (by decide +kernel) ?_
          refine lv_icmp_lt (tgt := 59) hx hb dX10_sign_51 (by decide +kernel) (fun c_98 => ?_) (fun c_98 => ?_)
          · have dc_98 := c_lt (a := x3.toInt) (b := 1) rfl (by decide +kernel) c_98
            refine lv_aload_n hx hb dX10_sign_59 rfl (lv_at hl 3 rfl) ?_
            refine lv_bipush (v := (-4)) hx hb dX10_sign_60 (by decide +kernel) ?_
            have hFc := o_free hD hS hA
            refine va_calli (va_runV (As := [.int (-4)]) (rest := []) ⟨hx, hb, hml, hown, hts⟩ (c_X10_refuse_c l dC dI H.size cq Z gI o to (-4) (by decide +kernel)) (cwV 1 hts gX10_sign_X10_refuse rfl rfl rfl (by decide +kernel) ⟨(Nat.le_of_ble_eq_true rfl), (Nat.le_of_ble_eq_true rfl)⟩) (pr_V (r := (RX10, TX10, 16)) hP hK hD q_1 10 rfl hq_1) rfl rfl hl.1 rfl (lv_room (Nat.le_of_ble_eq_true rfl)) dX10_sign_62 ⟨(Nat.le_of_ble_eq_true rfl), (Nat.le_of_ble_eq_true rfl)⟩) hS (fun q _ h => hFc q h) hFc (fun r_100 u t H locs ht hvm w_99 hB hz1 hk1 hS => ?_)
            obtain ⟨S_101, rfl⟩ : ∃ z, z = u := ⟨_, rfl⟩
            obtain ⟨hP1, hK1, hD1⟩ := hB
            rw [ht] at hP1
            have hP : va_P (dC, dI) vwCl (oW cq S_101) H := hP1
            have hD : va_D A (oW cq S_101) := hD1.weaken (fun _ _ _ h => hFc _ h)
            clear hP1 hK1 hD1 hk1 hz1 hvm ht hFc
            obtain ⟨hIS_101, XS_101, hb_102, hx_103⟩ := w_99
            have X_104 : oX [1006, 2016, 2107, 2108, 5001] Z S_101 := oX.st oX.rf XS_101 (by decide +kernel)
            have g_105 : (oI S_101 o 0).toInt = (oI Z o 0).toInt := by rw [oX.i XS_101 to (by decide +kernel)]
            have g_106 : (oI S_101 o 6).toInt = (oI Z o 6).toInt := by rw [oX.i XS_101 to (by decide +kernel)]
            have rf_107 : r_100.toInt = -4 := by rw [hx_103.1]; decide
            refine W.widen (k := 4) (n := 64) (Nat.le_of_ble_eq_true rfl) (Nat.le_of_ble_eq_true rfl) ?_
            exact W.iret (v := r_100) hx hb hr (fun t ht hW => ⟨⟨r_100, S_101, rfl, ⟨hIS_101, X_104, ⟨by have kc0 : (0 : Int32).toInt = 0 := (by decide +kernel); have kc1 : (1 : Int32).toInt = 1 := (by decide +kernel); have kc2 : (2 : Int32).toInt = 2 := (by decide +kernel); exact Or.inr (Or.inl ⟨(by first | assumption | (unfold sgK; omega)), by omega, by omega⟩), Or.inl ⟨by omega, Z, gI, oX.rf, by rw [hx_103.1]; exact hx_103.2⟩⟩⟩, ⟨by rw [ht]; exact hP, va_K.moved hW.alike hK, hD⟩⟩, hS.F ht⟩) hS.2.2 dX10_sign_65
          · have dc_98 := c_nlt (a := x3.toInt) (b := 1) rfl (by decide +kernel) c_98
            refine lv_iload hx hb dX10_sign_54 (lv_at hl 7 rfl) ?_
            refine lv_if_ge (tgt := 66) hx hb dX10_sign_56 (by decide +kernel) (fun c_108 => ?_) (fun c_108 => ?_)
            · have dc_108 := c_le (a := 0) (b := x4.toInt) (by decide +kernel) rfl c_108
              refine lv_iload_n hx hb dX10_sign_66 rfl (lv_at hl 6 rfl) ?_
              refine lv_sipush (v := 9999) hx hb dX10_sign_67 (by decide +kernel) ?_
              refine lv_icmp_gt (tgt := 88) hx hb dX10_sign_70 (by decide +kernel) (fun c_109 => ?_) (fun c_109 => ?_)
              · have dc_109 := c_lt (a := 9999) (b := x3.toInt) (by decide +kernel) rfl c_109
                refine lv_aload_n hx hb dX10_sign_88 rfl (lv_at hl 3 rfl) ?_
                refine lv_bipush (v := (-6)) hx hb dX10_sign_89 (by decide +kernel) ?_
                have hFc := o_free hD hS hA
                refine va_calli (va_runV (As := [.int (-6)]) (rest := []) ⟨hx, hb, hml, hown, hts⟩ (c_X10_refuse_c l dC dI H.size cq Z gI o to (-6) (by decide +kernel)) (cwV 1 hts gX10_sign_X10_refuse rfl rfl rfl (by decide +kernel) ⟨(Nat.le_of_ble_eq_true rfl), (Nat.le_of_ble_eq_true rfl)⟩) (pr_V (r := (RX10, TX10, 16)) hP hK hD q_1 10 rfl hq_1) rfl rfl hl.1 rfl (lv_room (Nat.le_of_ble_eq_true rfl)) dX10_sign_91 ⟨(Nat.le_of_ble_eq_true rfl), (Nat.le_of_ble_eq_true rfl)⟩) hS (fun q _ h => hFc q h) hFc (fun r_111 u t H locs ht hvm w_110 hB hz1 hk1 hS => ?_)
                obtain ⟨S_112, rfl⟩ : ∃ z, z = u := ⟨_, rfl⟩
                obtain ⟨hP1, hK1, hD1⟩ := hB
                rw [ht] at hP1
                have hP : va_P (dC, dI) vwCl (oW cq S_112) H := hP1
                have hD : va_D A (oW cq S_112) := hD1.weaken (fun _ _ _ h => hFc _ h)
                clear hP1 hK1 hD1 hk1 hz1 hvm ht hFc
                obtain ⟨hIS_112, XS_112, hb_113, hx_114⟩ := w_110
                have X_115 : oX [1006, 2016, 2107, 2108, 5001] Z S_112 := oX.st oX.rf XS_112 (by decide +kernel)
                have g_116 : (oI S_112 o 0).toInt = (oI Z o 0).toInt := by rw [oX.i XS_112 to (by decide +kernel)]
                have g_117 : (oI S_112 o 6).toInt = (oI Z o 6).toInt := by rw [oX.i XS_112 to (by decide +kernel)]
                have rf_118 : r_111.toInt = -6 := by rw [hx_114.1]; decide
                refine W.widen (k := 4) (n := 64) (Nat.le_of_ble_eq_true rfl) (Nat.le_of_ble_eq_true rfl) ?_
                exact W.iret (v := r_111) hx hb hr (fun t ht hW => ⟨⟨r_111, S_112, rfl, ⟨hIS_112, X_115, ⟨by have kc0 : (0 : Int32).toInt = 0 := (by decide +kernel); have kc1 : (1 : Int32).toInt = 1 := (by decide +kernel); have kc2 : (2 : Int32).toInt = 2 := (by decide +kernel); exact Or.inr (Or.inr (Or.inl ⟨(by first | assumption | (unfold sgK; omega)), by omega, by omega, by omega⟩)), Or.inl ⟨by omega, Z, gI, oX.rf, by rw [hx_114.1]; exact hx_114.2⟩⟩⟩, ⟨by rw [ht]; exact hP, va_K.moved hW.alike hK, hD⟩⟩, hS.F ht⟩) hS.2.2 dX10_sign_94
              · have dc_109 := c_nlt (a := 9999) (b := x3.toInt) (by decide +kernel) rfl c_109
                refine lv_iload hx hb dX10_sign_73 (lv_at hl 7 rfl) ?_
                refine lv_iconst (v := 4) hx hb dX10_sign_75 (by decide +kernel) ?_
                refine lv_icmp_ge (tgt := 88) hx hb dX10_sign_76 (by decide +kernel) (fun c_119 => ?_) (fun c_119 => ?_)
                · have dc_119 := c_le (a := 4) (b := x4.toInt) (by decide +kernel) rfl c_119
                  refine lv_aload_n hx hb dX10_sign_88 rfl (lv_at hl 3 rfl) ?_
                  refine lv_bipush (v := (-6)) hx hb dX10_sign_89 (by decide +kernel) ?_
                  have hFc := o_free hD hS hA
                  refine va_calli (va_runV (As := [.int (-6)]) (rest := []) ⟨hx, hb, hml, hown, hts⟩ (c_X10_refuse_c l dC dI H.size cq Z gI o to (-6) (by decide +kernel)) (cwV 1 hts gX10_sign_X10_refuse rfl rfl rfl (by decide +kernel) ⟨(Nat.le_of_ble_eq_true rfl), (Nat.le_of_ble_eq_true rfl)⟩) (pr_V (r := (RX10, TX10, 16)) hP hK hD q_1 10 rfl hq_1) rfl rfl hl.1 rfl (lv_room (Nat.le_of_ble_eq_true rfl)) dX10_sign_91 ⟨(Nat.le_of_ble_eq_true rfl), (Nat.le_of_ble_eq_true rfl)⟩) hS (fun q _ h => hFc q h) hFc (fun r_121 u t H locs ht hvm w_120 hB hz1 hk1 hS => ?_)
                  obtain ⟨S_122, rfl⟩ : ∃ z, z = u := ⟨_, rfl⟩
                  obtain ⟨hP1, hK1, hD1⟩ := hB
                  rw [ht] at hP1
                  have hP : va_P (dC, dI) vwCl (oW cq S_122) H := hP1
                  have hD : va_D A (oW cq S_122) := hD1.weaken (fun _ _ _ h => hFc _ h)
                  clear hP1 hK1 hD1 hk1 hz1 hvm ht hFc
                  obtain ⟨hIS_122, XS_122, hb_123, hx_124⟩ := w_120
                  have X_125 : oX [1006, 2016, 2107, 2108, 5001] Z S_122 := oX.st oX.rf XS_122 (by decide +kernel)
                  have g_126 : (oI S_122 o 0).toInt = (oI Z o 0).toInt := by rw [oX.i XS_122 to (by decide +kernel)]
                  have g_127 : (oI S_122 o 6).toInt = (oI Z o 6).toInt := by rw [oX.i XS_122 to (by decide +kernel)]
                  have rf_128 : r_121.toInt = -6 := by rw [hx_124.1]; decide
                  refine W.widen (k := 4) (n := 64) (Nat.le_of_ble_eq_true rfl) (Nat.le_of_ble_eq_true rfl) ?_
                  exact W.iret (v := r_121) hx hb hr (fun t ht hW => ⟨⟨r_121, S_122, rfl, ⟨hIS_122, X_125, ⟨by have kc0 : (0 : Int32).toInt = 0 := (by decide +kernel); have kc1 : (1 : Int32).toInt = 1 := (by decide +kernel); have kc2 : (2 : Int32).toInt = 2 := (by decide +kernel); exact Or.inr (Or.inr (Or.inl ⟨(by first | assumption | (unfold sgK; omega)), by omega, by omega, by omega⟩)), Or.inl ⟨by omega, Z, gI, oX.rf, by rw [hx_124.1]; exact hx_124.2⟩⟩⟩, ⟨by rw [ht]; exact hP, va_K.moved hW.alike hK, hD⟩⟩, hS.F ht⟩) hS.2.2 dX10_sign_94
                · have dc_119 := c_nle (a := 4) (b := x4.toInt) (by decide +kernel) rfl c_119
                  refine lv_aload_n hx hb dX10_sign_79 rfl (lv_at hl 3 rfl) ?_
                  refine va_get (D := (dC, dI)) (ci := 10) (v := .int (oI Z o 6)) (C := RX10) (T := TX10) (N := 16) hx hb hts in_wsX10_sign_X10 hown hK hP q_1 hq_1 rfl 6 (by decide +kernel) (hts (.fieldLink RX10 115 "ShipOffice" "agreementCount" "I") iw_X10_sign_1) (fun _ h9 => h9) rfl dX10_sign_80 ?_
                  refine lv_topi (fun x_129 ex_129 => ?_)
                  have hx_129 : 0 ≤ x_129.toInt ∧ x_129.toInt ≤ 61 := iv_of ex_129 (by omega)
                  have gx_129 : x_129.toInt = (oI Z o 6).toInt := iv_to ex_129
                  clear ex_129
                  refine lv_bipush (v := 60) hx hb dX10_sign_83 (by decide +kernel) ?_
                  refine lv_icmp_lt (tgt := 95) hx hb dX10_sign_85 (by decide +kernel) (fun c_130 => ?_) (fun c_130 => ?_)
                  · have dc_130 := c_lt (a := x_129.toInt) (b := 60) rfl (by decide +kernel) c_130
                    refine lv_aloadN hx hb dX10_sign_95 (lv_at hl 0 rfl) ?_
                    refine lv_ifnullN (tgt := 110) hx hb dX10_sign_97 (by decide +kernel) ?_
                    refine lv_iconst (v := 1) hx hb dX10_sign_110 (by decide +kernel) ?_
                    refine lv_goto (tgt := 115) hx hb dX10_sign_111 (by decide +kernel) ?_
                    refine lv_istore (lv' := [(9, .int 1), (8, .null), (7, .ref b_66), (6, .ref b_6), (0, .ref o), (1, .int x1), (2, .int x2), (3, .int x3), (4, .int x4), (5, .int x5)]) hx hb dX10_sign_115 hl (by decide +kernel) rfl (fun ls hl => ?_)
                    refine lv_aload hx hb dX10_sign_117 (lv_at hl 2 rfl) ?_
                    have hFc : ∀ q, va_A [] H.size q → A q := pu_free hS hA
                    obtain ⟨q_131, hq_131⟩ := og (cq := cq) tb_66.1 (oE_9 tb_66.2)
                    refine va_calli (va_runV (As := []) (rest := []) ⟨hx, hb, hml, hown, hts⟩ (c_X9_takesHands_c l dC dI H.size cq Z gI b_66 tb_66 o to v fa hR x2.toNatClampNeg ljb_66 ejb_66) (cwV 0 hts gX10_sign_X9_takesHands rfl rfl rfl (by decide +kernel) ⟨(Nat.le_of_ble_eq_true rfl), (Nat.le_of_ble_eq_true rfl)⟩) (pr_V (r := (RX9, TX9, 10)) hP hK hD q_131 9 rfl hq_131) rfl rfl hl.1 rfl (lv_room (Nat.le_of_ble_eq_true rfl)) dX10_sign_119 ⟨(Nat.le_of_ble_eq_true rfl), (Nat.le_of_ble_eq_true rfl)⟩) hS (fun q _ h => hFc q h) hFc (fun r_133 u t H locs ht hvm w_132 hB hz1 hk1 hS => ?_)
                    have hP := pu_keep hP hk1
                    clear hk1 hz1 hvm hB ht hFc
                    obtain ⟨hb_134, hx_135⟩ := w_132
                    refine lv_if_eq (tgt := 151) hx hb dX10_sign_122 (by decide +kernel) (fun c_136 => ?_) (fun c_136 => ?_)
                    · have dc_136 := c_eq (a := r_133.toInt) (b := 0) rfl (by decide +kernel) c_136
                      refine lv_aload_n hx hb dX10_sign_151 rfl (lv_at hl 4 rfl) ?_
                      refine lv_bipush (v := (-3)) hx hb dX10_sign_152 (by decide +kernel) ?_
                      have hFc := o_free hD hS hA
                      refine va_calli (va_runV (As := [.int (-3)]) (rest := []) ⟨hx, hb, hml, hown, hts⟩ (c_X10_refuse_c l dC dI H.size cq Z gI o to (-3) (by decide +kernel)) (cwV 1 hts gX10_sign_X10_refuse rfl rfl rfl (by decide +kernel) ⟨(Nat.le_of_ble_eq_true rfl), (Nat.le_of_ble_eq_true rfl)⟩) (pr_V (r := (RX10, TX10, 16)) hP hK hD q_1 10 rfl hq_1) rfl rfl hl.1 rfl (lv_room (Nat.le_of_ble_eq_true rfl)) dX10_sign_154 ⟨(Nat.le_of_ble_eq_true rfl), (Nat.le_of_ble_eq_true rfl)⟩) hS (fun q _ h => hFc q h) hFc (fun r_138 u t H locs ht hvm w_137 hB hz1 hk1 hS => ?_)
                      obtain ⟨S_139, rfl⟩ : ∃ z, z = u := ⟨_, rfl⟩
                      obtain ⟨hP1, hK1, hD1⟩ := hB
                      rw [ht] at hP1
                      have hP : va_P (dC, dI) vwCl (oW cq S_139) H := hP1
                      have hD : va_D A (oW cq S_139) := hD1.weaken (fun _ _ _ h => hFc _ h)
                      clear hP1 hK1 hD1 hk1 hz1 hvm ht hFc
                      obtain ⟨hIS_139, XS_139, hb_140, hx_141⟩ := w_137
                      have X_142 : oX [1006, 2016, 2107, 2108, 5001] Z S_139 := oX.st oX.rf XS_139 (by decide +kernel)
                      have g_143 : (oI S_139 o 0).toInt = (oI Z o 0).toInt := by rw [oX.i XS_139 to (by decide +kernel)]
                      have g_144 : (oI S_139 o 6).toInt = (oI Z o 6).toInt := by rw [oX.i XS_139 to (by decide +kernel)]
                      have rf_145 : r_138.toInt = -3 := by rw [hx_141.1]; decide
                      refine W.widen (k := 4) (n := 64) (Nat.le_of_ble_eq_true rfl) (Nat.le_of_ble_eq_true rfl) ?_
                      exact W.iret (v := r_138) hx hb hr (fun t ht hW => ⟨⟨r_138, S_139, rfl, ⟨hIS_139, X_142, ⟨by have kc0 : (0 : Int32).toInt = 0 := (by decide +kernel); have kc1 : (1 : Int32).toInt = 1 := (by decide +kernel); have kc2 : (2 : Int32).toInt = 2 := (by decide +kernel); have htk := hx_135; unfold tkI at htk; simp only [tn_i (x := x2) (show 0 ≤ x2.toInt by omega)] at htk; exact Or.inr (Or.inr (Or.inr (Or.inl ⟨(by first | assumption | (unfold sgK; omega)), by omega, by omega, by first | exact Or.inl (by unfold sgY; (repeat (split at htk)) <;> omega) | exact Or.inr (by omega), by omega⟩))), Or.inl ⟨by omega, Z, gI, oX.rf, by rw [hx_141.1]; exact hx_141.2⟩⟩⟩, ⟨by rw [ht]; exact hP, va_K.moved hW.alike hK, hD⟩⟩, hS.F ht⟩) hS.2.2 dX10_sign_157
                    · have dc_136 := c_ne (a := r_133.toInt) (b := 0) rfl (by decide +kernel) c_136
                      refine lv_aload_n hx hb dX10_sign_125 rfl (lv_at hl 4 rfl) ?_
                      refine lv_aload hx hb dX10_sign_126 (lv_at hl 3 rfl) ?_
                      have hFc : ∀ q, va_A [] H.size q → A q := pu_free hS hA
                      refine va_calli (va_runV (As := [.ref b_6]) (rest := []) ⟨hx, hb, hml, hown, hts⟩ (c_X10_isFree_c l dC dI H.size cq Z gI o to b_6 tb_6 v fa hR x1.toNatClampNeg ljb_6 ejb_6) (cwV 1 hts gX10_sign_X10_isFree rfl rfl rfl (by decide +kernel) ⟨(Nat.le_of_ble_eq_true rfl), (Nat.le_of_ble_eq_true rfl)⟩) (pr_V (r := (RX10, TX10, 16)) hP hK hD q_1 10 rfl hq_1) rfl rfl hl.1 rfl (lv_room (Nat.le_of_ble_eq_true rfl)) dX10_sign_128 ⟨(Nat.le_of_ble_eq_true rfl), (Nat.le_of_ble_eq_true rfl)⟩) hS (fun q _ h => hFc q h) hFc (fun r_147 u t H locs ht hvm w_146 hB hz1 hk1 hS => ?_)
                      have hP := pu_keep hP hk1
                      clear hk1 hz1 hvm hB ht hFc
                      obtain ⟨hb_148, hx_149⟩ := w_146
                      refine lv_if_eq (tgt := 151) hx hb dX10_sign_131 (by decide +kernel) (fun c_150 => ?_) (fun c_150 => ?_)
                      · have dc_150 := c_eq (a := r_147.toInt) (b := 0) rfl (by decide +kernel) c_150
                        refine lv_aload_n hx hb dX10_sign_151 rfl (lv_at hl 4 rfl) ?_
                        refine lv_bipush (v := (-3)) hx hb dX10_sign_152 (by decide +kernel) ?_
                        have hFc := o_free hD hS hA
                        refine va_calli (va_runV (As := [.int (-3)]) (rest := []) ⟨hx, hb, hml, hown, hts⟩ (c_X10_refuse_c l dC dI H.size cq Z gI o to (-3) (by decide +kernel)) (cwV 1 hts gX10_sign_X10_refuse rfl rfl rfl (by decide +kernel) ⟨(Nat.le_of_ble_eq_true rfl), (Nat.le_of_ble_eq_true rfl)⟩) (pr_V (r := (RX10, TX10, 16)) hP hK hD q_1 10 rfl hq_1) rfl rfl hl.1 rfl (lv_room (Nat.le_of_ble_eq_true rfl)) dX10_sign_154 ⟨(Nat.le_of_ble_eq_true rfl), (Nat.le_of_ble_eq_true rfl)⟩) hS (fun q _ h => hFc q h) hFc (fun r_152 u t H locs ht hvm w_151 hB hz1 hk1 hS => ?_)
                        obtain ⟨S_153, rfl⟩ : ∃ z, z = u := ⟨_, rfl⟩
                        obtain ⟨hP1, hK1, hD1⟩ := hB
                        rw [ht] at hP1
                        have hP : va_P (dC, dI) vwCl (oW cq S_153) H := hP1
                        have hD : va_D A (oW cq S_153) := hD1.weaken (fun _ _ _ h => hFc _ h)
                        clear hP1 hK1 hD1 hk1 hz1 hvm ht hFc
                        obtain ⟨hIS_153, XS_153, hb_154, hx_155⟩ := w_151
                        have X_156 : oX [1006, 2016, 2107, 2108, 5001] Z S_153 := oX.st oX.rf XS_153 (by decide +kernel)
                        have g_157 : (oI S_153 o 0).toInt = (oI Z o 0).toInt := by rw [oX.i XS_153 to (by decide +kernel)]
                        have g_158 : (oI S_153 o 6).toInt = (oI Z o 6).toInt := by rw [oX.i XS_153 to (by decide +kernel)]
                        have rf_159 : r_152.toInt = -3 := by rw [hx_155.1]; decide
                        refine W.widen (k := 4) (n := 64) (Nat.le_of_ble_eq_true rfl) (Nat.le_of_ble_eq_true rfl) ?_
                        exact W.iret (v := r_152) hx hb hr (fun t ht hW => ⟨⟨r_152, S_153, rfl, ⟨hIS_153, X_156, ⟨by have kc0 : (0 : Int32).toInt = 0 := (by decide +kernel); have kc1 : (1 : Int32).toInt = 1 := (by decide +kernel); have kc2 : (2 : Int32).toInt = 2 := (by decide +kernel); have htk := hx_135; unfold tkI at htk; simp only [tn_i (x := x2) (show 0 ≤ x2.toInt by omega)] at htk; have hfr := hx_149; rw [tn_i (x := x1) (show 0 ≤ x1.toInt by omega)] at hfr; exact Or.inr (Or.inr (Or.inr (Or.inl ⟨(by first | assumption | (unfold sgK; omega)), by omega, by omega, by first | exact Or.inl (by unfold sgY; (repeat (split at htk)) <;> omega) | exact Or.inr (by omega), by omega⟩))), Or.inl ⟨by omega, Z, gI, oX.rf, by rw [hx_155.1]; exact hx_155.2⟩⟩⟩, ⟨by rw [ht]; exact hP, va_K.moved hW.alike hK, hD⟩⟩, hS.F ht⟩) hS.2.2 dX10_sign_157
                      · have dc_150 := c_ne (a := r_147.toInt) (b := 0) rfl (by decide +kernel) c_150
                        refine lv_iload hx hb dX10_sign_134 (lv_at hl 0 rfl) ?_
                        refine lv_if_eq (tgt := 151) hx hb dX10_sign_136 (by decide +kernel) (fun c_160 => absurd c_160 (by decide +kernel)) (fun _ => ?_)
                        refine lv_aload_n hx hb dX10_sign_139 rfl (lv_at hl 4 rfl) ?_
                        refine lv_aload hx hb dX10_sign_140 (lv_at hl 3 rfl) ?_
                        refine lv_iload_n hx hb dX10_sign_142 rfl (lv_at hl 7 rfl) ?_
                        refine lv_iload hx hb dX10_sign_143 (lv_at hl 8 rfl) ?_
                        have hFc := o_free hD hS hA
                        refine va_calli (va_runV (As := [.ref b_6, .int x3, .int x4]) (rest := []) ⟨hx, hb, hml, hown, hts⟩ (c_X10_signWorth_c l dC dI H.size cq Z gI o to b_6 tb_6 x3 (by omega) x4 (by omega) v fa hR x1.toNatClampNeg ljb_6 ejb_6) (cwV 3 hts gX10_sign_X10_signWorth rfl rfl rfl (by decide +kernel) ⟨(Nat.le_of_ble_eq_true rfl), (Nat.le_of_ble_eq_true rfl)⟩) (pr_V (r := (RX10, TX10, 16)) hP hK hD q_1 10 rfl hq_1) rfl rfl hl.1 rfl (lv_room (Nat.le_of_ble_eq_true rfl)) dX10_sign_145 ⟨(Nat.le_of_ble_eq_true rfl), (Nat.le_of_ble_eq_true rfl)⟩) hS (fun q _ h => hFc q h) hFc (fun r_162 u t H locs ht hvm w_161 hB hz1 hk1 hS => ?_)
                        obtain ⟨S_163, rfl⟩ : ∃ z, z = u := ⟨_, rfl⟩
                        obtain ⟨hP1, hK1, hD1⟩ := hB
                        rw [ht] at hP1
                        have hP : va_P (dC, dI) vwCl (oW cq S_163) H := hP1
                        have hD : va_D A (oW cq S_163) := hD1.weaken (fun _ _ _ h => hFc _ h)
                        clear hP1 hK1 hD1 hk1 hz1 hvm ht hFc
                        obtain ⟨hIS_163, XS_163, hx_164⟩ := w_161
                        have X_165 : oX [1006, 2016, 2107, 2108, 5001] Z S_163 := oX.st oX.rf XS_163 (by decide +kernel)
                        have g_166 : (oI S_163 o 0).toInt = (oI Z o 0).toInt := by rw [oX.i XS_163 to (by decide +kernel)]
                        have g_167 : (oI S_163 o 6).toInt = (oI Z o 6).toInt := by rw [oX.i XS_163 to (by decide +kernel)]
                        have hwi := congrArg Int32.toInt hx_164
                        refine lv_if_gt (tgt := 158) hx hb dX10_sign_148 (by decide +kernel) (fun c_168 => ?_) (fun c_168 => ?_)
                        · have dc_168 := c_lt (a := 0) (b := r_162.toInt) (by decide +kernel) rfl c_168
                          refine va_new (ci := 1) (fs := [.null, .null, .int 0, .null, .int 0, .int 0, .int 0, .int 0, .null, .int 0, .int 0, .int 0, .null, .int 0, .null, .null, .int 0, .int 0]) (C := RX1) (T := TX1) (N := 18) hx hb hts in_wsX10_sign_X1 tyX1 tyX1_ok hown (hts (.classLink RX10 21 RX1) iw_X10_sign_2) (hts (.instantiable RX1 18) iw_X10_sign_3) (hts (.initialized RX1) iw_X10_sign_4) hK hP hD hS hA rfl (fun j hj => by rcases (show j = 0 ∨ j = 1 ∨ j = 2 ∨ j = 3 ∨ j = 4 ∨ j = 5 ∨ j = 6 ∨ j = 7 ∨ j = 8 ∨ j = 9 ∨ j = 10 ∨ j = 11 ∨ j = 12 ∨ j = 13 ∨ j = 14 ∨ j = 15 ∨ j = 16 ∨ j = 17 by omega) with rfl | rfl | rfl | rfl | rfl | rfl | rfl | rfl | rfl | rfl | rfl | rfl | rfl | rfl | rfl | rfl | rfl | rfl <;> rfl) (Nat.le_of_ble_eq_true rfl) (Nat.le_of_ble_eq_true rfl) dX10_sign_158 (fun q_169 H hP1 hD1 hS => ?_)
                          have hnq_169 := add_q hD1
                          obtain ⟨S_170, eS_170⟩ : ∃ zq, zq = addO S_163 q_169 31 := ⟨_, rfl⟩
                          have hP : va_P (dC, dI) vwCl (oW cq S_170) H := by rw [eS_170]; exact cP (onew hD1 (by rw [oE_31 add_K, add_I, add_P]; rfl)) hP1
                          have hD : va_D A (oW cq S_170) := by rw [eS_170]; exact cD (onew hD1 (by rw [oE_31 add_K, add_I, add_P]; rfl)) hD1
                          clear hP1 hD1
                          have hIS_170 : oInv S_170 := by rw [eS_170]; exact oInv.add hIS_163 hnq_169 (by decide +kernel)
                          have XS_170 : oX [] S_163 S_170 := by rw [eS_170]; exact oX.add hnq_169
                          have nzq_169 : q_169 ∉ oL Z := oX.nin X_165 hnq_169
                          have g_171 : (oI S_170 o 0).toInt = (oI S_163 o 0).toInt := by rw [eS_170, add_In hnq_169 (oX.ty XS_163 to).1]
                          have g_172 : (oI S_170 o 6).toInt = (oI S_163 o 6).toInt := by rw [eS_170, add_In hnq_169 (oX.ty XS_163 to).1]
                          have X_173 : oX [1006, 2016, 2107, 2108, 5001] Z S_170 := oX.st X_165 XS_170 (by decide +kernel)
                          have tq_169 : oty S_170 q_169 31 := by rw [eS_170]; exact add_ty
                          refine W.widen (k := 1) (n := 18) (Nat.le_of_ble_eq_true rfl) (Nat.le_of_ble_eq_true rfl) ?_
                          refine lv_dup hx hb dX10_sign_161 rfl ?_
                          refine lv_aload hx hb dX10_sign_162 (lv_at hl 3 rfl) ?_
                          refine lv_aload hx hb dX10_sign_164 (lv_at hl 2 rfl) ?_
                          refine lv_aload_n hx hb dX10_sign_166 rfl (lv_at hl 4 rfl) ?_
                          have t_174 : oty S_170 o 10 := (oX.ty XS_170 (oX.ty XS_163 to))
                          obtain ⟨q_175, hq_175⟩ := og (cq := cq) t_174.1 (oE_10 t_174.2)
                          refine va_get (D := (dC, dI)) (ci := 10) (v := .int (oI S_170 o 0)) (C := RX10) (T := TX10) (N := 16) hx hb hts in_wsX10_sign_X10 hown hK hP q_175 hq_175 rfl 0 (by decide +kernel) (hts (.fieldLink RX10 73 "ShipOffice" "now" "I") iw_X10_sign_5) (fun _ h9 => h9) rfl dX10_sign_167 ?_
                          refine lv_topi (fun x_176 ex_176 => ?_)
                          have hx_176 : 0 ≤ x_176.toInt ∧ x_176.toInt ≤ 3000 := iv_of ex_176 (oInv.iv hIS_170 t_174.2 rfl rfl)
                          have gx_176 : x_176.toInt = (oI S_170 o 0).toInt := iv_to ex_176
                          clear ex_176
                          refine lv_aloadN hx hb dX10_sign_170 (lv_at hl 1 rfl) ?_
                          have t_177 : oty S_170 b_6 6 := (oX.ty XS_170 (oX.ty XS_163 tb_6))
                          have t_178 : oty S_170 b_66 9 := (oX.ty XS_170 (oX.ty XS_163 tb_66))
                          have hFc := o_free hD hS hA
                          refine va_callv (va_runI (As := [.ref b_6, .ref b_66, .int x_176, .null]) (rest := [.ref q_169]) ⟨hx, hb, hml, hown, hts⟩ (c_X1_init_c l dC dI H.size tL tS tG cq S_170 hIS_170 q_169 tq_169 b_6 t_177 b_66 t_178 x_176 none (fun b h => by cases h) (fun j => by rw [eS_170, add_I]) (fun j => by rw [eS_170, add_P])) (cwI 4 hts gX10_sign_X1_init rfl rfl rfl (hts (.initialized RX1) iw_X10_sign_4) (hts (.methodLink RX10 220 yX1_init) iw_X10_sign_6) (hts (.instanceMethod yX1_init) iw_X10_sign_7) rfl (by decide +kernel) ⟨(Nat.le_of_ble_eq_true rfl), (Nat.le_of_ble_eq_true rfl)⟩) (pr_SO hP hK hD (hZ.go hS hFc)) rfl rfl hl.1 rfl (lv_room (Nat.le_of_ble_eq_true rfl)) dX10_sign_172 ⟨(Nat.le_of_ble_eq_true rfl), (Nat.le_of_ble_eq_true rfl)⟩) hS (fun q _ h => hFc q h) hFc (fun u t H locs ht hvm w_179 hB hz1 hk1 hS => ?_)
                          obtain ⟨S_181, rfl⟩ : ∃ z, z = u := ⟨_, rfl⟩
                          obtain ⟨hP1, hK1, hD1⟩ := hB
                          rw [ht] at hP1
                          have hP : va_P (dC, dI) vwCl (oW cq S_181) H := hP1
                          have hD : va_D A (oW cq S_181) := hD1.weaken (fun _ _ _ h => hFc _ h)
                          clear hP1 hK1 hD1 hk1 hz1 hvm ht hFc
                          refine W.widen (k := 4) (n := 64) (Nat.le_of_ble_eq_true rfl) (Nat.le_of_ble_eq_true rfl) ?_
                          obtain ⟨hIS_181, XS_181, hx_182⟩ := w_179
                          obtain ⟨hxS_181, hcS_181⟩ := hx_182
                          have X_183 : oX [1006, 2016, 2107, 2108, 5001] Z S_181 := oX.c X_173 XS_181 nzq_169 (by decide +kernel)
                          have g_184 : (oI S_181 o 0).toInt = (oI S_170 o 0).toInt := by rw [oXc.i XS_181 (ty_ne t_174 tq_169 (by decide +kernel)) t_174 (by decide +kernel)]
                          have g_185 : (oI S_181 o 6).toInt = (oI S_170 o 6).toInt := by rw [oXc.i XS_181 (ty_ne t_174 tq_169 (by decide +kernel)) t_174 (by decide +kernel)]
                          have fzS_181 : oX [2108, 5001] Z S_181 := oX.c (W := [2108, 5001]) (oX.st (oX.st oX.rf XS_163 (by decide +kernel)) XS_170 (by decide +kernel)) XS_181 nzq_169 (by decide +kernel)
                          refine lv_astore (lv' := [(10, .ref q_169), (9, .int 1), (8, .null), (7, .ref b_66), (6, .ref b_6), (0, .ref o), (1, .int x1), (2, .int x2), (3, .int x3), (4, .int x4), (5, .int x5)]) hx hb dX10_sign_175 hl (by decide +kernel) rfl (fun ls hl => ?_)
                          refine lv_aload hx hb dX10_sign_177 (lv_at hl 0 rfl) ?_
                          refine lv_iload_n hx hb dX10_sign_179 rfl (lv_at hl 8 rfl) ?_
                          obtain ⟨q_186, hq_186⟩ := og (cq := cq) hxS_181.1 (oE_1 hxS_181.2)
                          refine va_put (D := (dC, dI)) (ci := 1) (v := .int x3) (ty := .int) (C := RX1) (T := TX1) (N := 18) hx hb hts in_wsX10_sign_X1 tyX1 tyX1_ok nmX1 hown hK hP hD hS q_186 hq_186 rfl 4 (by decide +kernel) (hts (.fieldLink RX10 223 "ShipOffice$Agreement" "wage" "I") iw_X10_sign_8) (fun _ h9 => h9) rfl (by decide +kernel) rfl rfl (Nat.le_of_ble_eq_true rfl) dX10_sign_180 (fun H locs hP1 hD1 hS => ?_)
                          obtain ⟨S_187, eS_187⟩ : ∃ zq, zq = setI S_181 q_169 4 x3 := ⟨_, rfl⟩
                          have hP : va_P (dC, dI) vwCl (oW cq S_187) H := by rw [eS_187]; exact cP (oset hxS_181.1 hq_186 hD rfl (he_1_4 hxS_181.2) neI) hP1
                          have hD : va_D A (oW cq S_187) := by rw [eS_187]; exact cD (oset hxS_181.1 hq_186 hD rfl (he_1_4 hxS_181.2) neI) hD1
                          clear hP1 hD1
                          have hIS_187 : oInv S_187 := by rw [eS_187]; exact oInv.I0 (k := 1) (lo := -2147483648) (hi := 2147483647) hIS_181 hxS_181.2 (by decide +kernel) rfl rfl rfl (iv_all _)
                          have XS_187 : oX [104] S_181 S_187 := by rw [eS_187]; exact oX.I (k := 1) (key := 104) hxS_181.2 rfl (List.mem_singleton.mpr rfl)
                          have X_188 : oX [1006, 2016, 2107, 2108, 5001] Z S_187 := by rw [eS_187]; exact oX.In X_183 nzq_169
                          have g_189 : (oI S_187 o 0).toInt = (oI S_181 o 0).toInt := by rw [eS_187, setI_oth (ty_ne (oXc.ty XS_181 (ty_ne t_174 tq_169 (by decide +kernel)) t_174) hxS_181 (by decide +kernel))]
                          have g_190 : (oI S_187 o 6).toInt = (oI S_181 o 6).toInt := by rw [eS_187, setI_oth (ty_ne (oXc.ty XS_181 (ty_ne t_174 tq_169 (by decide +kernel)) t_174) hxS_181 (by decide +kernel))]
                          refine lv_aload hx hb dX10_sign_183 (lv_at hl 0 rfl) ?_
                          refine lv_iload hx hb dX10_sign_185 (lv_at hl 9 rfl) ?_
                          have t_191 : oty S_187 q_169 1 := (oX.ty XS_187 hxS_181)
                          obtain ⟨q_192, hq_192⟩ := og (cq := cq) t_191.1 (oE_1 t_191.2)
                          refine va_put (D := (dC, dI)) (ci := 1) (v := .int x4) (ty := .int) (C := RX1) (T := TX1) (N := 18) hx hb hts in_wsX10_sign_X1 tyX1 tyX1_ok nmX1 hown hK hP hD hS q_192 hq_192 rfl 5 (by decide +kernel) (hts (.fieldLink RX10 226 "ShipOffice$Agreement" "rank" "I") iw_X10_sign_9) (fun _ h9 => h9) rfl (by decide +kernel) rfl rfl (Nat.le_of_ble_eq_true rfl) dX10_sign_187 (fun H locs hP1 hD1 hS => ?_)
                          obtain ⟨S_193, eS_193⟩ : ∃ zq, zq = setI S_187 q_169 5 x4 := ⟨_, rfl⟩
                          have hP : va_P (dC, dI) vwCl (oW cq S_193) H := by rw [eS_193]; exact cP (oset t_191.1 hq_192 hD rfl (he_1_5 t_191.2) neI) hP1
                          have hD : va_D A (oW cq S_193) := by rw [eS_193]; exact cD (oset t_191.1 hq_192 hD rfl (he_1_5 t_191.2) neI) hD1
                          clear hP1 hD1
                          have hIS_193 : oInv S_193 := by rw [eS_193]; exact oInv.I0 (k := 1) (lo := -2147483648) (hi := 2147483647) hIS_187 t_191.2 (by decide +kernel) rfl rfl rfl (iv_all _)
                          have XS_193 : oX [105] S_187 S_193 := by rw [eS_193]; exact oX.I (k := 1) (key := 105) t_191.2 rfl (List.mem_singleton.mpr rfl)
                          have X_194 : oX [1006, 2016, 2107, 2108, 5001] Z S_193 := by rw [eS_193]; exact oX.In X_188 nzq_169
                          have g_195 : (oI S_193 o 0).toInt = (oI S_187 o 0).toInt := by rw [eS_193, setI_oth (ty_ne (oX.ty XS_187 (oXc.ty XS_181 (ty_ne t_174 tq_169 (by decide +kernel)) t_174)) t_191 (by decide +kernel))]
                          have g_196 : (oI S_193 o 6).toInt = (oI S_187 o 6).toInt := by rw [eS_193, setI_oth (ty_ne (oX.ty XS_187 (oXc.ty XS_181 (ty_ne t_174 tq_169 (by decide +kernel)) t_174)) t_191 (by decide +kernel))]
                          refine lv_aload_n hx hb dX10_sign_190 rfl (lv_at hl 5 rfl) ?_
                          have t_197 : oty S_193 o 10 := (oX.ty XS_193 (oX.ty XS_187 (oXc.ty XS_181 (ty_ne t_174 tq_169 (by decide +kernel)) t_174)))
                          obtain ⟨q_198, hq_198⟩ := og (cq := cq) t_197.1 (oE_10 t_197.2)
                          obtain ⟨b_199, hb_199⟩ := oInv.nn (i := 5) hIS_193 t_197 rfl
                          refine va_get (D := (dC, dI)) (ci := 10) (v := .ref b_199) (C := RX10) (T := TX10) (N := 16) hx hb hts in_wsX10_sign_X10 hown hK hP q_198 hq_198 rfl 5 (by decide +kernel) (hts (.fieldLink RX10 23 "ShipOffice" "agreements" "[LShipOffice$Agreement;") iw_X10_sign_10) (fun _ h9 => h9) (o_rd hb_199) dX10_sign_191 ?_
                          have tb_199 : oty S_193 b_199 16 := oInv.rd hIS_193 t_197.2 hb_199 rfl rfl
                          refine lv_aload_n hx hb dX10_sign_194 rfl (lv_at hl 5 rfl) ?_
                          refine va_get (D := (dC, dI)) (ci := 10) (v := .int (oI S_193 o 6)) (C := RX10) (T := TX10) (N := 16) hx hb hts in_wsX10_sign_X10 hown hK hP q_198 hq_198 rfl 6 (by decide +kernel) (hts (.fieldLink RX10 115 "ShipOffice" "agreementCount" "I") iw_X10_sign_1) (fun _ h9 => h9) rfl dX10_sign_195 ?_
                          refine lv_topi (fun x_200 ex_200 => ?_)
                          have hx_200 : 0 ≤ x_200.toInt ∧ x_200.toInt ≤ 61 := iv_of ex_200 (by omega)
                          have gx_200 : x_200.toInt = (oI S_193 o 6).toInt := iv_to ex_200
                          clear ex_200
                          refine lv_aload hx hb dX10_sign_198 (lv_at hl 0 rfl) ?_
                          obtain ⟨q_201, hq_201⟩ := og (cq := cq) tb_199.1 (oE_16 tb_199.2)
                          have t_202 : oty S_193 q_169 1 := (oX.ty XS_193 t_191)
                          obtain ⟨q_203, hq_203⟩ := og (cq := cq) t_202.1 (oE_1 t_202.2)
                          refine va_astq (r := (RX1, TX1, 18)) hx hb hK hP hD hS q_201 5 q_203 1 hq_201 rfl hq_203 rfl (vp_in_iff.mpr (by omega)) dX10_sign_200 (fun H locs hP1 hD1 hS => ?_)
                          obtain ⟨S_204, eS_204⟩ : ∃ zq, zq = setP S_193 b_199 (x_200 : Int32).toNatClampNeg (some q_169) := ⟨_, rfl⟩
                          have hP : va_P (dC, dI) vwCl (oW cq S_204) H := by rw [eS_204]; exact cP (oset tb_199.1 hq_201 hD rfl (he_16 tb_199.2) neP) hP1
                          have hD : va_D A (oW cq S_204) := by rw [eS_204]; exact cD (oset tb_199.1 hq_201 hD rfl (he_16 tb_199.2) neP) hD1
                          clear hP1 hD1
                          have hIS_204 : oInv S_204 := by rw [eS_204]; exact oInv.P (k := 16) hIS_193 tb_199.2 (by decide +kernel) rfl (fun h => absurd h.1 (by decide +kernel)) t_202 (show 1 ≤ 1 ∧ 1 ≤ 1 from ⟨Nat.le_refl _, Nat.le_refl _⟩)
                          have XS_204 : oX [2016] S_193 S_204 := by rw [eS_204]; exact oX.P (k := 16) (key := 2016) tb_199.2 rfl (List.mem_singleton.mpr rfl)
                          have X_205 : oX [1006, 2016, 2107, 2108, 5001] Z S_204 := oX.st X_194 XS_204 (by decide +kernel)
                          have g_206 : (oI S_204 o 0).toInt = (oI S_193 o 0).toInt := by rw [eS_204]; rfl
                          have g_207 : (oI S_204 o 6).toInt = (oI S_193 o 6).toInt := by rw [eS_204]; rfl
                          have helS_204 : oP S_204 b_199 (x_200 : Int32).toNatClampNeg = some q_169 := by rw [eS_204, setP_same]
                          have hsrS_204 : oP S_204 o 5 = some b_199 := by rw [eS_204, setP_oth (ty_ne t_197 tb_199 (by decide +kernel))]; exact hb_199
                          refine lv_aload_n hx hb dX10_sign_201 rfl (lv_at hl 5 rfl) ?_
                          refine lv_dup hx hb dX10_sign_202 rfl ?_
                          have t_208 : oty S_204 o 10 := (oX.ty XS_204 t_197)
                          obtain ⟨q_209, hq_209⟩ := og (cq := cq) t_208.1 (oE_10 t_208.2)
                          refine va_get (D := (dC, dI)) (ci := 10) (v := .int (oI S_204 o 6)) (C := RX10) (T := TX10) (N := 16) hx hb hts in_wsX10_sign_X10 hown hK hP q_209 hq_209 rfl 6 (by decide +kernel) (hts (.fieldLink RX10 115 "ShipOffice" "agreementCount" "I") iw_X10_sign_1) (fun _ h9 => h9) rfl dX10_sign_203 ?_
                          refine lv_topi (fun x_210 ex_210 => ?_)
                          have hx_210 : 0 ≤ x_210.toInt ∧ x_210.toInt ≤ 61 := iv_of ex_210 (by omega)
                          have gx_210 : x_210.toInt = (oI S_204 o 6).toInt := iv_to ex_210
                          clear ex_210
                          refine lv_iconst (v := 1) hx hb dX10_sign_206 (by decide +kernel) ?_
                          refine lv_iadd hx hb dX10_sign_207 ?_
                          refine lv_topi (fun x_211 ex_211 => ?_)
                          have hx_211 : x_211.toInt = x_210.toInt + 1 := (iv_to ex_211).trans (ad_i rfl (by decide +kernel) (by omega) (by omega))
                          clear ex_211
                          refine va_put (D := (dC, dI)) (ci := 10) (v := .int x_211) (ty := .int) (C := RX10) (T := TX10) (N := 16) hx hb hts in_wsX10_sign_X10 tyX10 tyX10_ok nmX10 hown hK hP hD hS q_209 hq_209 rfl 6 (by decide +kernel) (hts (.fieldLink RX10 115 "ShipOffice" "agreementCount" "I") iw_X10_sign_1) (fun _ h9 => h9) rfl (by decide +kernel) rfl rfl (Nat.le_of_ble_eq_true rfl) dX10_sign_208 (fun H locs hP1 hD1 hS => ?_)
                          obtain ⟨S_212, eS_212⟩ : ∃ zq, zq = setI S_204 o 6 x_211 := ⟨_, rfl⟩
                          have hP : va_P (dC, dI) vwCl (oW cq S_212) H := by rw [eS_212]; exact cP (oset t_208.1 hq_209 hD rfl (he_10_6 t_208.2) neI) hP1
                          have hD : va_D A (oW cq S_212) := by rw [eS_212]; exact cD (oset t_208.1 hq_209 hD rfl (he_10_6 t_208.2) neI) hD1
                          clear hP1 hD1
                          have hIS_212 : oInv S_212 := by rw [eS_212]; exact oInv.I (k := 10) (lo := 0) (hi := 60) hIS_204 t_208.2 (by decide +kernel) rfl rfl (by omega) (inv_cnt hIS_204 t_208 rfl hsrS_204 (by omega) (by omega) ⟨_, by rw [← cnt_at (x := x_200) (S := S_204) (a := o) (i := 6) (by omega)]; exact helS_204⟩)
                          have XS_212 : oX [1006] S_204 S_212 := by rw [eS_212]; exact oX.I (k := 10) (key := 1006) t_208.2 rfl (List.mem_singleton.mpr rfl)
                          have X_213 : oX [1006, 2016, 2107, 2108, 5001] Z S_212 := oX.st X_205 XS_212 (by decide +kernel)
                          have g_214 : (oI S_212 o 0).toInt = (oI S_204 o 0).toInt := by rw [eS_212, setI_ne (by decide +kernel)]
                          have g_215 : (oI S_212 o 6).toInt = x_211.toInt := by rw [eS_212, setI_same]
                          refine lv_aload_n hx hb dX10_sign_211 rfl (lv_at hl 5 rfl) ?_
                          have t_216 : oty S_212 o 10 := (oX.ty XS_212 t_208)
                          obtain ⟨q_217, hq_217⟩ := og (cq := cq) t_216.1 (oE_10 t_216.2)
                          refine va_get (D := (dC, dI)) (ci := 10) (v := .int (oI S_212 o 6)) (C := RX10) (T := TX10) (N := 16) hx hb hts in_wsX10_sign_X10 hown hK hP q_217 hq_217 rfl 6 (by decide +kernel) (hts (.fieldLink RX10 115 "ShipOffice" "agreementCount" "I") iw_X10_sign_1) (fun _ h9 => h9) rfl dX10_sign_212 ?_
                          refine lv_topi (fun x_218 ex_218 => ?_)
                          have hx_218 : 0 ≤ x_218.toInt ∧ x_218.toInt ≤ 61 := iv_of ex_218 (by omega)
                          have gx_218 : x_218.toInt = (oI S_212 o 6).toInt := iv_to ex_218
                          clear ex_218
                          refine lv_iconst (v := 1) hx hb dX10_sign_215 (by decide +kernel) ?_
                          refine lv_isub hx hb dX10_sign_216 ?_
                          refine lv_topi (fun x_219 ex_219 => ?_)
                          have hx_219 : x_219.toInt = x_218.toInt - 1 := (iv_to ex_219).trans (sb_i rfl (by decide +kernel) (by omega) (by omega))
                          clear ex_219
                          exact W.iret (v := x_219) hx hb hr (fun t ht hW => ⟨⟨x_219, S_212, rfl, ⟨hIS_212, X_213, ⟨by have kc0 : (0 : Int32).toInt = 0 := (by decide +kernel); have kc1 : (1 : Int32).toInt = 1 := (by decide +kernel); have kc2 : (2 : Int32).toInt = 2 := (by decide +kernel); have htk := hx_135; unfold tkI at htk; simp only [tn_i (x := x2) (show 0 ≤ x2.toInt by omega)] at htk; have hfr := hx_149; rw [tn_i (x := x1) (show 0 ≤ x1.toInt by omega)] at hfr; exact Or.inr (Or.inr (Or.inr (Or.inr ⟨(by first | assumption | (unfold sgK; omega)), by omega, by omega, by unfold sgY; (repeat (split at htk)) <;> omega, by omega, by omega⟩))), Or.inr ⟨by omega, q_169, S_181, x_211, nzq_169, fzS_181, hxS_181, (by obtain ⟨h0, h1, h2, h3, h4, h5, h6, h7, h8, h9, h10, h11, h12, h13, h14, h15, h16, h17⟩ := hcS_181; exact ⟨h0.trans (congrArg some ejb_6), h1.trans (congrArg some ejb_66), h2.trans (Int32.toInt_inj.mp (by omega)), h3.trans (by unfold shO; rw [if_pos (by omega)]), h6, h7, h8, h9, h10, h11, ex_nin (W := [2108, 5001]) (oX.st (oX.st oX.rf XS_163 (by decide +kernel)) XS_170 (by decide +kernel)) h12, h13, ex_nin (W := [2108, 5001]) (oX.st (oX.st oX.rf XS_163 (by decide +kernel)) XS_170 (by decide +kernel)) h14, ex_nin (W := [2108, 5001]) (oX.st (oX.st oX.rf XS_163 (by decide +kernel)) XS_170 (by decide +kernel)) h15, h16, h17⟩), by omega, by rw [eS_212, eS_204, eS_193, eS_187, oQ_e ((oX.p (W := [104, 105, 2108, 5001]) (oX.st (oX.st (oX.c (oX.st (oX.st oX.rf XS_163 (by decide +kernel)) XS_170 (by decide +kernel)) XS_181 nzq_169 (by decide +kernel)) XS_187 (by decide +kernel)) XS_193 (by decide +kernel)) to (by decide +kernel)).symm.trans hb_199), (show x_200 = oI Z o 6 from Int32.toInt_inj.mp (by omega))]⟩⟩⟩, ⟨by rw [ht]; exact hP, va_K.moved hW.alike hK, hD⟩⟩, hS.F ht⟩) hS.2.2 dX10_sign_217
                        · have dc_168 := c_nlt (a := 0) (b := r_162.toInt) (by decide +kernel) rfl c_168
                          refine lv_aload_n hx hb dX10_sign_151 rfl (lv_at hl 4 rfl) ?_
                          refine lv_bipush (v := (-3)) hx hb dX10_sign_152 (by decide +kernel) ?_
                          have t_220 : oty S_163 o 10 := (oX.ty XS_163 to)
                          have hFc := o_free hD hS hA
                          obtain ⟨q_221, hq_221⟩ := og (cq := cq) t_220.1 (oE_10 t_220.2)
                          refine va_calli (va_runV (As := [.int (-3)]) (rest := []) ⟨hx, hb, hml, hown, hts⟩ (c_X10_refuse_c l dC dI H.size cq S_163 hIS_163 o t_220 (-3) (by decide +kernel)) (cwV 1 hts gX10_sign_X10_refuse rfl rfl rfl (by decide +kernel) ⟨(Nat.le_of_ble_eq_true rfl), (Nat.le_of_ble_eq_true rfl)⟩) (pr_V (r := (RX10, TX10, 16)) hP hK hD q_221 10 rfl hq_221) rfl rfl hl.1 rfl (lv_room (Nat.le_of_ble_eq_true rfl)) dX10_sign_154 ⟨(Nat.le_of_ble_eq_true rfl), (Nat.le_of_ble_eq_true rfl)⟩) hS (fun q _ h => hFc q h) hFc (fun r_223 u t H locs ht hvm w_222 hB hz1 hk1 hS => ?_)
                          obtain ⟨S_224, rfl⟩ : ∃ z, z = u := ⟨_, rfl⟩
                          obtain ⟨hP1, hK1, hD1⟩ := hB
                          rw [ht] at hP1
                          have hP : va_P (dC, dI) vwCl (oW cq S_224) H := hP1
                          have hD : va_D A (oW cq S_224) := hD1.weaken (fun _ _ _ h => hFc _ h)
                          clear hP1 hK1 hD1 hk1 hz1 hvm ht hFc
                          obtain ⟨hIS_224, XS_224, hb_225, hx_226⟩ := w_222
                          have X_227 : oX [1006, 2016, 2107, 2108, 5001] Z S_224 := oX.st X_165 XS_224 (by decide +kernel)
                          have g_228 : (oI S_224 o 0).toInt = (oI S_163 o 0).toInt := by rw [oX.i XS_224 t_220 (by decide +kernel)]
                          have g_229 : (oI S_224 o 6).toInt = (oI S_163 o 6).toInt := by rw [oX.i XS_224 t_220 (by decide +kernel)]
                          have rf_230 : r_223.toInt = -3 := by rw [hx_226.1]; decide
                          refine W.widen (k := 4) (n := 64) (Nat.le_of_ble_eq_true rfl) (Nat.le_of_ble_eq_true rfl) ?_
                          exact W.iret (v := r_223) hx hb hr (fun t ht hW => ⟨⟨r_223, S_224, rfl, ⟨hIS_224, X_227, ⟨by have kc0 : (0 : Int32).toInt = 0 := (by decide +kernel); have kc1 : (1 : Int32).toInt = 1 := (by decide +kernel); have kc2 : (2 : Int32).toInt = 2 := (by decide +kernel); have htk := hx_135; unfold tkI at htk; simp only [tn_i (x := x2) (show 0 ≤ x2.toInt by omega)] at htk; have hfr := hx_149; rw [tn_i (x := x1) (show 0 ≤ x1.toInt by omega)] at hfr; exact Or.inr (Or.inr (Or.inr (Or.inl ⟨(by first | assumption | (unfold sgK; omega)), by omega, by omega, by first | exact Or.inr (by omega) | exact Or.inl (by unfold sgY; (repeat (split at htk)) <;> omega), by omega⟩))), Or.inl ⟨by omega, S_163, hIS_163, (oX.st oX.rf XS_163 (by decide +kernel)), by rw [hx_226.1]; exact hx_226.2⟩⟩⟩, ⟨by rw [ht]; exact hP, va_K.moved hW.alike hK, hD⟩⟩, hS.F ht⟩) hS.2.2 dX10_sign_157
                  · have dc_130 := c_nlt (a := x_129.toInt) (b := 60) rfl (by decide +kernel) c_130
                    refine lv_aload_n hx hb dX10_sign_88 rfl (lv_at hl 3 rfl) ?_
                    refine lv_bipush (v := (-6)) hx hb dX10_sign_89 (by decide +kernel) ?_
                    have hFc := o_free hD hS hA
                    refine va_calli (va_runV (As := [.int (-6)]) (rest := []) ⟨hx, hb, hml, hown, hts⟩ (c_X10_refuse_c l dC dI H.size cq Z gI o to (-6) (by decide +kernel)) (cwV 1 hts gX10_sign_X10_refuse rfl rfl rfl (by decide +kernel) ⟨(Nat.le_of_ble_eq_true rfl), (Nat.le_of_ble_eq_true rfl)⟩) (pr_V (r := (RX10, TX10, 16)) hP hK hD q_1 10 rfl hq_1) rfl rfl hl.1 rfl (lv_room (Nat.le_of_ble_eq_true rfl)) dX10_sign_91 ⟨(Nat.le_of_ble_eq_true rfl), (Nat.le_of_ble_eq_true rfl)⟩) hS (fun q _ h => hFc q h) hFc (fun r_232 u t H locs ht hvm w_231 hB hz1 hk1 hS => ?_)
                    obtain ⟨S_233, rfl⟩ : ∃ z, z = u := ⟨_, rfl⟩
                    obtain ⟨hP1, hK1, hD1⟩ := hB
                    rw [ht] at hP1
                    have hP : va_P (dC, dI) vwCl (oW cq S_233) H := hP1
                    have hD : va_D A (oW cq S_233) := hD1.weaken (fun _ _ _ h => hFc _ h)
                    clear hP1 hK1 hD1 hk1 hz1 hvm ht hFc
                    obtain ⟨hIS_233, XS_233, hb_234, hx_235⟩ := w_231
                    have X_236 : oX [1006, 2016, 2107, 2108, 5001] Z S_233 := oX.st oX.rf XS_233 (by decide +kernel)
                    have g_237 : (oI S_233 o 0).toInt = (oI Z o 0).toInt := by rw [oX.i XS_233 to (by decide +kernel)]
                    have g_238 : (oI S_233 o 6).toInt = (oI Z o 6).toInt := by rw [oX.i XS_233 to (by decide +kernel)]
                    have rf_239 : r_232.toInt = -6 := by rw [hx_235.1]; decide
                    refine W.widen (k := 4) (n := 64) (Nat.le_of_ble_eq_true rfl) (Nat.le_of_ble_eq_true rfl) ?_
                    exact W.iret (v := r_232) hx hb hr (fun t ht hW => ⟨⟨r_232, S_233, rfl, ⟨hIS_233, X_236, ⟨by have kc0 : (0 : Int32).toInt = 0 := (by decide +kernel); have kc1 : (1 : Int32).toInt = 1 := (by decide +kernel); have kc2 : (2 : Int32).toInt = 2 := (by decide +kernel); exact Or.inr (Or.inr (Or.inl ⟨(by first | assumption | (unfold sgK; omega)), by omega, by omega, by omega⟩)), Or.inl ⟨by omega, Z, gI, oX.rf, by rw [hx_235.1]; exact hx_235.2⟩⟩⟩, ⟨by rw [ht]; exact hP, va_K.moved hW.alike hK, hD⟩⟩, hS.F ht⟩) hS.2.2 dX10_sign_94
            · have dc_108 := c_nle (a := 0) (b := x4.toInt) (by decide +kernel) rfl c_108
              refine lv_aload_n hx hb dX10_sign_59 rfl (lv_at hl 3 rfl) ?_
              refine lv_bipush (v := (-4)) hx hb dX10_sign_60 (by decide +kernel) ?_
              have hFc := o_free hD hS hA
              refine va_calli (va_runV (As := [.int (-4)]) (rest := []) ⟨hx, hb, hml, hown, hts⟩ (c_X10_refuse_c l dC dI H.size cq Z gI o to (-4) (by decide +kernel)) (cwV 1 hts gX10_sign_X10_refuse rfl rfl rfl (by decide +kernel) ⟨(Nat.le_of_ble_eq_true rfl), (Nat.le_of_ble_eq_true rfl)⟩) (pr_V (r := (RX10, TX10, 16)) hP hK hD q_1 10 rfl hq_1) rfl rfl hl.1 rfl (lv_room (Nat.le_of_ble_eq_true rfl)) dX10_sign_62 ⟨(Nat.le_of_ble_eq_true rfl), (Nat.le_of_ble_eq_true rfl)⟩) hS (fun q _ h => hFc q h) hFc (fun r_241 u t H locs ht hvm w_240 hB hz1 hk1 hS => ?_)
              obtain ⟨S_242, rfl⟩ : ∃ z, z = u := ⟨_, rfl⟩
              obtain ⟨hP1, hK1, hD1⟩ := hB
              rw [ht] at hP1
              have hP : va_P (dC, dI) vwCl (oW cq S_242) H := hP1
              have hD : va_D A (oW cq S_242) := hD1.weaken (fun _ _ _ h => hFc _ h)
              clear hP1 hK1 hD1 hk1 hz1 hvm ht hFc
              obtain ⟨hIS_242, XS_242, hb_243, hx_244⟩ := w_240
              have X_245 : oX [1006, 2016, 2107, 2108, 5001] Z S_242 := oX.st oX.rf XS_242 (by decide +kernel)
              have g_246 : (oI S_242 o 0).toInt = (oI Z o 0).toInt := by rw [oX.i XS_242 to (by decide +kernel)]
              have g_247 : (oI S_242 o 6).toInt = (oI Z o 6).toInt := by rw [oX.i XS_242 to (by decide +kernel)]
              have rf_248 : r_241.toInt = -4 := by rw [hx_244.1]; decide
              refine W.widen (k := 4) (n := 64) (Nat.le_of_ble_eq_true rfl) (Nat.le_of_ble_eq_true rfl) ?_
              exact W.iret (v := r_241) hx hb hr (fun t ht hW => ⟨⟨r_241, S_242, rfl, ⟨hIS_242, X_245, ⟨by have kc0 : (0 : Int32).toInt = 0 := (by decide +kernel); have kc1 : (1 : Int32).toInt = 1 := (by decide +kernel); have kc2 : (2 : Int32).toInt = 2 := (by decide +kernel); exact Or.inr (Or.inl ⟨(by first | assumption | (unfold sgK; omega)), by omega, by omega⟩), Or.inl ⟨by omega, Z, gI, oX.rf, by rw [hx_244.1]; exact hx_244.2⟩⟩⟩, ⟨by rw [ht]; exact hP, va_K.moved hW.alike hK, hD⟩⟩, hS.F ht⟩) hS.2.2 dX10_sign_65
        · have dc_97 := c_ne (a := x5.toInt) (b := (-1)) rfl (by decide +kernel) c_97
          refine lv_aload_n hx hb dX10_sign_43 rfl (lv_at hl 3 rfl) ?_
          refine lv_iconst (v := (-1)) hx hb dX10_sign_44 (by decide +kernel) ?_
          have hFc := o_free hD hS hA
          refine va_calli (va_runV (As := [.int (-1)]) (rest := []) ⟨hx, hb, hml, hown, hts⟩ (c_X10_refuse_c l dC dI H.size cq Z gI o to (-1) (by decide +kernel)) (cwV 1 hts gX10_sign_X10_refuse rfl rfl rfl (by decide +kernel) ⟨(Nat.le_of_ble_eq_true rfl), (Nat.le_of_ble_eq_true rfl)⟩) (pr_V (r := (RX10, TX10, 16)) hP hK hD q_1 10 rfl hq_1) rfl rfl hl.1 rfl (lv_room (Nat.le_of_ble_eq_true rfl)) dX10_sign_45 ⟨(Nat.le_of_ble_eq_true rfl), (Nat.le_of_ble_eq_true rfl)⟩) hS (fun q _ h => hFc q h) hFc (fun r_250 u t H locs ht hvm w_249 hB hz1 hk1 hS => ?_)
          obtain ⟨S_251, rfl⟩ : ∃ z, z = u := ⟨_, rfl⟩
          obtain ⟨hP1, hK1, hD1⟩ := hB
          rw [ht] at hP1
          have hP : va_P (dC, dI) vwCl (oW cq S_251) H := hP1
          have hD : va_D A (oW cq S_251) := hD1.weaken (fun _ _ _ h => hFc _ h)
          clear hP1 hK1 hD1 hk1 hz1 hvm ht hFc
          obtain ⟨hIS_251, XS_251, hb_252, hx_253⟩ := w_249
          have X_254 : oX [1006, 2016, 2107, 2108, 5001] Z S_251 := oX.st oX.rf XS_251 (by decide +kernel)
          have g_255 : (oI S_251 o 0).toInt = (oI Z o 0).toInt := by rw [oX.i XS_251 to (by decide +kernel)]
          have g_256 : (oI S_251 o 6).toInt = (oI Z o 6).toInt := by rw [oX.i XS_251 to (by decide +kernel)]
          have rf_257 : r_250.toInt = -1 := by rw [hx_253.1]; decide
          refine W.widen (k := 4) (n := 64) (Nat.le_of_ble_eq_true rfl) (Nat.le_of_ble_eq_true rfl) ?_
          exact W.iret (v := r_250) hx hb hr (fun t ht hW => ⟨⟨r_250, S_251, rfl, ⟨hIS_251, X_254, ⟨by have kc0 : (0 : Int32).toInt = 0 := (by decide +kernel); have kc1 : (1 : Int32).toInt = 1 := (by decide +kernel); have kc2 : (2 : Int32).toInt = 2 := (by decide +kernel); exact Or.inl ⟨by unfold sgK; omega, by omega⟩, Or.inl ⟨by omega, Z, gI, oX.rf, by rw [hx_253.1]; exact hx_253.2⟩⟩⟩, ⟨by rw [ht]; exact hP, va_K.moved hW.alike hK, hD⟩⟩, hS.F ht⟩) hS.2.2 dX10_sign_48
      · refine W.eq (g2 := F0 m 20 ls [.ref b_96]) rfl ?_
        have tb_96 : oty Z b_96 1 := hk_94 b_96 rfl
        obtain ⟨hjb_96, ejb_96⟩ := atF_s hx_95
        have ljb_96 := ni_lt hjb_96.1 hjb_96.2
        have njb_96 := tn_i hjb_96.1
        have fAb_96 := RC.a hR ljb_96
        rw [← ejb_96] at fAb_96
        obtain ⟨⟨fm1b_96, fm2b_96, fm3b_96⟩, ⟨fv1b_96, fv2b_96, fv3b_96⟩, fsib_96, fppb_96, fwgb_96, frkb_96, fofb_96, fdeb_96, fchb_96⟩ := fAb_96
        have fBb_96 : 0 ≤ (fa 25 x5.toNatClampNeg).toInt ∧ (fa 25 x5.toNatClampNeg).toInt ≤ 3000 := RC.A hR 25 _
        have lamb_96 : (fa 20 x5.toNatClampNeg).toNatClampNeg < (v 39).toNatClampNeg := ni_lt fm1b_96 fm2b_96
        have namb_96 : (((fa 20 x5.toNatClampNeg).toNatClampNeg : Nat) : Int) = (fa 20 x5.toNatClampNeg).toInt := tn_i fm1b_96
        obtain ⟨amb_96, eamb_96⟩ : ∃ z, z = mnA Z o (fa 20 x5.toNatClampNeg).toNatClampNeg := ⟨_, rfl⟩
        rw [← eamb_96] at fm3b_96
        have tamb_96 : oty Z amb_96 6 := by rw [eamb_96]; exact (RC.tm hR gI to lamb_96).2
        have fMamb_96 := RC.m hR lamb_96
        rw [← eamb_96] at fMamb_96
        obtain ⟨fz0amb_96, fz1amb_96, fz2amb_96, fz3amb_96⟩ := fMamb_96
        rw [namb_96] at fz0amb_96
        have lavb_96 : (fa 21 x5.toNatClampNeg).toNatClampNeg < (v 40).toNatClampNeg := ni_lt fv1b_96 fv2b_96
        have navb_96 : (((fa 21 x5.toNatClampNeg).toNatClampNeg : Nat) : Int) = (fa 21 x5.toNatClampNeg).toInt := tn_i fv1b_96
        obtain ⟨avb_96, eavb_96⟩ : ∃ z, z = voA Z o (fa 21 x5.toNatClampNeg).toNatClampNeg := ⟨_, rfl⟩
        rw [← eavb_96] at fv3b_96
        have tavb_96 : oty Z avb_96 9 := by rw [eavb_96]; exact (RC.tv hR gI to lavb_96).2
        have fVavb_96 := RC.vo hR lavb_96
        rw [← eavb_96] at fVavb_96
        obtain ⟨fy0avb_96, fy1avb_96, fy2avb_96, fy3avb_96, fy4avb_96, fySavb_96, fyLavb_96, fyhavb_96⟩ := fVavb_96
        have fBavb_96 : 0 ≤ (fa 7 ((fa 21 x5.toNatClampNeg).toNatClampNeg)).toInt ∧ (fa 7 ((fa 21 x5.toNatClampNeg).toNatClampNeg)).toInt ≤ 3000 := RC.A hR 7 _
        have fSavb_96 := onc_i fySavb_96
        have fLavb_96 := onc_i fyLavb_96
        rw [navb_96] at fy0avb_96 fSavb_96 fLavb_96
        refine lv_astore (lv' := [(8, .ref b_96), (7, .ref b_66), (6, .ref b_6), (0, .ref o), (1, .int x1), (2, .int x2), (3, .int x3), (4, .int x4), (5, .int x5)]) hx hb dX10_sign_20 hl (by decide +kernel) rfl (fun ls hl => ?_)
        refine lv_aload hx hb dX10_sign_22 (lv_at hl 2 rfl) ?_
        refine lv_ifnull hx hb dX10_sign_24 ?_
        refine lv_aload hx hb dX10_sign_27 (lv_at hl 1 rfl) ?_
        refine lv_ifnull hx hb dX10_sign_29 ?_
        refine lv_aload hx hb dX10_sign_32 (lv_at hl 0 rfl) ?_
        refine lv_ifnonnull (tgt := 49) hx hb dX10_sign_34 (by decide +kernel) ?_
        refine lv_iload_n hx hb dX10_sign_49 rfl (lv_at hl 6 rfl) ?_
        refine lv_iconst (v := 1) hx hb dX10_sign_50 (by decide +kernel) ?_
        refine lv_icmp_lt (tgt := 59) hx hb dX10_sign_51 (by decide +kernel) (fun c_258 => ?_) (fun c_258 => ?_)
        · have dc_258 := c_lt (a := x3.toInt) (b := 1) rfl (by decide +kernel) c_258
          refine lv_aload_n hx hb dX10_sign_59 rfl (lv_at hl 3 rfl) ?_
          refine lv_bipush (v := (-4)) hx hb dX10_sign_60 (by decide +kernel) ?_
          have hFc := o_free hD hS hA
          refine va_calli (va_runV (As := [.int (-4)]) (rest := []) ⟨hx, hb, hml, hown, hts⟩ (c_X10_refuse_c l dC dI H.size cq Z gI o to (-4) (by decide +kernel)) (cwV 1 hts gX10_sign_X10_refuse rfl rfl rfl (by decide +kernel) ⟨(Nat.le_of_ble_eq_true rfl), (Nat.le_of_ble_eq_true rfl)⟩) (pr_V (r := (RX10, TX10, 16)) hP hK hD q_1 10 rfl hq_1) rfl rfl hl.1 rfl (lv_room (Nat.le_of_ble_eq_true rfl)) dX10_sign_62 ⟨(Nat.le_of_ble_eq_true rfl), (Nat.le_of_ble_eq_true rfl)⟩) hS (fun q _ h => hFc q h) hFc (fun r_260 u t H locs ht hvm w_259 hB hz1 hk1 hS => ?_)
          obtain ⟨S_261, rfl⟩ : ∃ z, z = u := ⟨_, rfl⟩
          obtain ⟨hP1, hK1, hD1⟩ := hB
          rw [ht] at hP1
          have hP : va_P (dC, dI) vwCl (oW cq S_261) H := hP1
          have hD : va_D A (oW cq S_261) := hD1.weaken (fun _ _ _ h => hFc _ h)
          clear hP1 hK1 hD1 hk1 hz1 hvm ht hFc
          obtain ⟨hIS_261, XS_261, hb_262, hx_263⟩ := w_259
          have X_264 : oX [1006, 2016, 2107, 2108, 5001] Z S_261 := oX.st oX.rf XS_261 (by decide +kernel)
          have g_265 : (oI S_261 o 0).toInt = (oI Z o 0).toInt := by rw [oX.i XS_261 to (by decide +kernel)]
          have g_266 : (oI S_261 o 6).toInt = (oI Z o 6).toInt := by rw [oX.i XS_261 to (by decide +kernel)]
          have pk_267 : oP S_261 b_96 0 = some amb_96 := by rw [oX.p XS_261 tb_96 (by decide +kernel)]; exact fm3b_96
          have pk_268 : oP S_261 b_96 1 = some avb_96 := by rw [oX.p XS_261 tb_96 (by decide +kernel)]; exact fv3b_96
          have rf_269 : r_260.toInt = -4 := by rw [hx_263.1]; decide
          refine W.widen (k := 4) (n := 64) (Nat.le_of_ble_eq_true rfl) (Nat.le_of_ble_eq_true rfl) ?_
          exact W.iret (v := r_260) hx hb hr (fun t ht hW => ⟨⟨r_260, S_261, rfl, ⟨hIS_261, X_264, ⟨by have kc0 : (0 : Int32).toInt = 0 := (by decide +kernel); have kc1 : (1 : Int32).toInt = 1 := (by decide +kernel); have kc2 : (2 : Int32).toInt = 2 := (by decide +kernel); exact Or.inr (Or.inl ⟨(by first | assumption | (unfold sgK; omega)), by omega, by omega⟩), Or.inl ⟨by omega, Z, gI, oX.rf, by rw [hx_263.1]; exact hx_263.2⟩⟩⟩, ⟨by rw [ht]; exact hP, va_K.moved hW.alike hK, hD⟩⟩, hS.F ht⟩) hS.2.2 dX10_sign_65
        · have dc_258 := c_nlt (a := x3.toInt) (b := 1) rfl (by decide +kernel) c_258
          refine lv_iload hx hb dX10_sign_54 (lv_at hl 7 rfl) ?_
          refine lv_if_ge (tgt := 66) hx hb dX10_sign_56 (by decide +kernel) (fun c_270 => ?_) (fun c_270 => ?_)
          · have dc_270 := c_le (a := 0) (b := x4.toInt) (by decide +kernel) rfl c_270
            refine lv_iload_n hx hb dX10_sign_66 rfl (lv_at hl 6 rfl) ?_
            refine lv_sipush (v := 9999) hx hb dX10_sign_67 (by decide +kernel) ?_
            refine lv_icmp_gt (tgt := 88) hx hb dX10_sign_70 (by decide +kernel) (fun c_271 => ?_) (fun c_271 => ?_)
            · have dc_271 := c_lt (a := 9999) (b := x3.toInt) (by decide +kernel) rfl c_271
              refine lv_aload_n hx hb dX10_sign_88 rfl (lv_at hl 3 rfl) ?_
              refine lv_bipush (v := (-6)) hx hb dX10_sign_89 (by decide +kernel) ?_
              have hFc := o_free hD hS hA
              refine va_calli (va_runV (As := [.int (-6)]) (rest := []) ⟨hx, hb, hml, hown, hts⟩ (c_X10_refuse_c l dC dI H.size cq Z gI o to (-6) (by decide +kernel)) (cwV 1 hts gX10_sign_X10_refuse rfl rfl rfl (by decide +kernel) ⟨(Nat.le_of_ble_eq_true rfl), (Nat.le_of_ble_eq_true rfl)⟩) (pr_V (r := (RX10, TX10, 16)) hP hK hD q_1 10 rfl hq_1) rfl rfl hl.1 rfl (lv_room (Nat.le_of_ble_eq_true rfl)) dX10_sign_91 ⟨(Nat.le_of_ble_eq_true rfl), (Nat.le_of_ble_eq_true rfl)⟩) hS (fun q _ h => hFc q h) hFc (fun r_273 u t H locs ht hvm w_272 hB hz1 hk1 hS => ?_)
              obtain ⟨S_274, rfl⟩ : ∃ z, z = u := ⟨_, rfl⟩
              obtain ⟨hP1, hK1, hD1⟩ := hB
              rw [ht] at hP1
              have hP : va_P (dC, dI) vwCl (oW cq S_274) H := hP1
              have hD : va_D A (oW cq S_274) := hD1.weaken (fun _ _ _ h => hFc _ h)
              clear hP1 hK1 hD1 hk1 hz1 hvm ht hFc
              obtain ⟨hIS_274, XS_274, hb_275, hx_276⟩ := w_272
              have X_277 : oX [1006, 2016, 2107, 2108, 5001] Z S_274 := oX.st oX.rf XS_274 (by decide +kernel)
              have g_278 : (oI S_274 o 0).toInt = (oI Z o 0).toInt := by rw [oX.i XS_274 to (by decide +kernel)]
              have g_279 : (oI S_274 o 6).toInt = (oI Z o 6).toInt := by rw [oX.i XS_274 to (by decide +kernel)]
              have pk_280 : oP S_274 b_96 0 = some amb_96 := by rw [oX.p XS_274 tb_96 (by decide +kernel)]; exact fm3b_96
              have pk_281 : oP S_274 b_96 1 = some avb_96 := by rw [oX.p XS_274 tb_96 (by decide +kernel)]; exact fv3b_96
              have rf_282 : r_273.toInt = -6 := by rw [hx_276.1]; decide
              refine W.widen (k := 4) (n := 64) (Nat.le_of_ble_eq_true rfl) (Nat.le_of_ble_eq_true rfl) ?_
              exact W.iret (v := r_273) hx hb hr (fun t ht hW => ⟨⟨r_273, S_274, rfl, ⟨hIS_274, X_277, ⟨by have kc0 : (0 : Int32).toInt = 0 := (by decide +kernel); have kc1 : (1 : Int32).toInt = 1 := (by decide +kernel); have kc2 : (2 : Int32).toInt = 2 := (by decide +kernel); exact Or.inr (Or.inr (Or.inl ⟨(by first | assumption | (unfold sgK; omega)), by omega, by omega, by omega⟩)), Or.inl ⟨by omega, Z, gI, oX.rf, by rw [hx_276.1]; exact hx_276.2⟩⟩⟩, ⟨by rw [ht]; exact hP, va_K.moved hW.alike hK, hD⟩⟩, hS.F ht⟩) hS.2.2 dX10_sign_94
            · have dc_271 := c_nlt (a := 9999) (b := x3.toInt) (by decide +kernel) rfl c_271
              refine lv_iload hx hb dX10_sign_73 (lv_at hl 7 rfl) ?_
              refine lv_iconst (v := 4) hx hb dX10_sign_75 (by decide +kernel) ?_
              refine lv_icmp_ge (tgt := 88) hx hb dX10_sign_76 (by decide +kernel) (fun c_283 => ?_) (fun c_283 => ?_)
              · have dc_283 := c_le (a := 4) (b := x4.toInt) (by decide +kernel) rfl c_283
                refine lv_aload_n hx hb dX10_sign_88 rfl (lv_at hl 3 rfl) ?_
                refine lv_bipush (v := (-6)) hx hb dX10_sign_89 (by decide +kernel) ?_
                have hFc := o_free hD hS hA
                refine va_calli (va_runV (As := [.int (-6)]) (rest := []) ⟨hx, hb, hml, hown, hts⟩ (c_X10_refuse_c l dC dI H.size cq Z gI o to (-6) (by decide +kernel)) (cwV 1 hts gX10_sign_X10_refuse rfl rfl rfl (by decide +kernel) ⟨(Nat.le_of_ble_eq_true rfl), (Nat.le_of_ble_eq_true rfl)⟩) (pr_V (r := (RX10, TX10, 16)) hP hK hD q_1 10 rfl hq_1) rfl rfl hl.1 rfl (lv_room (Nat.le_of_ble_eq_true rfl)) dX10_sign_91 ⟨(Nat.le_of_ble_eq_true rfl), (Nat.le_of_ble_eq_true rfl)⟩) hS (fun q _ h => hFc q h) hFc (fun r_285 u t H locs ht hvm w_284 hB hz1 hk1 hS => ?_)
                obtain ⟨S_286, rfl⟩ : ∃ z, z = u := ⟨_, rfl⟩
                obtain ⟨hP1, hK1, hD1⟩ := hB
                rw [ht] at hP1
                have hP : va_P (dC, dI) vwCl (oW cq S_286) H := hP1
                have hD : va_D A (oW cq S_286) := hD1.weaken (fun _ _ _ h => hFc _ h)
                clear hP1 hK1 hD1 hk1 hz1 hvm ht hFc
                obtain ⟨hIS_286, XS_286, hb_287, hx_288⟩ := w_284
                have X_289 : oX [1006, 2016, 2107, 2108, 5001] Z S_286 := oX.st oX.rf XS_286 (by decide +kernel)
                have g_290 : (oI S_286 o 0).toInt = (oI Z o 0).toInt := by rw [oX.i XS_286 to (by decide +kernel)]
                have g_291 : (oI S_286 o 6).toInt = (oI Z o 6).toInt := by rw [oX.i XS_286 to (by decide +kernel)]
                have pk_292 : oP S_286 b_96 0 = some amb_96 := by rw [oX.p XS_286 tb_96 (by decide +kernel)]; exact fm3b_96
                have pk_293 : oP S_286 b_96 1 = some avb_96 := by rw [oX.p XS_286 tb_96 (by decide +kernel)]; exact fv3b_96
                have rf_294 : r_285.toInt = -6 := by rw [hx_288.1]; decide
                refine W.widen (k := 4) (n := 64) (Nat.le_of_ble_eq_true rfl) (Nat.le_of_ble_eq_true rfl) ?_
                exact W.iret (v := r_285) hx hb hr (fun t ht hW => ⟨⟨r_285, S_286, rfl, ⟨hIS_286, X_289, ⟨by have kc0 : (0 : Int32).toInt = 0 := (by decide +kernel); have kc1 : (1 : Int32).toInt = 1 := (by decide +kernel); have kc2 : (2 : Int32).toInt = 2 := (by decide +kernel); exact Or.inr (Or.inr (Or.inl ⟨(by first | assumption | (unfold sgK; omega)), by omega, by omega, by omega⟩)), Or.inl ⟨by omega, Z, gI, oX.rf, by rw [hx_288.1]; exact hx_288.2⟩⟩⟩, ⟨by rw [ht]; exact hP, va_K.moved hW.alike hK, hD⟩⟩, hS.F ht⟩) hS.2.2 dX10_sign_94
              · have dc_283 := c_nle (a := 4) (b := x4.toInt) (by decide +kernel) rfl c_283
                refine lv_aload_n hx hb dX10_sign_79 rfl (lv_at hl 3 rfl) ?_
                refine va_get (D := (dC, dI)) (ci := 10) (v := .int (oI Z o 6)) (C := RX10) (T := TX10) (N := 16) hx hb hts in_wsX10_sign_X10 hown hK hP q_1 hq_1 rfl 6 (by decide +kernel) (hts (.fieldLink RX10 115 "ShipOffice" "agreementCount" "I") iw_X10_sign_1) (fun _ h9 => h9) rfl dX10_sign_80 ?_
                refine lv_topi (fun x_295 ex_295 => ?_)
                have hx_295 : 0 ≤ x_295.toInt ∧ x_295.toInt ≤ 61 := iv_of ex_295 (by omega)
                have gx_295 : x_295.toInt = (oI Z o 6).toInt := iv_to ex_295
                clear ex_295
                refine lv_bipush (v := 60) hx hb dX10_sign_83 (by decide +kernel) ?_
                refine lv_icmp_lt (tgt := 95) hx hb dX10_sign_85 (by decide +kernel) (fun c_296 => ?_) (fun c_296 => ?_)
                · have dc_296 := c_lt (a := x_295.toInt) (b := 60) rfl (by decide +kernel) c_296
                  refine lv_aload hx hb dX10_sign_95 (lv_at hl 0 rfl) ?_
                  refine lv_ifnull hx hb dX10_sign_97 ?_
                  refine lv_aload hx hb dX10_sign_100 (lv_at hl 0 rfl) ?_
                  obtain ⟨q_297, hq_297⟩ := og (cq := cq) tb_96.1 (oE_1 tb_96.2)
                  refine va_get (D := (dC, dI)) (ci := 1) (v := .int (oI Z b_96 6)) (C := RX1) (T := TX1) (N := 18) hx hb hts in_wsX10_sign_X1 hown hK hP q_297 hq_297 rfl 6 (by decide +kernel) (hts (.fieldLink RX10 126 "ShipOffice$Agreement" "offDay" "I") iw_X10_sign_11) (fun _ h9 => h9) rfl dX10_sign_102 ?_
                  refine lv_topi (fun x_298 ex_298 => ?_)
                  have gx_298 : x_298.toInt = (oI Z b_96 6).toInt := iv_to ex_298
                  clear ex_298
                  refine lv_ldc (v := 1000000) hx hb hown (hts (.constant RX10 114 (1000000)) (by decide +kernel)) dX10_sign_105 ?_
                  refine lv_icmp_eq (tgt := 114) hx hb dX10_sign_107 (by decide +kernel) (fun c_299 => ?_) (fun c_299 => ?_)
                  · have dc_299 := c_eq (a := x_298.toInt) (b := 1000000) rfl (by decide +kernel) c_299
                    refine lv_iconst (v := 0) hx hb dX10_sign_114 (by decide +kernel) ?_
                    refine lv_istore (lv' := [(9, .int 0), (8, .ref b_96), (7, .ref b_66), (6, .ref b_6), (0, .ref o), (1, .int x1), (2, .int x2), (3, .int x3), (4, .int x4), (5, .int x5)]) hx hb dX10_sign_115 hl (by decide +kernel) rfl (fun ls hl => ?_)
                    refine lv_aload hx hb dX10_sign_117 (lv_at hl 2 rfl) ?_
                    have hFc : ∀ q, va_A [] H.size q → A q := pu_free hS hA
                    obtain ⟨q_300, hq_300⟩ := og (cq := cq) tb_66.1 (oE_9 tb_66.2)
                    refine va_calli (va_runV (As := []) (rest := []) ⟨hx, hb, hml, hown, hts⟩ (c_X9_takesHands_c l dC dI H.size cq Z gI b_66 tb_66 o to v fa hR x2.toNatClampNeg ljb_66 ejb_66) (cwV 0 hts gX10_sign_X9_takesHands rfl rfl rfl (by decide +kernel) ⟨(Nat.le_of_ble_eq_true rfl), (Nat.le_of_ble_eq_true rfl)⟩) (pr_V (r := (RX9, TX9, 10)) hP hK hD q_300 9 rfl hq_300) rfl rfl hl.1 rfl (lv_room (Nat.le_of_ble_eq_true rfl)) dX10_sign_119 ⟨(Nat.le_of_ble_eq_true rfl), (Nat.le_of_ble_eq_true rfl)⟩) hS (fun q _ h => hFc q h) hFc (fun r_302 u t H locs ht hvm w_301 hB hz1 hk1 hS => ?_)
                    have hP := pu_keep hP hk1
                    clear hk1 hz1 hvm hB ht hFc
                    obtain ⟨hb_303, hx_304⟩ := w_301
                    refine lv_if_eq (tgt := 151) hx hb dX10_sign_122 (by decide +kernel) (fun c_305 => ?_) (fun c_305 => ?_)
                    · have dc_305 := c_eq (a := r_302.toInt) (b := 0) rfl (by decide +kernel) c_305
                      refine lv_aload_n hx hb dX10_sign_151 rfl (lv_at hl 4 rfl) ?_
                      refine lv_bipush (v := (-3)) hx hb dX10_sign_152 (by decide +kernel) ?_
                      have hFc := o_free hD hS hA
                      refine va_calli (va_runV (As := [.int (-3)]) (rest := []) ⟨hx, hb, hml, hown, hts⟩ (c_X10_refuse_c l dC dI H.size cq Z gI o to (-3) (by decide +kernel)) (cwV 1 hts gX10_sign_X10_refuse rfl rfl rfl (by decide +kernel) ⟨(Nat.le_of_ble_eq_true rfl), (Nat.le_of_ble_eq_true rfl)⟩) (pr_V (r := (RX10, TX10, 16)) hP hK hD q_1 10 rfl hq_1) rfl rfl hl.1 rfl (lv_room (Nat.le_of_ble_eq_true rfl)) dX10_sign_154 ⟨(Nat.le_of_ble_eq_true rfl), (Nat.le_of_ble_eq_true rfl)⟩) hS (fun q _ h => hFc q h) hFc (fun r_307 u t H locs ht hvm w_306 hB hz1 hk1 hS => ?_)
                      obtain ⟨S_308, rfl⟩ : ∃ z, z = u := ⟨_, rfl⟩
                      obtain ⟨hP1, hK1, hD1⟩ := hB
                      rw [ht] at hP1
                      have hP : va_P (dC, dI) vwCl (oW cq S_308) H := hP1
                      have hD : va_D A (oW cq S_308) := hD1.weaken (fun _ _ _ h => hFc _ h)
                      clear hP1 hK1 hD1 hk1 hz1 hvm ht hFc
                      obtain ⟨hIS_308, XS_308, hb_309, hx_310⟩ := w_306
                      have X_311 : oX [1006, 2016, 2107, 2108, 5001] Z S_308 := oX.st oX.rf XS_308 (by decide +kernel)
                      have g_312 : (oI S_308 b_96 6).toInt = (oI Z b_96 6).toInt := by rw [oX.i XS_308 tb_96 (by decide +kernel)]
                      have g_313 : (oI S_308 o 0).toInt = (oI Z o 0).toInt := by rw [oX.i XS_308 to (by decide +kernel)]
                      have g_314 : (oI S_308 o 6).toInt = (oI Z o 6).toInt := by rw [oX.i XS_308 to (by decide +kernel)]
                      have pk_315 : oP S_308 b_96 0 = some amb_96 := by rw [oX.p XS_308 tb_96 (by decide +kernel)]; exact fm3b_96
                      have pk_316 : oP S_308 b_96 1 = some avb_96 := by rw [oX.p XS_308 tb_96 (by decide +kernel)]; exact fv3b_96
                      have rf_317 : r_307.toInt = -3 := by rw [hx_310.1]; decide
                      refine W.widen (k := 4) (n := 64) (Nat.le_of_ble_eq_true rfl) (Nat.le_of_ble_eq_true rfl) ?_
                      exact W.iret (v := r_307) hx hb hr (fun t ht hW => ⟨⟨r_307, S_308, rfl, ⟨hIS_308, X_311, ⟨by have kc0 : (0 : Int32).toInt = 0 := (by decide +kernel); have kc1 : (1 : Int32).toInt = 1 := (by decide +kernel); have kc2 : (2 : Int32).toInt = 2 := (by decide +kernel); have htk := hx_304; unfold tkI at htk; simp only [tn_i (x := x2) (show 0 ≤ x2.toInt by omega)] at htk; exact Or.inr (Or.inr (Or.inr (Or.inl ⟨(by first | assumption | (unfold sgK; omega)), by omega, by omega, by first | exact Or.inl (by unfold sgY; (repeat (split at htk)) <;> omega) | exact Or.inr (by omega), by omega⟩))), Or.inl ⟨by omega, Z, gI, oX.rf, by rw [hx_310.1]; exact hx_310.2⟩⟩⟩, ⟨by rw [ht]; exact hP, va_K.moved hW.alike hK, hD⟩⟩, hS.F ht⟩) hS.2.2 dX10_sign_157
                    · have dc_305 := c_ne (a := r_302.toInt) (b := 0) rfl (by decide +kernel) c_305
                      refine lv_aload_n hx hb dX10_sign_125 rfl (lv_at hl 4 rfl) ?_
                      refine lv_aload hx hb dX10_sign_126 (lv_at hl 3 rfl) ?_
                      have hFc : ∀ q, va_A [] H.size q → A q := pu_free hS hA
                      refine va_calli (va_runV (As := [.ref b_6]) (rest := []) ⟨hx, hb, hml, hown, hts⟩ (c_X10_isFree_c l dC dI H.size cq Z gI o to b_6 tb_6 v fa hR x1.toNatClampNeg ljb_6 ejb_6) (cwV 1 hts gX10_sign_X10_isFree rfl rfl rfl (by decide +kernel) ⟨(Nat.le_of_ble_eq_true rfl), (Nat.le_of_ble_eq_true rfl)⟩) (pr_V (r := (RX10, TX10, 16)) hP hK hD q_1 10 rfl hq_1) rfl rfl hl.1 rfl (lv_room (Nat.le_of_ble_eq_true rfl)) dX10_sign_128 ⟨(Nat.le_of_ble_eq_true rfl), (Nat.le_of_ble_eq_true rfl)⟩) hS (fun q _ h => hFc q h) hFc (fun r_319 u t H locs ht hvm w_318 hB hz1 hk1 hS => ?_)
                      have hP := pu_keep hP hk1
                      clear hk1 hz1 hvm hB ht hFc
                      obtain ⟨hb_320, hx_321⟩ := w_318
                      refine lv_if_eq (tgt := 151) hx hb dX10_sign_131 (by decide +kernel) (fun c_322 => ?_) (fun c_322 => ?_)
                      · have dc_322 := c_eq (a := r_319.toInt) (b := 0) rfl (by decide +kernel) c_322
                        refine lv_aload_n hx hb dX10_sign_151 rfl (lv_at hl 4 rfl) ?_
                        refine lv_bipush (v := (-3)) hx hb dX10_sign_152 (by decide +kernel) ?_
                        have hFc := o_free hD hS hA
                        refine va_calli (va_runV (As := [.int (-3)]) (rest := []) ⟨hx, hb, hml, hown, hts⟩ (c_X10_refuse_c l dC dI H.size cq Z gI o to (-3) (by decide +kernel)) (cwV 1 hts gX10_sign_X10_refuse rfl rfl rfl (by decide +kernel) ⟨(Nat.le_of_ble_eq_true rfl), (Nat.le_of_ble_eq_true rfl)⟩) (pr_V (r := (RX10, TX10, 16)) hP hK hD q_1 10 rfl hq_1) rfl rfl hl.1 rfl (lv_room (Nat.le_of_ble_eq_true rfl)) dX10_sign_154 ⟨(Nat.le_of_ble_eq_true rfl), (Nat.le_of_ble_eq_true rfl)⟩) hS (fun q _ h => hFc q h) hFc (fun r_324 u t H locs ht hvm w_323 hB hz1 hk1 hS => ?_)
                        obtain ⟨S_325, rfl⟩ : ∃ z, z = u := ⟨_, rfl⟩
                        obtain ⟨hP1, hK1, hD1⟩ := hB
                        rw [ht] at hP1
                        have hP : va_P (dC, dI) vwCl (oW cq S_325) H := hP1
                        have hD : va_D A (oW cq S_325) := hD1.weaken (fun _ _ _ h => hFc _ h)
                        clear hP1 hK1 hD1 hk1 hz1 hvm ht hFc
                        obtain ⟨hIS_325, XS_325, hb_326, hx_327⟩ := w_323
                        have X_328 : oX [1006, 2016, 2107, 2108, 5001] Z S_325 := oX.st oX.rf XS_325 (by decide +kernel)
                        have g_329 : (oI S_325 b_96 6).toInt = (oI Z b_96 6).toInt := by rw [oX.i XS_325 tb_96 (by decide +kernel)]
                        have g_330 : (oI S_325 o 0).toInt = (oI Z o 0).toInt := by rw [oX.i XS_325 to (by decide +kernel)]
                        have g_331 : (oI S_325 o 6).toInt = (oI Z o 6).toInt := by rw [oX.i XS_325 to (by decide +kernel)]
                        have pk_332 : oP S_325 b_96 0 = some amb_96 := by rw [oX.p XS_325 tb_96 (by decide +kernel)]; exact fm3b_96
                        have pk_333 : oP S_325 b_96 1 = some avb_96 := by rw [oX.p XS_325 tb_96 (by decide +kernel)]; exact fv3b_96
                        have rf_334 : r_324.toInt = -3 := by rw [hx_327.1]; decide
                        refine W.widen (k := 4) (n := 64) (Nat.le_of_ble_eq_true rfl) (Nat.le_of_ble_eq_true rfl) ?_
                        exact W.iret (v := r_324) hx hb hr (fun t ht hW => ⟨⟨r_324, S_325, rfl, ⟨hIS_325, X_328, ⟨by have kc0 : (0 : Int32).toInt = 0 := (by decide +kernel); have kc1 : (1 : Int32).toInt = 1 := (by decide +kernel); have kc2 : (2 : Int32).toInt = 2 := (by decide +kernel); have htk := hx_304; unfold tkI at htk; simp only [tn_i (x := x2) (show 0 ≤ x2.toInt by omega)] at htk; have hfr := hx_321; rw [tn_i (x := x1) (show 0 ≤ x1.toInt by omega)] at hfr; exact Or.inr (Or.inr (Or.inr (Or.inl ⟨(by first | assumption | (unfold sgK; omega)), by omega, by omega, by first | exact Or.inl (by unfold sgY; (repeat (split at htk)) <;> omega) | exact Or.inr (by omega), by omega⟩))), Or.inl ⟨by omega, Z, gI, oX.rf, by rw [hx_327.1]; exact hx_327.2⟩⟩⟩, ⟨by rw [ht]; exact hP, va_K.moved hW.alike hK, hD⟩⟩, hS.F ht⟩) hS.2.2 dX10_sign_157
                      · have dc_322 := c_ne (a := r_319.toInt) (b := 0) rfl (by decide +kernel) c_322
                        refine lv_iload hx hb dX10_sign_134 (lv_at hl 0 rfl) ?_
                        refine lv_if_eq (tgt := 151) hx hb dX10_sign_136 (by decide +kernel) (fun _ => ?_) (fun c_335 => absurd c_335 (by decide +kernel))
                        refine lv_aload_n hx hb dX10_sign_151 rfl (lv_at hl 4 rfl) ?_
                        refine lv_bipush (v := (-3)) hx hb dX10_sign_152 (by decide +kernel) ?_
                        have hFc := o_free hD hS hA
                        refine va_calli (va_runV (As := [.int (-3)]) (rest := []) ⟨hx, hb, hml, hown, hts⟩ (c_X10_refuse_c l dC dI H.size cq Z gI o to (-3) (by decide +kernel)) (cwV 1 hts gX10_sign_X10_refuse rfl rfl rfl (by decide +kernel) ⟨(Nat.le_of_ble_eq_true rfl), (Nat.le_of_ble_eq_true rfl)⟩) (pr_V (r := (RX10, TX10, 16)) hP hK hD q_1 10 rfl hq_1) rfl rfl hl.1 rfl (lv_room (Nat.le_of_ble_eq_true rfl)) dX10_sign_154 ⟨(Nat.le_of_ble_eq_true rfl), (Nat.le_of_ble_eq_true rfl)⟩) hS (fun q _ h => hFc q h) hFc (fun r_337 u t H locs ht hvm w_336 hB hz1 hk1 hS => ?_)
                        obtain ⟨S_338, rfl⟩ : ∃ z, z = u := ⟨_, rfl⟩
                        obtain ⟨hP1, hK1, hD1⟩ := hB
                        rw [ht] at hP1
                        have hP : va_P (dC, dI) vwCl (oW cq S_338) H := hP1
                        have hD : va_D A (oW cq S_338) := hD1.weaken (fun _ _ _ h => hFc _ h)
                        clear hP1 hK1 hD1 hk1 hz1 hvm ht hFc
                        obtain ⟨hIS_338, XS_338, hb_339, hx_340⟩ := w_336
                        have X_341 : oX [1006, 2016, 2107, 2108, 5001] Z S_338 := oX.st oX.rf XS_338 (by decide +kernel)
                        have g_342 : (oI S_338 b_96 6).toInt = (oI Z b_96 6).toInt := by rw [oX.i XS_338 tb_96 (by decide +kernel)]
                        have g_343 : (oI S_338 o 0).toInt = (oI Z o 0).toInt := by rw [oX.i XS_338 to (by decide +kernel)]
                        have g_344 : (oI S_338 o 6).toInt = (oI Z o 6).toInt := by rw [oX.i XS_338 to (by decide +kernel)]
                        have pk_345 : oP S_338 b_96 0 = some amb_96 := by rw [oX.p XS_338 tb_96 (by decide +kernel)]; exact fm3b_96
                        have pk_346 : oP S_338 b_96 1 = some avb_96 := by rw [oX.p XS_338 tb_96 (by decide +kernel)]; exact fv3b_96
                        have rf_347 : r_337.toInt = -3 := by rw [hx_340.1]; decide
                        refine W.widen (k := 4) (n := 64) (Nat.le_of_ble_eq_true rfl) (Nat.le_of_ble_eq_true rfl) ?_
                        exact W.iret (v := r_337) hx hb hr (fun t ht hW => ⟨⟨r_337, S_338, rfl, ⟨hIS_338, X_341, ⟨by have kc0 : (0 : Int32).toInt = 0 := (by decide +kernel); have kc1 : (1 : Int32).toInt = 1 := (by decide +kernel); have kc2 : (2 : Int32).toInt = 2 := (by decide +kernel); have htk := hx_304; unfold tkI at htk; simp only [tn_i (x := x2) (show 0 ≤ x2.toInt by omega)] at htk; have hfr := hx_321; rw [tn_i (x := x1) (show 0 ≤ x1.toInt by omega)] at hfr; exact Or.inr (Or.inr (Or.inr (Or.inl ⟨(by first | assumption | (unfold sgK; omega)), by omega, by omega, by first | exact Or.inl (by unfold sgY; (repeat (split at htk)) <;> omega) | exact Or.inr (by omega), by omega⟩))), Or.inl ⟨by omega, Z, gI, oX.rf, by rw [hx_340.1]; exact hx_340.2⟩⟩⟩, ⟨by rw [ht]; exact hP, va_K.moved hW.alike hK, hD⟩⟩, hS.F ht⟩) hS.2.2 dX10_sign_157
                  · have dc_299 := c_ne (a := x_298.toInt) (b := 1000000) rfl (by decide +kernel) c_299
                    refine lv_iconst (v := 1) hx hb dX10_sign_110 (by decide +kernel) ?_
                    refine lv_goto (tgt := 115) hx hb dX10_sign_111 (by decide +kernel) ?_
                    refine lv_istore (lv' := [(9, .int 1), (8, .ref b_96), (7, .ref b_66), (6, .ref b_6), (0, .ref o), (1, .int x1), (2, .int x2), (3, .int x3), (4, .int x4), (5, .int x5)]) hx hb dX10_sign_115 hl (by decide +kernel) rfl (fun ls hl => ?_)
                    refine lv_aload hx hb dX10_sign_117 (lv_at hl 2 rfl) ?_
                    have hFc : ∀ q, va_A [] H.size q → A q := pu_free hS hA
                    obtain ⟨q_348, hq_348⟩ := og (cq := cq) tb_66.1 (oE_9 tb_66.2)
                    refine va_calli (va_runV (As := []) (rest := []) ⟨hx, hb, hml, hown, hts⟩ (c_X9_takesHands_c l dC dI H.size cq Z gI b_66 tb_66 o to v fa hR x2.toNatClampNeg ljb_66 ejb_66) (cwV 0 hts gX10_sign_X9_takesHands rfl rfl rfl (by decide +kernel) ⟨(Nat.le_of_ble_eq_true rfl), (Nat.le_of_ble_eq_true rfl)⟩) (pr_V (r := (RX9, TX9, 10)) hP hK hD q_348 9 rfl hq_348) rfl rfl hl.1 rfl (lv_room (Nat.le_of_ble_eq_true rfl)) dX10_sign_119 ⟨(Nat.le_of_ble_eq_true rfl), (Nat.le_of_ble_eq_true rfl)⟩) hS (fun q _ h => hFc q h) hFc (fun r_350 u t H locs ht hvm w_349 hB hz1 hk1 hS => ?_)
                    have hP := pu_keep hP hk1
                    clear hk1 hz1 hvm hB ht hFc
                    obtain ⟨hb_351, hx_352⟩ := w_349
                    refine lv_if_eq (tgt := 151) hx hb dX10_sign_122 (by decide +kernel) (fun c_353 => ?_) (fun c_353 => ?_)
                    · have dc_353 := c_eq (a := r_350.toInt) (b := 0) rfl (by decide +kernel) c_353
                      refine lv_aload_n hx hb dX10_sign_151 rfl (lv_at hl 4 rfl) ?_
                      refine lv_bipush (v := (-3)) hx hb dX10_sign_152 (by decide +kernel) ?_
                      have hFc := o_free hD hS hA
                      refine va_calli (va_runV (As := [.int (-3)]) (rest := []) ⟨hx, hb, hml, hown, hts⟩ (c_X10_refuse_c l dC dI H.size cq Z gI o to (-3) (by decide +kernel)) (cwV 1 hts gX10_sign_X10_refuse rfl rfl rfl (by decide +kernel) ⟨(Nat.le_of_ble_eq_true rfl), (Nat.le_of_ble_eq_true rfl)⟩) (pr_V (r := (RX10, TX10, 16)) hP hK hD q_1 10 rfl hq_1) rfl rfl hl.1 rfl (lv_room (Nat.le_of_ble_eq_true rfl)) dX10_sign_154 ⟨(Nat.le_of_ble_eq_true rfl), (Nat.le_of_ble_eq_true rfl)⟩) hS (fun q _ h => hFc q h) hFc (fun r_355 u t H locs ht hvm w_354 hB hz1 hk1 hS => ?_)
                      obtain ⟨S_356, rfl⟩ : ∃ z, z = u := ⟨_, rfl⟩
                      obtain ⟨hP1, hK1, hD1⟩ := hB
                      rw [ht] at hP1
                      have hP : va_P (dC, dI) vwCl (oW cq S_356) H := hP1
                      have hD : va_D A (oW cq S_356) := hD1.weaken (fun _ _ _ h => hFc _ h)
                      clear hP1 hK1 hD1 hk1 hz1 hvm ht hFc
                      obtain ⟨hIS_356, XS_356, hb_357, hx_358⟩ := w_354
                      have X_359 : oX [1006, 2016, 2107, 2108, 5001] Z S_356 := oX.st oX.rf XS_356 (by decide +kernel)
                      have g_360 : (oI S_356 b_96 6).toInt = (oI Z b_96 6).toInt := by rw [oX.i XS_356 tb_96 (by decide +kernel)]
                      have g_361 : (oI S_356 o 0).toInt = (oI Z o 0).toInt := by rw [oX.i XS_356 to (by decide +kernel)]
                      have g_362 : (oI S_356 o 6).toInt = (oI Z o 6).toInt := by rw [oX.i XS_356 to (by decide +kernel)]
                      have pk_363 : oP S_356 b_96 0 = some amb_96 := by rw [oX.p XS_356 tb_96 (by decide +kernel)]; exact fm3b_96
                      have pk_364 : oP S_356 b_96 1 = some avb_96 := by rw [oX.p XS_356 tb_96 (by decide +kernel)]; exact fv3b_96
                      have rf_365 : r_355.toInt = -3 := by rw [hx_358.1]; decide
                      refine W.widen (k := 4) (n := 64) (Nat.le_of_ble_eq_true rfl) (Nat.le_of_ble_eq_true rfl) ?_
                      exact W.iret (v := r_355) hx hb hr (fun t ht hW => ⟨⟨r_355, S_356, rfl, ⟨hIS_356, X_359, ⟨by have kc0 : (0 : Int32).toInt = 0 := (by decide +kernel); have kc1 : (1 : Int32).toInt = 1 := (by decide +kernel); have kc2 : (2 : Int32).toInt = 2 := (by decide +kernel); have htk := hx_352; unfold tkI at htk; simp only [tn_i (x := x2) (show 0 ≤ x2.toInt by omega)] at htk; exact Or.inr (Or.inr (Or.inr (Or.inl ⟨(by first | assumption | (unfold sgK; omega)), by omega, by omega, by first | exact Or.inl (by unfold sgY; (repeat (split at htk)) <;> omega) | exact Or.inr (by omega), by omega⟩))), Or.inl ⟨by omega, Z, gI, oX.rf, by rw [hx_358.1]; exact hx_358.2⟩⟩⟩, ⟨by rw [ht]; exact hP, va_K.moved hW.alike hK, hD⟩⟩, hS.F ht⟩) hS.2.2 dX10_sign_157
                    · have dc_353 := c_ne (a := r_350.toInt) (b := 0) rfl (by decide +kernel) c_353
                      refine lv_aload_n hx hb dX10_sign_125 rfl (lv_at hl 4 rfl) ?_
                      refine lv_aload hx hb dX10_sign_126 (lv_at hl 3 rfl) ?_
                      have hFc : ∀ q, va_A [] H.size q → A q := pu_free hS hA
                      refine va_calli (va_runV (As := [.ref b_6]) (rest := []) ⟨hx, hb, hml, hown, hts⟩ (c_X10_isFree_c l dC dI H.size cq Z gI o to b_6 tb_6 v fa hR x1.toNatClampNeg ljb_6 ejb_6) (cwV 1 hts gX10_sign_X10_isFree rfl rfl rfl (by decide +kernel) ⟨(Nat.le_of_ble_eq_true rfl), (Nat.le_of_ble_eq_true rfl)⟩) (pr_V (r := (RX10, TX10, 16)) hP hK hD q_1 10 rfl hq_1) rfl rfl hl.1 rfl (lv_room (Nat.le_of_ble_eq_true rfl)) dX10_sign_128 ⟨(Nat.le_of_ble_eq_true rfl), (Nat.le_of_ble_eq_true rfl)⟩) hS (fun q _ h => hFc q h) hFc (fun r_367 u t H locs ht hvm w_366 hB hz1 hk1 hS => ?_)
                      have hP := pu_keep hP hk1
                      clear hk1 hz1 hvm hB ht hFc
                      obtain ⟨hb_368, hx_369⟩ := w_366
                      refine lv_if_eq (tgt := 151) hx hb dX10_sign_131 (by decide +kernel) (fun c_370 => ?_) (fun c_370 => ?_)
                      · have dc_370 := c_eq (a := r_367.toInt) (b := 0) rfl (by decide +kernel) c_370
                        refine lv_aload_n hx hb dX10_sign_151 rfl (lv_at hl 4 rfl) ?_
                        refine lv_bipush (v := (-3)) hx hb dX10_sign_152 (by decide +kernel) ?_
                        have hFc := o_free hD hS hA
                        refine va_calli (va_runV (As := [.int (-3)]) (rest := []) ⟨hx, hb, hml, hown, hts⟩ (c_X10_refuse_c l dC dI H.size cq Z gI o to (-3) (by decide +kernel)) (cwV 1 hts gX10_sign_X10_refuse rfl rfl rfl (by decide +kernel) ⟨(Nat.le_of_ble_eq_true rfl), (Nat.le_of_ble_eq_true rfl)⟩) (pr_V (r := (RX10, TX10, 16)) hP hK hD q_1 10 rfl hq_1) rfl rfl hl.1 rfl (lv_room (Nat.le_of_ble_eq_true rfl)) dX10_sign_154 ⟨(Nat.le_of_ble_eq_true rfl), (Nat.le_of_ble_eq_true rfl)⟩) hS (fun q _ h => hFc q h) hFc (fun r_372 u t H locs ht hvm w_371 hB hz1 hk1 hS => ?_)
                        obtain ⟨S_373, rfl⟩ : ∃ z, z = u := ⟨_, rfl⟩
                        obtain ⟨hP1, hK1, hD1⟩ := hB
                        rw [ht] at hP1
                        have hP : va_P (dC, dI) vwCl (oW cq S_373) H := hP1
                        have hD : va_D A (oW cq S_373) := hD1.weaken (fun _ _ _ h => hFc _ h)
                        clear hP1 hK1 hD1 hk1 hz1 hvm ht hFc
                        obtain ⟨hIS_373, XS_373, hb_374, hx_375⟩ := w_371
                        have X_376 : oX [1006, 2016, 2107, 2108, 5001] Z S_373 := oX.st oX.rf XS_373 (by decide +kernel)
                        have g_377 : (oI S_373 b_96 6).toInt = (oI Z b_96 6).toInt := by rw [oX.i XS_373 tb_96 (by decide +kernel)]
                        have g_378 : (oI S_373 o 0).toInt = (oI Z o 0).toInt := by rw [oX.i XS_373 to (by decide +kernel)]
                        have g_379 : (oI S_373 o 6).toInt = (oI Z o 6).toInt := by rw [oX.i XS_373 to (by decide +kernel)]
                        have pk_380 : oP S_373 b_96 0 = some amb_96 := by rw [oX.p XS_373 tb_96 (by decide +kernel)]; exact fm3b_96
                        have pk_381 : oP S_373 b_96 1 = some avb_96 := by rw [oX.p XS_373 tb_96 (by decide +kernel)]; exact fv3b_96
                        have rf_382 : r_372.toInt = -3 := by rw [hx_375.1]; decide
                        refine W.widen (k := 4) (n := 64) (Nat.le_of_ble_eq_true rfl) (Nat.le_of_ble_eq_true rfl) ?_
                        exact W.iret (v := r_372) hx hb hr (fun t ht hW => ⟨⟨r_372, S_373, rfl, ⟨hIS_373, X_376, ⟨by have kc0 : (0 : Int32).toInt = 0 := (by decide +kernel); have kc1 : (1 : Int32).toInt = 1 := (by decide +kernel); have kc2 : (2 : Int32).toInt = 2 := (by decide +kernel); have htk := hx_352; unfold tkI at htk; simp only [tn_i (x := x2) (show 0 ≤ x2.toInt by omega)] at htk; have hfr := hx_369; rw [tn_i (x := x1) (show 0 ≤ x1.toInt by omega)] at hfr; exact Or.inr (Or.inr (Or.inr (Or.inl ⟨(by first | assumption | (unfold sgK; omega)), by omega, by omega, by first | exact Or.inl (by unfold sgY; (repeat (split at htk)) <;> omega) | exact Or.inr (by omega), by omega⟩))), Or.inl ⟨by omega, Z, gI, oX.rf, by rw [hx_375.1]; exact hx_375.2⟩⟩⟩, ⟨by rw [ht]; exact hP, va_K.moved hW.alike hK, hD⟩⟩, hS.F ht⟩) hS.2.2 dX10_sign_157
                      · have dc_370 := c_ne (a := r_367.toInt) (b := 0) rfl (by decide +kernel) c_370
                        refine lv_iload hx hb dX10_sign_134 (lv_at hl 0 rfl) ?_
                        refine lv_if_eq (tgt := 151) hx hb dX10_sign_136 (by decide +kernel) (fun c_383 => absurd c_383 (by decide +kernel)) (fun _ => ?_)
                        refine lv_aload_n hx hb dX10_sign_139 rfl (lv_at hl 4 rfl) ?_
                        refine lv_aload hx hb dX10_sign_140 (lv_at hl 3 rfl) ?_
                        refine lv_iload_n hx hb dX10_sign_142 rfl (lv_at hl 7 rfl) ?_
                        refine lv_iload hx hb dX10_sign_143 (lv_at hl 8 rfl) ?_
                        have hFc := o_free hD hS hA
                        refine va_calli (va_runV (As := [.ref b_6, .int x3, .int x4]) (rest := []) ⟨hx, hb, hml, hown, hts⟩ (c_X10_signWorth_c l dC dI H.size cq Z gI o to b_6 tb_6 x3 (by omega) x4 (by omega) v fa hR x1.toNatClampNeg ljb_6 ejb_6) (cwV 3 hts gX10_sign_X10_signWorth rfl rfl rfl (by decide +kernel) ⟨(Nat.le_of_ble_eq_true rfl), (Nat.le_of_ble_eq_true rfl)⟩) (pr_V (r := (RX10, TX10, 16)) hP hK hD q_1 10 rfl hq_1) rfl rfl hl.1 rfl (lv_room (Nat.le_of_ble_eq_true rfl)) dX10_sign_145 ⟨(Nat.le_of_ble_eq_true rfl), (Nat.le_of_ble_eq_true rfl)⟩) hS (fun q _ h => hFc q h) hFc (fun r_385 u t H locs ht hvm w_384 hB hz1 hk1 hS => ?_)
                        obtain ⟨S_386, rfl⟩ : ∃ z, z = u := ⟨_, rfl⟩
                        obtain ⟨hP1, hK1, hD1⟩ := hB
                        rw [ht] at hP1
                        have hP : va_P (dC, dI) vwCl (oW cq S_386) H := hP1
                        have hD : va_D A (oW cq S_386) := hD1.weaken (fun _ _ _ h => hFc _ h)
                        clear hP1 hK1 hD1 hk1 hz1 hvm ht hFc
                        obtain ⟨hIS_386, XS_386, hx_387⟩ := w_384
                        have X_388 : oX [1006, 2016, 2107, 2108, 5001] Z S_386 := oX.st oX.rf XS_386 (by decide +kernel)
                        have g_389 : (oI S_386 b_96 6).toInt = (oI Z b_96 6).toInt := by rw [oX.i XS_386 tb_96 (by decide +kernel)]
                        have g_390 : (oI S_386 o 0).toInt = (oI Z o 0).toInt := by rw [oX.i XS_386 to (by decide +kernel)]
                        have g_391 : (oI S_386 o 6).toInt = (oI Z o 6).toInt := by rw [oX.i XS_386 to (by decide +kernel)]
                        have pk_392 : oP S_386 b_96 0 = some amb_96 := by rw [oX.p XS_386 tb_96 (by decide +kernel)]; exact fm3b_96
                        have pk_393 : oP S_386 b_96 1 = some avb_96 := by rw [oX.p XS_386 tb_96 (by decide +kernel)]; exact fv3b_96
                        have hwi := congrArg Int32.toInt hx_387
                        refine lv_if_gt (tgt := 158) hx hb dX10_sign_148 (by decide +kernel) (fun c_394 => ?_) (fun c_394 => ?_)
                        · have dc_394 := c_lt (a := 0) (b := r_385.toInt) (by decide +kernel) rfl c_394
                          refine va_new (ci := 1) (fs := [.null, .null, .int 0, .null, .int 0, .int 0, .int 0, .int 0, .null, .int 0, .int 0, .int 0, .null, .int 0, .null, .null, .int 0, .int 0]) (C := RX1) (T := TX1) (N := 18) hx hb hts in_wsX10_sign_X1 tyX1 tyX1_ok hown (hts (.classLink RX10 21 RX1) iw_X10_sign_2) (hts (.instantiable RX1 18) iw_X10_sign_3) (hts (.initialized RX1) iw_X10_sign_4) hK hP hD hS hA rfl (fun j hj => by rcases (show j = 0 ∨ j = 1 ∨ j = 2 ∨ j = 3 ∨ j = 4 ∨ j = 5 ∨ j = 6 ∨ j = 7 ∨ j = 8 ∨ j = 9 ∨ j = 10 ∨ j = 11 ∨ j = 12 ∨ j = 13 ∨ j = 14 ∨ j = 15 ∨ j = 16 ∨ j = 17 by omega) with rfl | rfl | rfl | rfl | rfl | rfl | rfl | rfl | rfl | rfl | rfl | rfl | rfl | rfl | rfl | rfl | rfl | rfl <;> rfl) (Nat.le_of_ble_eq_true rfl) (Nat.le_of_ble_eq_true rfl) dX10_sign_158 (fun q_395 H hP1 hD1 hS => ?_)
                          have hnq_395 := add_q hD1
                          obtain ⟨S_396, eS_396⟩ : ∃ zq, zq = addO S_386 q_395 31 := ⟨_, rfl⟩
                          have hP : va_P (dC, dI) vwCl (oW cq S_396) H := by rw [eS_396]; exact cP (onew hD1 (by rw [oE_31 add_K, add_I, add_P]; rfl)) hP1
                          have hD : va_D A (oW cq S_396) := by rw [eS_396]; exact cD (onew hD1 (by rw [oE_31 add_K, add_I, add_P]; rfl)) hD1
                          clear hP1 hD1
                          have hIS_396 : oInv S_396 := by rw [eS_396]; exact oInv.add hIS_386 hnq_395 (by decide +kernel)
                          have XS_396 : oX [] S_386 S_396 := by rw [eS_396]; exact oX.add hnq_395
                          have nzq_395 : q_395 ∉ oL Z := oX.nin X_388 hnq_395
                          have pk_397 : oP S_396 b_96 0 = some amb_96 := by rw [eS_396, add_Pn hnq_395 (oX.ty XS_386 tb_96).1]; exact pk_392
                          have pk_398 : oP S_396 b_96 1 = some avb_96 := by rw [eS_396, add_Pn hnq_395 (oX.ty XS_386 tb_96).1]; exact pk_393
                          have g_399 : (oI S_396 b_96 6).toInt = (oI S_386 b_96 6).toInt := by rw [eS_396, add_In hnq_395 (oX.ty XS_386 tb_96).1]
                          have g_400 : (oI S_396 o 0).toInt = (oI S_386 o 0).toInt := by rw [eS_396, add_In hnq_395 (oX.ty XS_386 to).1]
                          have g_401 : (oI S_396 o 6).toInt = (oI S_386 o 6).toInt := by rw [eS_396, add_In hnq_395 (oX.ty XS_386 to).1]
                          have X_402 : oX [1006, 2016, 2107, 2108, 5001] Z S_396 := oX.st X_388 XS_396 (by decide +kernel)
                          have tq_395 : oty S_396 q_395 31 := by rw [eS_396]; exact add_ty
                          refine W.widen (k := 1) (n := 18) (Nat.le_of_ble_eq_true rfl) (Nat.le_of_ble_eq_true rfl) ?_
                          refine lv_dup hx hb dX10_sign_161 rfl ?_
                          refine lv_aload hx hb dX10_sign_162 (lv_at hl 3 rfl) ?_
                          refine lv_aload hx hb dX10_sign_164 (lv_at hl 2 rfl) ?_
                          refine lv_aload_n hx hb dX10_sign_166 rfl (lv_at hl 4 rfl) ?_
                          have t_403 : oty S_396 o 10 := (oX.ty XS_396 (oX.ty XS_386 to))
                          obtain ⟨q_404, hq_404⟩ := og (cq := cq) t_403.1 (oE_10 t_403.2)
                          refine va_get (D := (dC, dI)) (ci := 10) (v := .int (oI S_396 o 0)) (C := RX10) (T := TX10) (N := 16) hx hb hts in_wsX10_sign_X10 hown hK hP q_404 hq_404 rfl 0 (by decide +kernel) (hts (.fieldLink RX10 73 "ShipOffice" "now" "I") iw_X10_sign_5) (fun _ h9 => h9) rfl dX10_sign_167 ?_
                          refine lv_topi (fun x_405 ex_405 => ?_)
                          have hx_405 : 0 ≤ x_405.toInt ∧ x_405.toInt ≤ 3000 := iv_of ex_405 (oInv.iv hIS_396 t_403.2 rfl rfl)
                          have gx_405 : x_405.toInt = (oI S_396 o 0).toInt := iv_to ex_405
                          clear ex_405
                          refine lv_aload hx hb dX10_sign_170 (lv_at hl 1 rfl) ?_
                          have t_406 : oty S_396 b_6 6 := (oX.ty XS_396 (oX.ty XS_386 tb_6))
                          have t_407 : oty S_396 b_66 9 := (oX.ty XS_396 (oX.ty XS_386 tb_66))
                          have t_408 : oty S_396 b_96 1 := (oX.ty XS_396 (oX.ty XS_386 tb_96))
                          have hFc := o_free hD hS hA
                          refine va_callv (va_runI (As := [.ref b_6, .ref b_66, .int x_405, .ref b_96]) (rest := [.ref q_395]) ⟨hx, hb, hml, hown, hts⟩ (c_X1_init_c l dC dI H.size tL tS tG cq S_396 hIS_396 q_395 tq_395 b_6 t_406 b_66 t_407 x_405 (some b_96) (fun b h => by cases h; exact t_408) (fun j => by rw [eS_396, add_I]) (fun j => by rw [eS_396, add_P])) (cwI 4 hts gX10_sign_X1_init rfl rfl rfl (hts (.initialized RX1) iw_X10_sign_4) (hts (.methodLink RX10 220 yX1_init) iw_X10_sign_6) (hts (.instanceMethod yX1_init) iw_X10_sign_7) rfl (by decide +kernel) ⟨(Nat.le_of_ble_eq_true rfl), (Nat.le_of_ble_eq_true rfl)⟩) (pr_SO hP hK hD (hZ.go hS hFc)) rfl rfl hl.1 rfl (lv_room (Nat.le_of_ble_eq_true rfl)) dX10_sign_172 ⟨(Nat.le_of_ble_eq_true rfl), (Nat.le_of_ble_eq_true rfl)⟩) hS (fun q _ h => hFc q h) hFc (fun u t H locs ht hvm w_409 hB hz1 hk1 hS => ?_)
                          obtain ⟨S_411, rfl⟩ : ∃ z, z = u := ⟨_, rfl⟩
                          obtain ⟨hP1, hK1, hD1⟩ := hB
                          rw [ht] at hP1
                          have hP : va_P (dC, dI) vwCl (oW cq S_411) H := hP1
                          have hD : va_D A (oW cq S_411) := hD1.weaken (fun _ _ _ h => hFc _ h)
                          clear hP1 hK1 hD1 hk1 hz1 hvm ht hFc
                          refine W.widen (k := 4) (n := 64) (Nat.le_of_ble_eq_true rfl) (Nat.le_of_ble_eq_true rfl) ?_
                          obtain ⟨hIS_411, XS_411, hx_412⟩ := w_409
                          obtain ⟨hxS_411, hcS_411⟩ := hx_412
                          have X_413 : oX [1006, 2016, 2107, 2108, 5001] Z S_411 := oX.c X_402 XS_411 nzq_395 (by decide +kernel)
                          have g_414 : (oI S_411 b_96 6).toInt = (oI S_396 b_96 6).toInt := by rw [oXc.i XS_411 (ty_ne t_408 tq_395 (by decide +kernel)) t_408 (by decide +kernel)]
                          have g_415 : (oI S_411 o 0).toInt = (oI S_396 o 0).toInt := by rw [oXc.i XS_411 (ty_ne t_403 tq_395 (by decide +kernel)) t_403 (by decide +kernel)]
                          have g_416 : (oI S_411 o 6).toInt = (oI S_396 o 6).toInt := by rw [oXc.i XS_411 (ty_ne t_403 tq_395 (by decide +kernel)) t_403 (by decide +kernel)]
                          have pk_417 : oP S_411 b_96 0 = some amb_96 := by rw [oXc.p XS_411 (ty_ne t_408 tq_395 (by decide +kernel)) t_408 (by decide +kernel)]; exact pk_397
                          have pk_418 : oP S_411 b_96 1 = some avb_96 := by rw [oXc.p XS_411 (ty_ne t_408 tq_395 (by decide +kernel)) t_408 (by decide +kernel)]; exact pk_398
                          have fzS_411 : oX [2108, 5001] Z S_411 := oX.c (W := [2108, 5001]) (oX.st (oX.st oX.rf XS_386 (by decide +kernel)) XS_396 (by decide +kernel)) XS_411 nzq_395 (by decide +kernel)
                          refine lv_astore (lv' := [(10, .ref q_395), (9, .int 1), (8, .ref b_96), (7, .ref b_66), (6, .ref b_6), (0, .ref o), (1, .int x1), (2, .int x2), (3, .int x3), (4, .int x4), (5, .int x5)]) hx hb dX10_sign_175 hl (by decide +kernel) rfl (fun ls hl => ?_)
                          refine lv_aload hx hb dX10_sign_177 (lv_at hl 0 rfl) ?_
                          refine lv_iload_n hx hb dX10_sign_179 rfl (lv_at hl 8 rfl) ?_
                          obtain ⟨q_419, hq_419⟩ := og (cq := cq) hxS_411.1 (oE_1 hxS_411.2)
                          refine va_put (D := (dC, dI)) (ci := 1) (v := .int x3) (ty := .int) (C := RX1) (T := TX1) (N := 18) hx hb hts in_wsX10_sign_X1 tyX1 tyX1_ok nmX1 hown hK hP hD hS q_419 hq_419 rfl 4 (by decide +kernel) (hts (.fieldLink RX10 223 "ShipOffice$Agreement" "wage" "I") iw_X10_sign_8) (fun _ h9 => h9) rfl (by decide +kernel) rfl rfl (Nat.le_of_ble_eq_true rfl) dX10_sign_180 (fun H locs hP1 hD1 hS => ?_)
                          obtain ⟨S_420, eS_420⟩ : ∃ zq, zq = setI S_411 q_395 4 x3 := ⟨_, rfl⟩
                          have hP : va_P (dC, dI) vwCl (oW cq S_420) H := by rw [eS_420]; exact cP (oset hxS_411.1 hq_419 hD rfl (he_1_4 hxS_411.2) neI) hP1
                          have hD : va_D A (oW cq S_420) := by rw [eS_420]; exact cD (oset hxS_411.1 hq_419 hD rfl (he_1_4 hxS_411.2) neI) hD1
                          clear hP1 hD1
                          have hIS_420 : oInv S_420 := by rw [eS_420]; exact oInv.I0 (k := 1) (lo := -2147483648) (hi := 2147483647) hIS_411 hxS_411.2 (by decide +kernel) rfl rfl rfl (iv_all _)
                          have XS_420 : oX [104] S_411 S_420 := by rw [eS_420]; exact oX.I (k := 1) (key := 104) hxS_411.2 rfl (List.mem_singleton.mpr rfl)
                          have pk_421 : oP S_420 b_96 0 = some amb_96 := by rw [eS_420]; exact pk_417
                          have pk_422 : oP S_420 b_96 1 = some avb_96 := by rw [eS_420]; exact pk_418
                          have X_423 : oX [1006, 2016, 2107, 2108, 5001] Z S_420 := by rw [eS_420]; exact oX.In X_413 nzq_395
                          have g_424 : (oI S_420 o 0).toInt = (oI S_411 o 0).toInt := by rw [eS_420, setI_oth (ty_ne (oXc.ty XS_411 (ty_ne t_403 tq_395 (by decide +kernel)) t_403) hxS_411 (by decide +kernel))]
                          have g_425 : (oI S_420 o 6).toInt = (oI S_411 o 6).toInt := by rw [eS_420, setI_oth (ty_ne (oXc.ty XS_411 (ty_ne t_403 tq_395 (by decide +kernel)) t_403) hxS_411 (by decide +kernel))]
                          refine lv_aload hx hb dX10_sign_183 (lv_at hl 0 rfl) ?_
                          refine lv_iload hx hb dX10_sign_185 (lv_at hl 9 rfl) ?_
                          have t_426 : oty S_420 q_395 1 := (oX.ty XS_420 hxS_411)
                          obtain ⟨q_427, hq_427⟩ := og (cq := cq) t_426.1 (oE_1 t_426.2)
                          refine va_put (D := (dC, dI)) (ci := 1) (v := .int x4) (ty := .int) (C := RX1) (T := TX1) (N := 18) hx hb hts in_wsX10_sign_X1 tyX1 tyX1_ok nmX1 hown hK hP hD hS q_427 hq_427 rfl 5 (by decide +kernel) (hts (.fieldLink RX10 226 "ShipOffice$Agreement" "rank" "I") iw_X10_sign_9) (fun _ h9 => h9) rfl (by decide +kernel) rfl rfl (Nat.le_of_ble_eq_true rfl) dX10_sign_187 (fun H locs hP1 hD1 hS => ?_)
                          obtain ⟨S_428, eS_428⟩ : ∃ zq, zq = setI S_420 q_395 5 x4 := ⟨_, rfl⟩
                          have hP : va_P (dC, dI) vwCl (oW cq S_428) H := by rw [eS_428]; exact cP (oset t_426.1 hq_427 hD rfl (he_1_5 t_426.2) neI) hP1
                          have hD : va_D A (oW cq S_428) := by rw [eS_428]; exact cD (oset t_426.1 hq_427 hD rfl (he_1_5 t_426.2) neI) hD1
                          clear hP1 hD1
                          have hIS_428 : oInv S_428 := by rw [eS_428]; exact oInv.I0 (k := 1) (lo := -2147483648) (hi := 2147483647) hIS_420 t_426.2 (by decide +kernel) rfl rfl rfl (iv_all _)
                          have XS_428 : oX [105] S_420 S_428 := by rw [eS_428]; exact oX.I (k := 1) (key := 105) t_426.2 rfl (List.mem_singleton.mpr rfl)
                          have pk_429 : oP S_428 b_96 0 = some amb_96 := by rw [eS_428]; exact pk_421
                          have pk_430 : oP S_428 b_96 1 = some avb_96 := by rw [eS_428]; exact pk_422
                          have X_431 : oX [1006, 2016, 2107, 2108, 5001] Z S_428 := by rw [eS_428]; exact oX.In X_423 nzq_395
                          have g_432 : (oI S_428 o 0).toInt = (oI S_420 o 0).toInt := by rw [eS_428, setI_oth (ty_ne (oX.ty XS_420 (oXc.ty XS_411 (ty_ne t_403 tq_395 (by decide +kernel)) t_403)) t_426 (by decide +kernel))]
                          have g_433 : (oI S_428 o 6).toInt = (oI S_420 o 6).toInt := by rw [eS_428, setI_oth (ty_ne (oX.ty XS_420 (oXc.ty XS_411 (ty_ne t_403 tq_395 (by decide +kernel)) t_403)) t_426 (by decide +kernel))]
                          refine lv_aload_n hx hb dX10_sign_190 rfl (lv_at hl 5 rfl) ?_
                          have t_434 : oty S_428 o 10 := (oX.ty XS_428 (oX.ty XS_420 (oXc.ty XS_411 (ty_ne t_403 tq_395 (by decide +kernel)) t_403)))
                          obtain ⟨q_435, hq_435⟩ := og (cq := cq) t_434.1 (oE_10 t_434.2)
                          obtain ⟨b_436, hb_436⟩ := oInv.nn (i := 5) hIS_428 t_434 rfl
                          refine va_get (D := (dC, dI)) (ci := 10) (v := .ref b_436) (C := RX10) (T := TX10) (N := 16) hx hb hts in_wsX10_sign_X10 hown hK hP q_435 hq_435 rfl 5 (by decide +kernel) (hts (.fieldLink RX10 23 "ShipOffice" "agreements" "[LShipOffice$Agreement;") iw_X10_sign_10) (fun _ h9 => h9) (o_rd hb_436) dX10_sign_191 ?_
                          have tb_436 : oty S_428 b_436 16 := oInv.rd hIS_428 t_434.2 hb_436 rfl rfl
                          refine lv_aload_n hx hb dX10_sign_194 rfl (lv_at hl 5 rfl) ?_
                          refine va_get (D := (dC, dI)) (ci := 10) (v := .int (oI S_428 o 6)) (C := RX10) (T := TX10) (N := 16) hx hb hts in_wsX10_sign_X10 hown hK hP q_435 hq_435 rfl 6 (by decide +kernel) (hts (.fieldLink RX10 115 "ShipOffice" "agreementCount" "I") iw_X10_sign_1) (fun _ h9 => h9) rfl dX10_sign_195 ?_
                          refine lv_topi (fun x_437 ex_437 => ?_)
                          have hx_437 : 0 ≤ x_437.toInt ∧ x_437.toInt ≤ 61 := iv_of ex_437 (by omega)
                          have gx_437 : x_437.toInt = (oI S_428 o 6).toInt := iv_to ex_437
                          clear ex_437
                          refine lv_aload hx hb dX10_sign_198 (lv_at hl 0 rfl) ?_
                          obtain ⟨q_438, hq_438⟩ := og (cq := cq) tb_436.1 (oE_16 tb_436.2)
                          have t_439 : oty S_428 q_395 1 := (oX.ty XS_428 t_426)
                          obtain ⟨q_440, hq_440⟩ := og (cq := cq) t_439.1 (oE_1 t_439.2)
                          refine va_astq (r := (RX1, TX1, 18)) hx hb hK hP hD hS q_438 5 q_440 1 hq_438 rfl hq_440 rfl (vp_in_iff.mpr (by omega)) dX10_sign_200 (fun H locs hP1 hD1 hS => ?_)
                          obtain ⟨S_441, eS_441⟩ : ∃ zq, zq = setP S_428 b_436 (x_437 : Int32).toNatClampNeg (some q_395) := ⟨_, rfl⟩
                          have hP : va_P (dC, dI) vwCl (oW cq S_441) H := by rw [eS_441]; exact cP (oset tb_436.1 hq_438 hD rfl (he_16 tb_436.2) neP) hP1
                          have hD : va_D A (oW cq S_441) := by rw [eS_441]; exact cD (oset tb_436.1 hq_438 hD rfl (he_16 tb_436.2) neP) hD1
                          clear hP1 hD1
                          have hIS_441 : oInv S_441 := by rw [eS_441]; exact oInv.P (k := 16) hIS_428 tb_436.2 (by decide +kernel) rfl (fun h => absurd h.1 (by decide +kernel)) t_439 (show 1 ≤ 1 ∧ 1 ≤ 1 from ⟨Nat.le_refl _, Nat.le_refl _⟩)
                          have XS_441 : oX [2016] S_428 S_441 := by rw [eS_441]; exact oX.P (k := 16) (key := 2016) tb_436.2 rfl (List.mem_singleton.mpr rfl)
                          have pk_442 : oP S_441 b_96 0 = some amb_96 := by rw [eS_441, setP_oth (ty_ne (oX.ty XS_428 (oX.ty XS_420 (oXc.ty XS_411 (ty_ne t_408 tq_395 (by decide +kernel)) t_408))) tb_436 (by decide +kernel))]; exact pk_429
                          have pk_443 : oP S_441 b_96 1 = some avb_96 := by rw [eS_441, setP_oth (ty_ne (oX.ty XS_428 (oX.ty XS_420 (oXc.ty XS_411 (ty_ne t_408 tq_395 (by decide +kernel)) t_408))) tb_436 (by decide +kernel))]; exact pk_430
                          have X_444 : oX [1006, 2016, 2107, 2108, 5001] Z S_441 := oX.st X_431 XS_441 (by decide +kernel)
                          have g_445 : (oI S_441 o 0).toInt = (oI S_428 o 0).toInt := by rw [eS_441]; rfl
                          have g_446 : (oI S_441 o 6).toInt = (oI S_428 o 6).toInt := by rw [eS_441]; rfl
                          have helS_441 : oP S_441 b_436 (x_437 : Int32).toNatClampNeg = some q_395 := by rw [eS_441, setP_same]
                          have hsrS_441 : oP S_441 o 5 = some b_436 := by rw [eS_441, setP_oth (ty_ne t_434 tb_436 (by decide +kernel))]; exact hb_436
                          refine lv_aload_n hx hb dX10_sign_201 rfl (lv_at hl 5 rfl) ?_
                          refine lv_dup hx hb dX10_sign_202 rfl ?_
                          have t_447 : oty S_441 o 10 := (oX.ty XS_441 t_434)
                          obtain ⟨q_448, hq_448⟩ := og (cq := cq) t_447.1 (oE_10 t_447.2)
                          refine va_get (D := (dC, dI)) (ci := 10) (v := .int (oI S_441 o 6)) (C := RX10) (T := TX10) (N := 16) hx hb hts in_wsX10_sign_X10 hown hK hP q_448 hq_448 rfl 6 (by decide +kernel) (hts (.fieldLink RX10 115 "ShipOffice" "agreementCount" "I") iw_X10_sign_1) (fun _ h9 => h9) rfl dX10_sign_203 ?_
                          refine lv_topi (fun x_449 ex_449 => ?_)
                          have hx_449 : 0 ≤ x_449.toInt ∧ x_449.toInt ≤ 61 := iv_of ex_449 (by omega)
                          have gx_449 : x_449.toInt = (oI S_441 o 6).toInt := iv_to ex_449
                          clear ex_449
                          refine lv_iconst (v := 1) hx hb dX10_sign_206 (by decide +kernel) ?_
                          refine lv_iadd hx hb dX10_sign_207 ?_
                          refine lv_topi (fun x_450 ex_450 => ?_)
                          have hx_450 : x_450.toInt = x_449.toInt + 1 := (iv_to ex_450).trans (ad_i rfl (by decide +kernel) (by omega) (by omega))
                          clear ex_450
                          refine va_put (D := (dC, dI)) (ci := 10) (v := .int x_450) (ty := .int) (C := RX10) (T := TX10) (N := 16) hx hb hts in_wsX10_sign_X10 tyX10 tyX10_ok nmX10 hown hK hP hD hS q_448 hq_448 rfl 6 (by decide +kernel) (hts (.fieldLink RX10 115 "ShipOffice" "agreementCount" "I") iw_X10_sign_1) (fun _ h9 => h9) rfl (by decide +kernel) rfl rfl (Nat.le_of_ble_eq_true rfl) dX10_sign_208 (fun H locs hP1 hD1 hS => ?_)
                          obtain ⟨S_451, eS_451⟩ : ∃ zq, zq = setI S_441 o 6 x_450 := ⟨_, rfl⟩
                          have hP : va_P (dC, dI) vwCl (oW cq S_451) H := by rw [eS_451]; exact cP (oset t_447.1 hq_448 hD rfl (he_10_6 t_447.2) neI) hP1
                          have hD : va_D A (oW cq S_451) := by rw [eS_451]; exact cD (oset t_447.1 hq_448 hD rfl (he_10_6 t_447.2) neI) hD1
                          clear hP1 hD1
                          have hIS_451 : oInv S_451 := by rw [eS_451]; exact oInv.I (k := 10) (lo := 0) (hi := 60) hIS_441 t_447.2 (by decide +kernel) rfl rfl (by omega) (inv_cnt hIS_441 t_447 rfl hsrS_441 (by omega) (by omega) ⟨_, by rw [← cnt_at (x := x_437) (S := S_441) (a := o) (i := 6) (by omega)]; exact helS_441⟩)
                          have XS_451 : oX [1006] S_441 S_451 := by rw [eS_451]; exact oX.I (k := 10) (key := 1006) t_447.2 rfl (List.mem_singleton.mpr rfl)
                          have pk_452 : oP S_451 b_96 0 = some amb_96 := by rw [eS_451]; exact pk_442
                          have pk_453 : oP S_451 b_96 1 = some avb_96 := by rw [eS_451]; exact pk_443
                          have X_454 : oX [1006, 2016, 2107, 2108, 5001] Z S_451 := oX.st X_444 XS_451 (by decide +kernel)
                          have g_455 : (oI S_451 o 0).toInt = (oI S_441 o 0).toInt := by rw [eS_451, setI_ne (by decide +kernel)]
                          have g_456 : (oI S_451 o 6).toInt = x_450.toInt := by rw [eS_451, setI_same]
                          refine lv_aload_n hx hb dX10_sign_211 rfl (lv_at hl 5 rfl) ?_
                          have t_457 : oty S_451 o 10 := (oX.ty XS_451 t_447)
                          obtain ⟨q_458, hq_458⟩ := og (cq := cq) t_457.1 (oE_10 t_457.2)
                          refine va_get (D := (dC, dI)) (ci := 10) (v := .int (oI S_451 o 6)) (C := RX10) (T := TX10) (N := 16) hx hb hts in_wsX10_sign_X10 hown hK hP q_458 hq_458 rfl 6 (by decide +kernel) (hts (.fieldLink RX10 115 "ShipOffice" "agreementCount" "I") iw_X10_sign_1) (fun _ h9 => h9) rfl dX10_sign_212 ?_
                          refine lv_topi (fun x_459 ex_459 => ?_)
                          have hx_459 : 0 ≤ x_459.toInt ∧ x_459.toInt ≤ 61 := iv_of ex_459 (by omega)
                          have gx_459 : x_459.toInt = (oI S_451 o 6).toInt := iv_to ex_459
                          clear ex_459
                          refine lv_iconst (v := 1) hx hb dX10_sign_215 (by decide +kernel) ?_
                          refine lv_isub hx hb dX10_sign_216 ?_
                          refine lv_topi (fun x_460 ex_460 => ?_)
                          have hx_460 : x_460.toInt = x_459.toInt - 1 := (iv_to ex_460).trans (sb_i rfl (by decide +kernel) (by omega) (by omega))
                          clear ex_460
                          exact W.iret (v := x_460) hx hb hr (fun t ht hW => ⟨⟨x_460, S_451, rfl, ⟨hIS_451, X_454, ⟨by have kc0 : (0 : Int32).toInt = 0 := (by decide +kernel); have kc1 : (1 : Int32).toInt = 1 := (by decide +kernel); have kc2 : (2 : Int32).toInt = 2 := (by decide +kernel); have htk := hx_352; unfold tkI at htk; simp only [tn_i (x := x2) (show 0 ≤ x2.toInt by omega)] at htk; have hfr := hx_369; rw [tn_i (x := x1) (show 0 ≤ x1.toInt by omega)] at hfr; exact Or.inr (Or.inr (Or.inr (Or.inr ⟨(by first | assumption | (unfold sgK; omega)), by omega, by omega, by unfold sgY; (repeat (split at htk)) <;> omega, by omega, by omega⟩))), Or.inr ⟨by omega, q_395, S_411, x_450, nzq_395, fzS_411, hxS_411, (by obtain ⟨h0, h1, h2, h3, h4, h5, h6, h7, h8, h9, h10, h11, h12, h13, h14, h15, h16, h17⟩ := hcS_411; exact ⟨h0.trans (congrArg some ejb_6), h1.trans (congrArg some ejb_66), h2.trans (Int32.toInt_inj.mp (by omega)), h3.trans (by unfold shO; rw [if_neg (by omega), ← ejb_96]), h6, h7, h8, h9, h10, h11, ex_nin (W := [2108, 5001]) (oX.st (oX.st oX.rf XS_386 (by decide +kernel)) XS_396 (by decide +kernel)) h12, h13, ex_nin (W := [2108, 5001]) (oX.st (oX.st oX.rf XS_386 (by decide +kernel)) XS_396 (by decide +kernel)) h14, ex_nin (W := [2108, 5001]) (oX.st (oX.st oX.rf XS_386 (by decide +kernel)) XS_396 (by decide +kernel)) h15, h16, h17⟩), by omega, by rw [eS_451, eS_441, eS_428, eS_420, oQ_e ((oX.p (W := [104, 105, 2108, 5001]) (oX.st (oX.st (oX.c (oX.st (oX.st oX.rf XS_386 (by decide +kernel)) XS_396 (by decide +kernel)) XS_411 nzq_395 (by decide +kernel)) XS_420 (by decide +kernel)) XS_428 (by decide +kernel)) to (by decide +kernel)).symm.trans hb_436), (show x_437 = oI Z o 6 from Int32.toInt_inj.mp (by omega))]⟩⟩⟩, ⟨by rw [ht]; exact hP, va_K.moved hW.alike hK, hD⟩⟩, hS.F ht⟩) hS.2.2 dX10_sign_217
                        · have dc_394 := c_nlt (a := 0) (b := r_385.toInt) (by decide +kernel) rfl c_394
                          refine lv_aload_n hx hb dX10_sign_151 rfl (lv_at hl 4 rfl) ?_
                          refine lv_bipush (v := (-3)) hx hb dX10_sign_152 (by decide +kernel) ?_
                          have t_461 : oty S_386 o 10 := (oX.ty XS_386 to)
                          have hFc := o_free hD hS hA
                          obtain ⟨q_462, hq_462⟩ := og (cq := cq) t_461.1 (oE_10 t_461.2)
                          refine va_calli (va_runV (As := [.int (-3)]) (rest := []) ⟨hx, hb, hml, hown, hts⟩ (c_X10_refuse_c l dC dI H.size cq S_386 hIS_386 o t_461 (-3) (by decide +kernel)) (cwV 1 hts gX10_sign_X10_refuse rfl rfl rfl (by decide +kernel) ⟨(Nat.le_of_ble_eq_true rfl), (Nat.le_of_ble_eq_true rfl)⟩) (pr_V (r := (RX10, TX10, 16)) hP hK hD q_462 10 rfl hq_462) rfl rfl hl.1 rfl (lv_room (Nat.le_of_ble_eq_true rfl)) dX10_sign_154 ⟨(Nat.le_of_ble_eq_true rfl), (Nat.le_of_ble_eq_true rfl)⟩) hS (fun q _ h => hFc q h) hFc (fun r_464 u t H locs ht hvm w_463 hB hz1 hk1 hS => ?_)
                          obtain ⟨S_465, rfl⟩ : ∃ z, z = u := ⟨_, rfl⟩
                          obtain ⟨hP1, hK1, hD1⟩ := hB
                          rw [ht] at hP1
                          have hP : va_P (dC, dI) vwCl (oW cq S_465) H := hP1
                          have hD : va_D A (oW cq S_465) := hD1.weaken (fun _ _ _ h => hFc _ h)
                          clear hP1 hK1 hD1 hk1 hz1 hvm ht hFc
                          obtain ⟨hIS_465, XS_465, hb_466, hx_467⟩ := w_463
                          have X_468 : oX [1006, 2016, 2107, 2108, 5001] Z S_465 := oX.st X_388 XS_465 (by decide +kernel)
                          have g_469 : (oI S_465 b_96 6).toInt = (oI S_386 b_96 6).toInt := by rw [oX.i XS_465 (oX.ty XS_386 tb_96) (by decide +kernel)]
                          have g_470 : (oI S_465 o 0).toInt = (oI S_386 o 0).toInt := by rw [oX.i XS_465 t_461 (by decide +kernel)]
                          have g_471 : (oI S_465 o 6).toInt = (oI S_386 o 6).toInt := by rw [oX.i XS_465 t_461 (by decide +kernel)]
                          have pk_472 : oP S_465 b_96 0 = some amb_96 := by rw [oX.p XS_465 (oX.ty XS_386 tb_96) (by decide +kernel)]; exact pk_392
                          have pk_473 : oP S_465 b_96 1 = some avb_96 := by rw [oX.p XS_465 (oX.ty XS_386 tb_96) (by decide +kernel)]; exact pk_393
                          have rf_474 : r_464.toInt = -3 := by rw [hx_467.1]; decide
                          refine W.widen (k := 4) (n := 64) (Nat.le_of_ble_eq_true rfl) (Nat.le_of_ble_eq_true rfl) ?_
                          exact W.iret (v := r_464) hx hb hr (fun t ht hW => ⟨⟨r_464, S_465, rfl, ⟨hIS_465, X_468, ⟨by have kc0 : (0 : Int32).toInt = 0 := (by decide +kernel); have kc1 : (1 : Int32).toInt = 1 := (by decide +kernel); have kc2 : (2 : Int32).toInt = 2 := (by decide +kernel); have htk := hx_352; unfold tkI at htk; simp only [tn_i (x := x2) (show 0 ≤ x2.toInt by omega)] at htk; have hfr := hx_369; rw [tn_i (x := x1) (show 0 ≤ x1.toInt by omega)] at hfr; exact Or.inr (Or.inr (Or.inr (Or.inl ⟨(by first | assumption | (unfold sgK; omega)), by omega, by omega, by first | exact Or.inr (by omega) | exact Or.inl (by unfold sgY; (repeat (split at htk)) <;> omega), by omega⟩))), Or.inl ⟨by omega, S_386, hIS_386, (oX.st oX.rf XS_386 (by decide +kernel)), by rw [hx_467.1]; exact hx_467.2⟩⟩⟩, ⟨by rw [ht]; exact hP, va_K.moved hW.alike hK, hD⟩⟩, hS.F ht⟩) hS.2.2 dX10_sign_157
                · have dc_296 := c_nlt (a := x_295.toInt) (b := 60) rfl (by decide +kernel) c_296
                  refine lv_aload_n hx hb dX10_sign_88 rfl (lv_at hl 3 rfl) ?_
                  refine lv_bipush (v := (-6)) hx hb dX10_sign_89 (by decide +kernel) ?_
                  have hFc := o_free hD hS hA
                  refine va_calli (va_runV (As := [.int (-6)]) (rest := []) ⟨hx, hb, hml, hown, hts⟩ (c_X10_refuse_c l dC dI H.size cq Z gI o to (-6) (by decide +kernel)) (cwV 1 hts gX10_sign_X10_refuse rfl rfl rfl (by decide +kernel) ⟨(Nat.le_of_ble_eq_true rfl), (Nat.le_of_ble_eq_true rfl)⟩) (pr_V (r := (RX10, TX10, 16)) hP hK hD q_1 10 rfl hq_1) rfl rfl hl.1 rfl (lv_room (Nat.le_of_ble_eq_true rfl)) dX10_sign_91 ⟨(Nat.le_of_ble_eq_true rfl), (Nat.le_of_ble_eq_true rfl)⟩) hS (fun q _ h => hFc q h) hFc (fun r_476 u t H locs ht hvm w_475 hB hz1 hk1 hS => ?_)
                  obtain ⟨S_477, rfl⟩ : ∃ z, z = u := ⟨_, rfl⟩
                  obtain ⟨hP1, hK1, hD1⟩ := hB
                  rw [ht] at hP1
                  have hP : va_P (dC, dI) vwCl (oW cq S_477) H := hP1
                  have hD : va_D A (oW cq S_477) := hD1.weaken (fun _ _ _ h => hFc _ h)
                  clear hP1 hK1 hD1 hk1 hz1 hvm ht hFc
                  obtain ⟨hIS_477, XS_477, hb_478, hx_479⟩ := w_475
                  have X_480 : oX [1006, 2016, 2107, 2108, 5001] Z S_477 := oX.st oX.rf XS_477 (by decide +kernel)
                  have g_481 : (oI S_477 o 0).toInt = (oI Z o 0).toInt := by rw [oX.i XS_477 to (by decide +kernel)]
                  have g_482 : (oI S_477 o 6).toInt = (oI Z o 6).toInt := by rw [oX.i XS_477 to (by decide +kernel)]
                  have pk_483 : oP S_477 b_96 0 = some amb_96 := by rw [oX.p XS_477 tb_96 (by decide +kernel)]; exact fm3b_96
                  have pk_484 : oP S_477 b_96 1 = some avb_96 := by rw [oX.p XS_477 tb_96 (by decide +kernel)]; exact fv3b_96
                  have rf_485 : r_476.toInt = -6 := by rw [hx_479.1]; decide
                  refine W.widen (k := 4) (n := 64) (Nat.le_of_ble_eq_true rfl) (Nat.le_of_ble_eq_true rfl) ?_
                  exact W.iret (v := r_476) hx hb hr (fun t ht hW => ⟨⟨r_476, S_477, rfl, ⟨hIS_477, X_480, ⟨by have kc0 : (0 : Int32).toInt = 0 := (by decide +kernel); have kc1 : (1 : Int32).toInt = 1 := (by decide +kernel); have kc2 : (2 : Int32).toInt = 2 := (by decide +kernel); exact Or.inr (Or.inr (Or.inl ⟨(by first | assumption | (unfold sgK; omega)), by omega, by omega, by omega⟩)), Or.inl ⟨by omega, Z, gI, oX.rf, by rw [hx_479.1]; exact hx_479.2⟩⟩⟩, ⟨by rw [ht]; exact hP, va_K.moved hW.alike hK, hD⟩⟩, hS.F ht⟩) hS.2.2 dX10_sign_94
          · have dc_270 := c_nle (a := 0) (b := x4.toInt) (by decide +kernel) rfl c_270
            refine lv_aload_n hx hb dX10_sign_59 rfl (lv_at hl 3 rfl) ?_
            refine lv_bipush (v := (-4)) hx hb dX10_sign_60 (by decide +kernel) ?_
            have hFc := o_free hD hS hA
            refine va_calli (va_runV (As := [.int (-4)]) (rest := []) ⟨hx, hb, hml, hown, hts⟩ (c_X10_refuse_c l dC dI H.size cq Z gI o to (-4) (by decide +kernel)) (cwV 1 hts gX10_sign_X10_refuse rfl rfl rfl (by decide +kernel) ⟨(Nat.le_of_ble_eq_true rfl), (Nat.le_of_ble_eq_true rfl)⟩) (pr_V (r := (RX10, TX10, 16)) hP hK hD q_1 10 rfl hq_1) rfl rfl hl.1 rfl (lv_room (Nat.le_of_ble_eq_true rfl)) dX10_sign_62 ⟨(Nat.le_of_ble_eq_true rfl), (Nat.le_of_ble_eq_true rfl)⟩) hS (fun q _ h => hFc q h) hFc (fun r_487 u t H locs ht hvm w_486 hB hz1 hk1 hS => ?_)
            obtain ⟨S_488, rfl⟩ : ∃ z, z = u := ⟨_, rfl⟩
            obtain ⟨hP1, hK1, hD1⟩ := hB
            rw [ht] at hP1
            have hP : va_P (dC, dI) vwCl (oW cq S_488) H := hP1
            have hD : va_D A (oW cq S_488) := hD1.weaken (fun _ _ _ h => hFc _ h)
            clear hP1 hK1 hD1 hk1 hz1 hvm ht hFc
            obtain ⟨hIS_488, XS_488, hb_489, hx_490⟩ := w_486
            have X_491 : oX [1006, 2016, 2107, 2108, 5001] Z S_488 := oX.st oX.rf XS_488 (by decide +kernel)
            have g_492 : (oI S_488 o 0).toInt = (oI Z o 0).toInt := by rw [oX.i XS_488 to (by decide +kernel)]
            have g_493 : (oI S_488 o 6).toInt = (oI Z o 6).toInt := by rw [oX.i XS_488 to (by decide +kernel)]
            have pk_494 : oP S_488 b_96 0 = some amb_96 := by rw [oX.p XS_488 tb_96 (by decide +kernel)]; exact fm3b_96
            have pk_495 : oP S_488 b_96 1 = some avb_96 := by rw [oX.p XS_488 tb_96 (by decide +kernel)]; exact fv3b_96
            have rf_496 : r_487.toInt = -4 := by rw [hx_490.1]; decide
            refine W.widen (k := 4) (n := 64) (Nat.le_of_ble_eq_true rfl) (Nat.le_of_ble_eq_true rfl) ?_
            exact W.iret (v := r_487) hx hb hr (fun t ht hW => ⟨⟨r_487, S_488, rfl, ⟨hIS_488, X_491, ⟨by have kc0 : (0 : Int32).toInt = 0 := (by decide +kernel); have kc1 : (1 : Int32).toInt = 1 := (by decide +kernel); have kc2 : (2 : Int32).toInt = 2 := (by decide +kernel); exact Or.inr (Or.inl ⟨(by first | assumption | (unfold sgK; omega)), by omega, by omega⟩), Or.inl ⟨by omega, Z, gI, oX.rf, by rw [hx_490.1]; exact hx_490.2⟩⟩⟩, ⟨by rw [ht]; exact hP, va_K.moved hW.alike hK, hD⟩⟩, hS.F ht⟩) hS.2.2 dX10_sign_65
