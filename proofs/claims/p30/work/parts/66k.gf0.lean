

/-- DAYS since a voyage was HEARD of -/
def ulF (v : Nat → Int32) (fa : Nat → Nat → Int32) (x d k : Int) : Int := if lhO v fa x d k < 0 then 0 else d - lhO v fa x d k
def ltP (w r y d n s l x : Int32) : Nat → Int32 := fun c => if c = 119 then w else if c = 114 then r else if c = 97 then y else if c = 100 then d else if c = 110 then n else if c = 115 then s else if c = 108 then l else if c = 120 then x else 0
/-- the letters for an agreement, a day, what is known, a sum, a fine read or not -/
noncomputable def lP (v : Nat → Int32) (fa : Nat → Nat → Int32) (a : Nat) (d : Int32) (k : Int) (s x : Int32) : Nat → Int32 := ltP (fa 22 a) (fa 23 a) ((d - fa 4 (fa 20 a).toNatClampNeg) / 365) (Int32.ofInt (dnF v fa a d.toInt k)) (Int32.ofInt (abF v fa (fa 21 a).toInt d.toInt k)) s (Int32.ofInt (ulF v fa (fa 21 a).toInt d.toInt k)) x
theorem of_i {y : Int32} {n : Int} (h : y.toInt = n) : y = Int32.ofInt n := by
  rw [← h]
  exact (Int32.ofInt_toInt y).symm
theorem eqL_p {f f0 : Nat → Int32} {w r y d n s l x : Int32} (e : f = upd (upd (upd (upd (upd (upd (upd (upd f0 119 w) 114 r) 97 y) 100 d) 110 n) 115 s) 108 l) 120 x) : eqL f (ltP w r y d n s l x) := by
  subst e
  exact ⟨rfl, rfl, rfl, rfl, rfl, rfl, rfl, rfl⟩
theorem ltP_c {w w1 r r1 y y1 d d1 n n1 s s1 l l1 x x1 : Int32} (a1 : w = w1) (a2 : r = r1) (a3 : y = y1) (a4 : d = d1) (a5 : n = n1) (a6 : s = s1) (a7 : l = l1) (a8 : x = x1) : ltP w r y d n s l x = ltP w1 r1 y1 d1 n1 s1 l1 x1 := by
  subst a1 a2 a3 a4 a5 a6 a7 a8
  rfl
theorem abF_b {v : Nat → Int32} {fa : Nat → Nat → Int32} {x d k : Int} (hV : mV v) : 0 ≤ abF v fa x d k ∧ abF v fa x d k ≤ 60 := by
  have h : ∀ n, 0 ≤ smN (fun a => if (fa 21 a).toInt = x ∧ stF v fa a d k = 1 then 1 else 0) n ∧ smN (fun a => if (fa 21 a).toInt = x ∧ stF v fa a d k = 1 then 1 else 0) n ≤ n := by
    intro n
    induction n with
    | zero => exact ⟨Int.le_refl _, Int.le_refl _⟩
    | succ n ih =>
      rw [smN_s]
      split <;> omega
  have := h (v 43).toNatClampNeg
  have e : (v 43).toNatClampNeg = (v 43).toInt.toNat := rfl
  have b : 0 ≤ (v 43).toInt ∧ (v 43).toInt ≤ 60 := hV 43
  unfold abF
  omega
set_option maxHeartbeats 4000000 in
set_option maxRecDepth 100000 in
theorem c_X11_puts_f (l : Launch) (dC : Nat → ClassId) (dI : Nat → Nat → Nat) (sz : Nat) (g0 : Nat) (pq : Nat → Nat) (cp : Nat → ClassId) (v : Nat → Int32) (fa : Nat → Nat → Int32) (gV : mV v) (gA : mA fa) (x1 : Int32) (hx1 : 0 ≤ x1.toInt ∧ x1.toInt ≤ 59) (x2 : Int32) (hx2 : 0 ≤ x2.toInt ∧ x2.toInt ≤ 3000) (x3 : Int32) (x4 : Int32) (x5 : Int32) (hWl : wlA v fa) : Met l yX11_puts wsX11_puts ({ frames := 24, cells := 0, slots := 0, locals := 558 }) (va_Pc [.ref g0, .int x1, .int x2, .int x3, .int x4, .int x5] (pcW (dC, dI) (mT cp) (mW g0 pq cp v fa) sz)) (va_Qv (fun (u : (Nat → Int32) × (Nat → Nat → Int32)) => mV u.1 ∧ mA u.2 ∧ scr v fa u.1 u.2 ∧ (eqL (u.2 45) (lP v fa x1.toNatClampNeg x2 x3.toInt x4 (if x5 = 0 then 0 else 1)))) (fun u t => va_P (dC, dI) vwCl (mW g0 pq cp u.1 u.2) t.heap ∧ va_K (dC, dI) vwCl (mT cp) t ∧ va_D (va_A (mW g0 pq cp v fa) sz) (mW g0 pq cp u.1 u.2)) (va_A (mW g0 pq cp v fa) sz)) 0 0 (va_A (mW g0 pq cp v fa) sz) := by
  refine Met.ofW (cc := cX11_puts) (maxL := 9) (ret := none) (by decide) rfl ?_
  intro p e s m args below meth c s₁ B hml hv
  obtain ⟨rfl, hsz, hP, hK, hD0⟩ := hv
  have hx := B.exec
  have hb := B.bytes
  have hr := B.returns
  have hts := atoms_spec (ws := wsX11_puts) B.pre
  have hown : s.vm.findClass RX11 = some m.cls := findClass_of_methodNamed B.named
  have hlocks := B.notSynchronized
  subst hsz
  have hD := hD0.self (sz := s.heap.size)
  generalize hAe : va_A (mW g0 pq cp v fa) s.heap.size = A at hD ⊢
  have hA : ∀ q : Nat, s.heap.size ≤ q → A q := fun q h => by rw [← hAe]; exact Or.inr h
  have hS : va_S A s.heap s.heap [] := va_S.rf
  have hP : va_P (dC, dI) vwCl (mW g0 pq cp v fa) s.heap := hP
  have hl := lv_entry ([.ref g0, .int x1, .int x2, .int x3, .int x4, .int x5]) (n := 9) (Nat.le_of_ble_eq_true rfl)
  rw [lg_entry_eq]
  generalize (lg_sl ([.ref g0, .int x1, .int x2, .int x3, .int x4, .int x5]) ++ List.replicate (9 - (lg_sl ([.ref g0, .int x1, .int x2, .int x3, .int x4, .int x5])).length) Slot.unset).toArray = ls at hl ⊢
  have hl : lv_has ls 9 [(0, .ref g0), (1, .int x1), (2, .int x2), (3, .int x3), (4, .int x4), (5, .int x5)] := hl
  refine lv_iconst (v := 0) hx hb dX11_puts_0 (by decide) ?_
  refine lv_istore (lv' := [(6, .int 0), (0, .ref g0), (1, .int x1), (2, .int x2), (3, .int x3), (4, .int x4), (5, .int x5)]) hx hb dX11_puts_1 hl (by decide) rfl (fun ls hl => ?_)
  refine lv_aload_n hx hb dX11_puts_3 rfl (lv_at hl 1 rfl) ?_
  refine va_get (D := (dC, dI)) (ci := 11) (v := .ref (pq 25)) (C := RX11) (T := TX11) (N := 63) hx hb hts in_wsX11_puts_X11 hown hK hP 0 rfl rfl 25 (by decide) (hts (.fieldLink RX11 85 "ShipOfficeModel" "signed" "[I") iw_X11_puts_1) (fun _ h9 => h9) rfl dX11_puts_4 ?_
  refine lv_iload_n hx hb dX11_puts_7 rfl (lv_at hl 2 rfl) ?_
  refine va_iald hx hb hK hP 26 25 rfl rfl (vp_in_iff.mpr (by omega)) dX11_puts_8 ?_
  refine lv_topi (fun x_1 ex_1 => ?_)
  have hx_1 : 0 ≤ x_1.toInt ∧ x_1.toInt ≤ 3000 := iv_of ex_1 (gA 25 _)
  have gx_1 : x_1.toInt = (fa 25 (x1 : Int32).toNatClampNeg).toInt := iv_to ex_1
  clear ex_1
  refine lv_istore (lv' := [(7, .int x_1), (6, .int 0), (0, .ref g0), (1, .int x1), (2, .int x2), (3, .int x3), (4, .int x4), (5, .int x5)]) hx hb dX11_puts_9 hl (by decide) rfl (fun ls hl => ?_)
  have cut_2 : ∀ (n : Nat) (y_3 : Int32) (y_4 : Int32) (z_5 : Nat → Int32) (fz_6 : Nat → Nat → Int32) (H : Heap) (locs : List Loc) (ls : Array Slot), 3001 - y_3.toInt ≤ (n : Int) → (0 ≤ y_3.toInt ∧ y_3.toInt ≤ 3001) → (0 ≤ y_4.toInt ∧ y_4.toInt ≤ 3001) → ((fa 25 x1.toNatClampNeg).toInt ≤ y_3.toInt ∧ (y_3.toInt = (fa 25 x1.toNatClampNeg).toInt ∨ y_3.toInt ≤ x2.toInt + 1) ∧ y_4.toInt ≤ y_3.toInt) → y_4.toInt = cDy (abG v fa x1.toNatClampNeg x3.toInt) (fa 25 x1.toNatClampNeg).toInt (y_3.toInt - (fa 25 x1.toNatClampNeg).toInt).toNat → mV z_5 → mA fz_6 → scr v fa z_5 fz_6 → va_P (dC, dI) vwCl (mW g0 pq cp z_5 fz_6) H → va_D A (mW g0 pq cp z_5 fz_6) → va_S A s.heap H locs → lv_has ls 9 [(7, .int y_3), (6, .int y_4), (0, .ref g0), (1, .int x1), (2, .int x2), (3, .int x3), (4, .int x4), (5, .int x5)] → W p l e (headSpec wsX11_puts { frames := 24, cells := 0, slots := 0, locals := 558 }).room s m #[Value.ref g0, Value.int x1, Value.int x2, Value.int x3, Value.int x4, Value.int x5] below meth c H locs 0 0 (MQ below (va_Qv (fun (u : (Nat → Int32) × (Nat → Nat → Int32)) => mV u.1 ∧ mA u.2 ∧ scr v fa u.1 u.2 ∧ (eqL (u.2 45) (lP v fa x1.toNatClampNeg x2 x3.toInt x4 (if x5 = 0 then 0 else 1)))) (fun u t => va_P (dC, dI) vwCl (mW g0 pq cp u.1 u.2) t.heap ∧ va_K (dC, dI) vwCl (mT cp) t ∧ va_D A (mW g0 pq cp u.1 u.2)) A) #[Value.ref g0, Value.int x1, Value.int x2, Value.int x3, Value.int x4, Value.int x5] s 0 0 A) (F0 m 11 ls []) := by
    intro n
    induction n using Nat.strongRecOn with
    | ind n ih =>
      intro y_3 y_4 z_5 fz_6 H locs ls hm hy_3 hy_4 hq0_cut_2 hq1_cut_2 hVz_5 hAz_5 hRz_5 hP hD hS hl
      refine lv_iload hx hb dX11_puts_11 (lv_at hl 0 rfl) ?_
      refine lv_iload_n hx hb dX11_puts_13 rfl (lv_at hl 4 rfl) ?_
      refine lv_icmp_gt (tgt := 45) hx hb dX11_puts_14 (by decide) (fun c_7 => ?_) (fun c_7 => ?_)
      · have dc_7 := c_lt (a := x2.toInt) (b := y_3.toInt) rfl rfl c_7
        refine lv_aload_n hx hb dX11_puts_45 rfl (lv_at hl 2 rfl) ?_
        refine lv_aload_n hx hb dX11_puts_46 rfl (lv_at hl 2 rfl) ?_
        refine va_get (D := (dC, dI)) (ci := 11) (v := .ref (pq 21)) (C := RX11) (T := TX11) (N := 63) hx hb hts in_wsX11_puts_X11 hown hK hP 0 rfl rfl 21 (by decide) (hts (.fieldLink RX11 73 "ShipOfficeModel" "voyage" "[I") iw_X11_puts_2) (fun _ h9 => h9) rfl dX11_puts_47 ?_
        refine lv_iload_n hx hb dX11_puts_50 rfl (lv_at hl 3 rfl) ?_
        refine va_iald hx hb hK hP 22 21 rfl rfl (vp_in_iff.mpr (by omega)) dX11_puts_51 ?_
        refine lv_topi (fun x_8 ex_8 => ?_)
        have hx_8 : 0 ≤ x_8.toInt ∧ x_8.toInt ≤ 19 := iv_of ex_8 (hAz_5 21 _)
        have gx_8 : x_8.toInt = (fz_6 21 (x1 : Int32).toNatClampNeg).toInt := iv_to ex_8
        clear ex_8
        rw [show fz_6 21 = fa 21 from hRz_5.2 21 rfl] at gx_8
        refine lv_iload_n hx hb dX11_puts_52 rfl (lv_at hl 4 rfl) ?_
        refine lv_iload_n hx hb dX11_puts_53 rfl (lv_at hl 5 rfl) ?_
        have hFc := va_free (wc := (mW g0 pq cp z_5 fz_6)) hD hS hA (List.range 48) rfl
        refine va_calli (va_runV (As := [.int x_8, .int x2, .int x3]) (rest := []) ⟨hx, hb, hml, hown, hts⟩ (c_X11_aboardOf_f l dC dI H.size g0 pq cp z_5 fz_6 hVz_5 hAz_5 x_8 x2 (by omega) x3 (wlA_fr hWl (hRz_5.1 42 rfl) (hRz_5.2 19 rfl) (hRz_5.2 16 rfl))) (cwV 3 hts gX11_puts_X11_aboardOf rfl rfl rfl (by decide +kernel) ⟨(Nat.le_of_ble_eq_true rfl), (Nat.le_of_ble_eq_true rfl)⟩) (pr_V (r := (RX11, TX11, 63)) hP hK hD 0 11 rfl rfl) rfl rfl hl.1 rfl (lv_room (Nat.le_of_ble_eq_true rfl)) dX11_puts_54 ⟨(Nat.le_of_ble_eq_true rfl), (Nat.le_of_ble_eq_true rfl)⟩) hS (fun q _ h => hFc q h) hFc (fun r_10 u t H locs ht hvm w_9 hB hz1 hk1 hS => ?_)
        obtain ⟨v_11, fa_12⟩ := u
        obtain ⟨hP1, hK1, hD1⟩ := hB
        rw [ht] at hP1
        have hP : va_P (dC, dI) vwCl (mW g0 pq cp v_11 fa_12) H := hP1
        have hD : va_D A (mW g0 pq cp v_11 fa_12) := hD1.weaken (fun _ _ _ h => hFc _ h)
        clear hP1 hK1 hD1 hk1 hz1 hvm ht hFc
        obtain ⟨hV_13, hA_14, hR_15, hb_16, hx_17⟩ := w_9
        dsimp only at hV_13 hA_14 hR_15 hb_16 hx_17
        have g_18 : (fa_12 21 (x1 : Int32).toNatClampNeg).toInt = (fz_6 21 (x1 : Int32).toNatClampNeg).toInt := congrArg (fun h : Nat → Int32 => Int32.toInt (h (x1 : Int32).toNatClampNeg)) (hR_15.2 21 rfl)
        have R_19 := scr.tr hRz_5 hR_15
        try rw [gx_8] at hx_17
        have sc_20 := scr.tr hRz_5 hR_15
        have q0_21 : fa_12 0 = fa 0 := (hR_15.2 0 rfl).trans (hRz_5.2 0 rfl)
        rw [abF_s hWl hRz_5] at hx_17
        refine lv_istore (lv' := [(7, .int r_10), (6, .int y_4), (0, .ref g0), (1, .int x1), (2, .int x2), (3, .int x3), (4, .int x4), (5, .int x5)]) hx hb dX11_puts_57 hl (by decide) rfl (fun ls hl => ?_)
        refine lv_aload_n hx hb dX11_puts_59 rfl (lv_at hl 2 rfl) ?_
        refine lv_aload_n hx hb dX11_puts_60 rfl (lv_at hl 2 rfl) ?_
        refine va_get (D := (dC, dI)) (ci := 11) (v := .ref (pq 21)) (C := RX11) (T := TX11) (N := 63) hx hb hts in_wsX11_puts_X11 hown hK hP 0 rfl rfl 21 (by decide) (hts (.fieldLink RX11 73 "ShipOfficeModel" "voyage" "[I") iw_X11_puts_2) (fun _ h9 => h9) rfl dX11_puts_61 ?_
        refine lv_iload_n hx hb dX11_puts_64 rfl (lv_at hl 3 rfl) ?_
        refine va_iald hx hb hK hP 22 21 rfl rfl (vp_in_iff.mpr (by omega)) dX11_puts_65 ?_
        refine lv_topi (fun x_22 ex_22 => ?_)
        have hx_22 : 0 ≤ x_22.toInt ∧ x_22.toInt ≤ 19 := iv_of ex_22 (hA_14 21 _)
        have gx_22 : x_22.toInt = (fa_12 21 (x1 : Int32).toNatClampNeg).toInt := iv_to ex_22
        clear ex_22
        rw [show fa_12 21 = fa 21 from sc_20.2 21 rfl] at gx_22
        refine lv_iload_n hx hb dX11_puts_66 rfl (lv_at hl 4 rfl) ?_
        refine lv_iload_n hx hb dX11_puts_67 rfl (lv_at hl 5 rfl) ?_
        have hFc : ∀ q, va_A [] H.size q → A q := pu_free hS hA
        refine va_calli (va_runV (As := [.int x_22, .int x2, .int x3]) (rest := []) ⟨hx, hb, hml, hown, hts⟩ (c_X11_lastHeard_f l dC dI H.size g0 pq cp v_11 fa_12 hV_13 hA_14 x_22 x2 x3) (cwV 3 hts gX11_puts_X11_lastHeard rfl rfl rfl (by decide +kernel) ⟨(Nat.le_of_ble_eq_true rfl), (Nat.le_of_ble_eq_true rfl)⟩) (pr_V (r := (RX11, TX11, 63)) hP hK hD 0 11 rfl rfl) rfl rfl hl.1 rfl (lv_room (Nat.le_of_ble_eq_true rfl)) dX11_puts_68 ⟨(Nat.le_of_ble_eq_true rfl), (Nat.le_of_ble_eq_true rfl)⟩) hS (fun q _ h => hFc q h) hFc (fun r_24 u t H locs ht hvm w_23 hB hz1 hk1 hS => ?_)
        have hP := pu_keep hP hk1
        clear hk1 hz1 hvm hB ht hFc
        obtain ⟨hb_25, hx_26⟩ := w_23
        try rw [gx_22] at hx_26
        rw [lhO_s sc_20] at hx_26
        refine lv_istore (lv' := [(8, .int r_24), (7, .int r_10), (6, .int y_4), (0, .ref g0), (1, .int x1), (2, .int x2), (3, .int x3), (4, .int x4), (5, .int x5)]) hx hb dX11_puts_71 hl (by decide) rfl (fun ls hl => ?_)
        refine lv_aload_n hx hb dX11_puts_73 rfl (lv_at hl 3 rfl) ?_
        have hFc := va_free (wc := (mW g0 pq cp v_11 fa_12)) hD hS hA (List.range 48) rfl
        refine va_callv (va_runV (As := []) (rest := []) ⟨hx, hb, hml, hown, hts⟩ (c_X11_bare_f l dC dI H.size g0 pq cp v_11 fa_12 hV_13 hA_14) (cwV 0 hts gX11_puts_X11_bare rfl rfl rfl (by decide +kernel) ⟨(Nat.le_of_ble_eq_true rfl), (Nat.le_of_ble_eq_true rfl)⟩) (pr_V (r := (RX11, TX11, 63)) hP hK hD 0 11 rfl rfl) rfl rfl hl.1 rfl (lv_room (Nat.le_of_ble_eq_true rfl)) dX11_puts_74 ⟨(Nat.le_of_ble_eq_true rfl), (Nat.le_of_ble_eq_true rfl)⟩) hS (fun q _ h => hFc q h) hFc (fun u t H locs ht hvm w_27 hB hz1 hk1 hS => ?_)
        obtain ⟨v_29, fa_30⟩ := u
        obtain ⟨hP1, hK1, hD1⟩ := hB
        rw [ht] at hP1
        have hP : va_P (dC, dI) vwCl (mW g0 pq cp v_29 fa_30) H := hP1
        have hD : va_D A (mW g0 pq cp v_29 fa_30) := hD1.weaken (fun _ _ _ h => hFc _ h)
        clear hP1 hK1 hD1 hk1 hz1 hvm ht hFc
        obtain ⟨hV_31, hA_32, hR_33, hx_34⟩ := w_27
        dsimp only at hV_31 hA_32 hR_33 hx_34
        have g_35 : (fa_30 21 (x1 : Int32).toNatClampNeg).toInt = (fa_12 21 (x1 : Int32).toNatClampNeg).toInt := congrArg (fun h : Nat → Int32 => Int32.toInt (h (x1 : Int32).toNatClampNeg)) (hR_33.2 21 rfl)
        have R_36 := scr.tr R_19 hR_33
        have sc_37 := scr.tr sc_20 hR_33
        have q0_38 : fa_30 0 = fa 0 := (hR_33.2 0 rfl).trans q0_21
        refine lv_aload_n hx hb dX11_puts_77 rfl (lv_at hl 3 rfl) ?_
        refine va_get (D := (dC, dI)) (ci := 11) (v := .ref (pq 45)) (C := RX11) (T := TX11) (N := 63) hx hb hts in_wsX11_puts_X11 hown hK hP 0 rfl rfl 45 (by decide) (hts (.fieldLink RX11 128 "ShipOfficeModel" "letters" "[I") iw_X11_puts_3) (fun _ h9 => h9) rfl dX11_puts_78 ?_
        refine lv_bipush (v := 119) hx hb dX11_puts_81 (by decide) ?_
        refine lv_aload_n hx hb dX11_puts_83 rfl (lv_at hl 3 rfl) ?_
        refine va_get (D := (dC, dI)) (ci := 11) (v := .ref (pq 22)) (C := RX11) (T := TX11) (N := 63) hx hb hts in_wsX11_puts_X11 hown hK hP 0 rfl rfl 22 (by decide) (hts (.fieldLink RX11 76 "ShipOfficeModel" "wage" "[I") iw_X11_puts_4) (fun _ h9 => h9) rfl dX11_puts_84 ?_
        refine lv_iload_n hx hb dX11_puts_87 rfl (lv_at hl 4 rfl) ?_
        refine va_iald hx hb hK hP 23 22 rfl rfl (vp_in_iff.mpr (by omega)) dX11_puts_88 ?_
        refine lv_topi (fun x_39 ex_39 => ?_)
        have gx_39 : x_39.toInt = (fa_30 22 (x1 : Int32).toNatClampNeg).toInt := iv_to ex_39
        clear ex_39
        rw [show fa_30 22 = fa 22 from sc_37.2 22 rfl] at gx_39
        refine va_iast hx hb hK hP hD hS 40 39 rfl rfl (by unfold vp_in; decide) dX11_puts_89 (fun H locs hP hD hS => ?_)
        have hP : va_P (dC, dI) vwCl (mW g0 pq cp v_29 (upF fa_30 45 (119 : Int32).toNatClampNeg x_39)) H := hP
        have hD : va_D A (mW g0 pq cp v_29 (upF fa_30 45 (119 : Int32).toNatClampNeg x_39)) := hD
        obtain ⟨fz_40, efz_40⟩ : ∃ zq, zq = (upF fa_30 45 (119 : Int32).toNatClampNeg x_39) := ⟨_, rfl⟩
        rw [← efz_40] at hP hD
        have hAfz_40 : mA fz_40 := by rw [efz_40]; exact mA_upF (lo := -2147483648) (hi := 2147483647) hA_32 rfl rfl (iv_all _)
        have hRfz_40 : scr v fa v_29 fz_40 := by rw [efz_40]; exact scr.uF R_36 rfl
        have g_41 : (fz_40 21 (x1 : Int32).toNatClampNeg).toInt = (fa_30 21 (x1 : Int32).toNatClampNeg).toInt := by rw [efz_40]; exact uF_ne (by decide)
        have g_42 : (fz_40 22 (x1 : Int32).toNatClampNeg).toInt = (fa_30 22 (x1 : Int32).toNatClampNeg).toInt := by rw [efz_40]; exact uF_ne (by decide)
        have sc_43 : scr v fa v_29 fz_40 := by rw [efz_40]; exact scr.uF sc_37 rfl
        have q0_44 : fz_40 0 = fa 0 := by rw [efz_40]; exact (if_neg (by decide)).trans q0_38
        refine lv_aload_n hx hb dX11_puts_90 rfl (lv_at hl 3 rfl) ?_
        refine va_get (D := (dC, dI)) (ci := 11) (v := .ref (pq 45)) (C := RX11) (T := TX11) (N := 63) hx hb hts in_wsX11_puts_X11 hown hK hP 0 rfl rfl 45 (by decide) (hts (.fieldLink RX11 128 "ShipOfficeModel" "letters" "[I") iw_X11_puts_3) (fun _ h9 => h9) rfl dX11_puts_91 ?_
        refine lv_bipush (v := 114) hx hb dX11_puts_94 (by decide) ?_
        refine lv_aload_n hx hb dX11_puts_96 rfl (lv_at hl 3 rfl) ?_
        refine va_get (D := (dC, dI)) (ci := 11) (v := .ref (pq 23)) (C := RX11) (T := TX11) (N := 63) hx hb hts in_wsX11_puts_X11 hown hK hP 0 rfl rfl 23 (by decide) (hts (.fieldLink RX11 79 "ShipOfficeModel" "rank" "[I") iw_X11_puts_5) (fun _ h9 => h9) rfl dX11_puts_97 ?_
        refine lv_iload_n hx hb dX11_puts_100 rfl (lv_at hl 4 rfl) ?_
        refine va_iald hx hb hK hP 24 23 rfl rfl (vp_in_iff.mpr (by omega)) dX11_puts_101 ?_
        refine lv_topi (fun x_45 ex_45 => ?_)
        have gx_45 : x_45.toInt = (fz_40 23 (x1 : Int32).toNatClampNeg).toInt := iv_to ex_45
        clear ex_45
        rw [show fz_40 23 = fa 23 from sc_43.2 23 rfl] at gx_45
        refine va_iast hx hb hK hP hD hS 40 39 rfl rfl (by unfold vp_in; decide) dX11_puts_102 (fun H locs hP hD hS => ?_)
        have hP : va_P (dC, dI) vwCl (mW g0 pq cp v_29 (upF fz_40 45 (114 : Int32).toNatClampNeg x_45)) H := hP
        have hD : va_D A (mW g0 pq cp v_29 (upF fz_40 45 (114 : Int32).toNatClampNeg x_45)) := hD
        obtain ⟨fz_46, efz_46⟩ : ∃ zq, zq = (upF fz_40 45 (114 : Int32).toNatClampNeg x_45) := ⟨_, rfl⟩
        rw [← efz_46] at hP hD
        have hAfz_46 : mA fz_46 := by rw [efz_46]; exact mA_upF (lo := -2147483648) (hi := 2147483647) hAfz_40 rfl rfl (iv_all _)
        have hRfz_46 : scr v fa v_29 fz_46 := by rw [efz_46]; exact scr.uF hRfz_40 rfl
        have g_47 : (fz_46 21 (x1 : Int32).toNatClampNeg).toInt = (fz_40 21 (x1 : Int32).toNatClampNeg).toInt := by rw [efz_46]; exact uF_ne (by decide)
        have g_48 : (fz_46 22 (x1 : Int32).toNatClampNeg).toInt = (fz_40 22 (x1 : Int32).toNatClampNeg).toInt := by rw [efz_46]; exact uF_ne (by decide)
        have g_49 : (fz_46 23 (x1 : Int32).toNatClampNeg).toInt = (fz_40 23 (x1 : Int32).toNatClampNeg).toInt := by rw [efz_46]; exact uF_ne (by decide)
        have sc_50 : scr v fa v_29 fz_46 := by rw [efz_46]; exact scr.uF sc_43 rfl
        have q0_51 : fz_46 0 = fa 0 := by rw [efz_46]; exact (if_neg (by decide)).trans q0_44
        refine lv_aload_n hx hb dX11_puts_103 rfl (lv_at hl 3 rfl) ?_
        refine va_get (D := (dC, dI)) (ci := 11) (v := .ref (pq 45)) (C := RX11) (T := TX11) (N := 63) hx hb hts in_wsX11_puts_X11 hown hK hP 0 rfl rfl 45 (by decide) (hts (.fieldLink RX11 128 "ShipOfficeModel" "letters" "[I") iw_X11_puts_3) (fun _ h9 => h9) rfl dX11_puts_104 ?_
        refine lv_bipush (v := 97) hx hb dX11_puts_107 (by decide) ?_
        refine lv_iload_n hx hb dX11_puts_109 rfl (lv_at hl 5 rfl) ?_
        refine lv_aload_n hx hb dX11_puts_110 rfl (lv_at hl 3 rfl) ?_
        refine va_get (D := (dC, dI)) (ci := 11) (v := .ref (pq 4)) (C := RX11) (T := TX11) (N := 63) hx hb hts in_wsX11_puts_X11 hown hK hP 0 rfl rfl 4 (by decide) (hts (.fieldLink RX11 22 "ShipOfficeModel" "born" "[I") iw_X11_puts_6) (fun _ h9 => h9) rfl dX11_puts_111 ?_
        refine lv_aload_n hx hb dX11_puts_114 rfl (lv_at hl 3 rfl) ?_
        refine va_get (D := (dC, dI)) (ci := 11) (v := .ref (pq 20)) (C := RX11) (T := TX11) (N := 63) hx hb hts in_wsX11_puts_X11 hown hK hP 0 rfl rfl 20 (by decide) (hts (.fieldLink RX11 70 "ShipOfficeModel" "man" "[I") iw_X11_puts_7) (fun _ h9 => h9) rfl dX11_puts_115 ?_
        refine lv_iload_n hx hb dX11_puts_118 rfl (lv_at hl 4 rfl) ?_
        refine va_iald hx hb hK hP 21 20 rfl rfl (vp_in_iff.mpr (by omega)) dX11_puts_119 ?_
        refine lv_topi (fun x_52 ex_52 => ?_)
        have hx_52 : 0 ≤ x_52.toInt ∧ x_52.toInt ≤ 39 := iv_of ex_52 (hAfz_46 20 _)
        have gx_52 : x_52.toInt = (fz_46 20 (x1 : Int32).toNatClampNeg).toInt := iv_to ex_52
        clear ex_52
        rw [show fz_46 20 = fa 20 from sc_50.2 20 rfl] at gx_52
        refine va_iald hx hb hK hP 5 4 rfl rfl (vp_in_iff.mpr (by omega)) dX11_puts_120 ?_
        refine lv_topi (fun x_53 ex_53 => ?_)
        have gx_53 : x_53.toInt = (fz_46 4 (x_52 : Int32).toNatClampNeg).toInt := iv_to ex_53
        clear ex_53
        rw [show fz_46 4 = fa 4 from sc_50.2 4 rfl] at gx_53
        refine lv_isub hx hb dX11_puts_121 ?_
        refine lv_topi (fun x_54 ex_54 => ?_)
        refine lv_sipush (v := 365) hx hb dX11_puts_122 (by decide) ?_
        refine lv_idiv hx hb dX11_puts_125 (by decide) ?_
        refine lv_topi (fun x_55 ex_55 => ?_)
        refine va_iast hx hb hK hP hD hS 40 39 rfl rfl (by unfold vp_in; decide) dX11_puts_126 (fun H locs hP hD hS => ?_)
        have hP : va_P (dC, dI) vwCl (mW g0 pq cp v_29 (upF fz_46 45 (97 : Int32).toNatClampNeg x_55)) H := hP
        have hD : va_D A (mW g0 pq cp v_29 (upF fz_46 45 (97 : Int32).toNatClampNeg x_55)) := hD
        obtain ⟨fz_56, efz_56⟩ : ∃ zq, zq = (upF fz_46 45 (97 : Int32).toNatClampNeg x_55) := ⟨_, rfl⟩
        rw [← efz_56] at hP hD
        have hAfz_56 : mA fz_56 := by rw [efz_56]; exact mA_upF (lo := -2147483648) (hi := 2147483647) hAfz_46 rfl rfl (iv_all _)
        have hRfz_56 : scr v fa v_29 fz_56 := by rw [efz_56]; exact scr.uF hRfz_46 rfl
        have g_57 : (fz_56 4 (x_52 : Int32).toNatClampNeg).toInt = (fz_46 4 (x_52 : Int32).toNatClampNeg).toInt := by rw [efz_56]; exact uF_ne (by decide)
        have g_58 : (fz_56 20 (x1 : Int32).toNatClampNeg).toInt = (fz_46 20 (x1 : Int32).toNatClampNeg).toInt := by rw [efz_56]; exact uF_ne (by decide)
        have g_59 : (fz_56 21 (x1 : Int32).toNatClampNeg).toInt = (fz_46 21 (x1 : Int32).toNatClampNeg).toInt := by rw [efz_56]; exact uF_ne (by decide)
        have g_60 : (fz_56 22 (x1 : Int32).toNatClampNeg).toInt = (fz_46 22 (x1 : Int32).toNatClampNeg).toInt := by rw [efz_56]; exact uF_ne (by decide)
        have g_61 : (fz_56 23 (x1 : Int32).toNatClampNeg).toInt = (fz_46 23 (x1 : Int32).toNatClampNeg).toInt := by rw [efz_56]; exact uF_ne (by decide)
        have sc_62 : scr v fa v_29 fz_56 := by rw [efz_56]; exact scr.uF sc_50 rfl
        have q0_63 : fz_56 0 = fa 0 := by rw [efz_56]; exact (if_neg (by decide)).trans q0_51
        refine lv_aload_n hx hb dX11_puts_127 rfl (lv_at hl 3 rfl) ?_
        refine va_get (D := (dC, dI)) (ci := 11) (v := .ref (pq 45)) (C := RX11) (T := TX11) (N := 63) hx hb hts in_wsX11_puts_X11 hown hK hP 0 rfl rfl 45 (by decide) (hts (.fieldLink RX11 128 "ShipOfficeModel" "letters" "[I") iw_X11_puts_3) (fun _ h9 => h9) rfl dX11_puts_128 ?_
        refine lv_bipush (v := 100) hx hb dX11_puts_131 (by decide) ?_
        refine lv_iload hx hb dX11_puts_133 (lv_at hl 2 rfl) ?_
        refine va_iast hx hb hK hP hD hS 40 39 rfl rfl (by unfold vp_in; decide) dX11_puts_135 (fun H locs hP hD hS => ?_)
        have hP : va_P (dC, dI) vwCl (mW g0 pq cp v_29 (upF fz_56 45 (100 : Int32).toNatClampNeg y_4)) H := hP
        have hD : va_D A (mW g0 pq cp v_29 (upF fz_56 45 (100 : Int32).toNatClampNeg y_4)) := hD
        obtain ⟨fz_64, efz_64⟩ : ∃ zq, zq = (upF fz_56 45 (100 : Int32).toNatClampNeg y_4) := ⟨_, rfl⟩
        rw [← efz_64] at hP hD
        have hAfz_64 : mA fz_64 := by rw [efz_64]; exact mA_upF (lo := -2147483648) (hi := 2147483647) hAfz_56 rfl rfl (iv_all _)
        have hRfz_64 : scr v fa v_29 fz_64 := by rw [efz_64]; exact scr.uF hRfz_56 rfl
        have g_65 : (fz_64 4 (x_52 : Int32).toNatClampNeg).toInt = (fz_56 4 (x_52 : Int32).toNatClampNeg).toInt := by rw [efz_64]; exact uF_ne (by decide)
        have g_66 : (fz_64 20 (x1 : Int32).toNatClampNeg).toInt = (fz_56 20 (x1 : Int32).toNatClampNeg).toInt := by rw [efz_64]; exact uF_ne (by decide)
        have g_67 : (fz_64 21 (x1 : Int32).toNatClampNeg).toInt = (fz_56 21 (x1 : Int32).toNatClampNeg).toInt := by rw [efz_64]; exact uF_ne (by decide)
        have g_68 : (fz_64 22 (x1 : Int32).toNatClampNeg).toInt = (fz_56 22 (x1 : Int32).toNatClampNeg).toInt := by rw [efz_64]; exact uF_ne (by decide)
        have g_69 : (fz_64 23 (x1 : Int32).toNatClampNeg).toInt = (fz_56 23 (x1 : Int32).toNatClampNeg).toInt := by rw [efz_64]; exact uF_ne (by decide)
        have sc_70 : scr v fa v_29 fz_64 := by rw [efz_64]; exact scr.uF sc_62 rfl
        have q0_71 : fz_64 0 = fa 0 := by rw [efz_64]; exact (if_neg (by decide)).trans q0_63
        refine lv_aload_n hx hb dX11_puts_136 rfl (lv_at hl 3 rfl) ?_
        refine va_get (D := (dC, dI)) (ci := 11) (v := .ref (pq 45)) (C := RX11) (T := TX11) (N := 63) hx hb hts in_wsX11_puts_X11 hown hK hP 0 rfl rfl 45 (by decide) (hts (.fieldLink RX11 128 "ShipOfficeModel" "letters" "[I") iw_X11_puts_3) (fun _ h9 => h9) rfl dX11_puts_137 ?_
        refine lv_bipush (v := 110) hx hb dX11_puts_140 (by decide) ?_
        refine lv_iload hx hb dX11_puts_142 (lv_at hl 1 rfl) ?_
        refine va_iast hx hb hK hP hD hS 40 39 rfl rfl (by unfold vp_in; decide) dX11_puts_144 (fun H locs hP hD hS => ?_)
        have hP : va_P (dC, dI) vwCl (mW g0 pq cp v_29 (upF fz_64 45 (110 : Int32).toNatClampNeg r_10)) H := hP
        have hD : va_D A (mW g0 pq cp v_29 (upF fz_64 45 (110 : Int32).toNatClampNeg r_10)) := hD
        obtain ⟨fz_72, efz_72⟩ : ∃ zq, zq = (upF fz_64 45 (110 : Int32).toNatClampNeg r_10) := ⟨_, rfl⟩
        rw [← efz_72] at hP hD
        have hAfz_72 : mA fz_72 := by rw [efz_72]; exact mA_upF (lo := -2147483648) (hi := 2147483647) hAfz_64 rfl rfl (iv_all _)
        have hRfz_72 : scr v fa v_29 fz_72 := by rw [efz_72]; exact scr.uF hRfz_64 rfl
        have g_73 : (fz_72 4 (x_52 : Int32).toNatClampNeg).toInt = (fz_64 4 (x_52 : Int32).toNatClampNeg).toInt := by rw [efz_72]; exact uF_ne (by decide)
        have g_74 : (fz_72 20 (x1 : Int32).toNatClampNeg).toInt = (fz_64 20 (x1 : Int32).toNatClampNeg).toInt := by rw [efz_72]; exact uF_ne (by decide)
        have g_75 : (fz_72 21 (x1 : Int32).toNatClampNeg).toInt = (fz_64 21 (x1 : Int32).toNatClampNeg).toInt := by rw [efz_72]; exact uF_ne (by decide)
        have g_76 : (fz_72 22 (x1 : Int32).toNatClampNeg).toInt = (fz_64 22 (x1 : Int32).toNatClampNeg).toInt := by rw [efz_72]; exact uF_ne (by decide)
        have g_77 : (fz_72 23 (x1 : Int32).toNatClampNeg).toInt = (fz_64 23 (x1 : Int32).toNatClampNeg).toInt := by rw [efz_72]; exact uF_ne (by decide)
        have sc_78 : scr v fa v_29 fz_72 := by rw [efz_72]; exact scr.uF sc_70 rfl
        have q0_79 : fz_72 0 = fa 0 := by rw [efz_72]; exact (if_neg (by decide)).trans q0_71
        refine lv_aload_n hx hb dX11_puts_145 rfl (lv_at hl 3 rfl) ?_
        refine va_get (D := (dC, dI)) (ci := 11) (v := .ref (pq 45)) (C := RX11) (T := TX11) (N := 63) hx hb hts in_wsX11_puts_X11 hown hK hP 0 rfl rfl 45 (by decide) (hts (.fieldLink RX11 128 "ShipOfficeModel" "letters" "[I") iw_X11_puts_3) (fun _ h9 => h9) rfl dX11_puts_146 ?_
        refine lv_bipush (v := 115) hx hb dX11_puts_149 (by decide) ?_
        refine lv_iload hx hb dX11_puts_151 (lv_at hl 7 rfl) ?_
        refine va_iast hx hb hK hP hD hS 40 39 rfl rfl (by unfold vp_in; decide) dX11_puts_153 (fun H locs hP hD hS => ?_)
        have hP : va_P (dC, dI) vwCl (mW g0 pq cp v_29 (upF fz_72 45 (115 : Int32).toNatClampNeg x4)) H := hP
        have hD : va_D A (mW g0 pq cp v_29 (upF fz_72 45 (115 : Int32).toNatClampNeg x4)) := hD
        obtain ⟨fz_80, efz_80⟩ : ∃ zq, zq = (upF fz_72 45 (115 : Int32).toNatClampNeg x4) := ⟨_, rfl⟩
        rw [← efz_80] at hP hD
        have hAfz_80 : mA fz_80 := by rw [efz_80]; exact mA_upF (lo := -2147483648) (hi := 2147483647) hAfz_72 rfl rfl (iv_all _)
        have hRfz_80 : scr v fa v_29 fz_80 := by rw [efz_80]; exact scr.uF hRfz_72 rfl
        have g_81 : (fz_80 4 (x_52 : Int32).toNatClampNeg).toInt = (fz_72 4 (x_52 : Int32).toNatClampNeg).toInt := by rw [efz_80]; exact uF_ne (by decide)
        have g_82 : (fz_80 20 (x1 : Int32).toNatClampNeg).toInt = (fz_72 20 (x1 : Int32).toNatClampNeg).toInt := by rw [efz_80]; exact uF_ne (by decide)
        have g_83 : (fz_80 21 (x1 : Int32).toNatClampNeg).toInt = (fz_72 21 (x1 : Int32).toNatClampNeg).toInt := by rw [efz_80]; exact uF_ne (by decide)
        have g_84 : (fz_80 22 (x1 : Int32).toNatClampNeg).toInt = (fz_72 22 (x1 : Int32).toNatClampNeg).toInt := by rw [efz_80]; exact uF_ne (by decide)
        have g_85 : (fz_80 23 (x1 : Int32).toNatClampNeg).toInt = (fz_72 23 (x1 : Int32).toNatClampNeg).toInt := by rw [efz_80]; exact uF_ne (by decide)
        have sc_86 : scr v fa v_29 fz_80 := by rw [efz_80]; exact scr.uF sc_78 rfl
        have q0_87 : fz_80 0 = fa 0 := by rw [efz_80]; exact (if_neg (by decide)).trans q0_79
        refine lv_aload_n hx hb dX11_puts_154 rfl (lv_at hl 3 rfl) ?_
        refine va_get (D := (dC, dI)) (ci := 11) (v := .ref (pq 45)) (C := RX11) (T := TX11) (N := 63) hx hb hts in_wsX11_puts_X11 hown hK hP 0 rfl rfl 45 (by decide) (hts (.fieldLink RX11 128 "ShipOfficeModel" "letters" "[I") iw_X11_puts_3) (fun _ h9 => h9) rfl dX11_puts_155 ?_
        refine lv_bipush (v := 108) hx hb dX11_puts_158 (by decide) ?_
        refine lv_iload hx hb dX11_puts_160 (lv_at hl 0 rfl) ?_
        refine lv_if_ge (tgt := 169) hx hb dX11_puts_162 (by decide) (fun c_88 => ?_) (fun c_88 => ?_)
        · have dc_88 := c_le (a := 0) (b := r_24.toInt) (by decide) rfl c_88
          refine lv_iload_n hx hb dX11_puts_169 rfl (lv_at hl 5 rfl) ?_
          refine lv_iload hx hb dX11_puts_170 (lv_at hl 0 rfl) ?_
          refine lv_isub hx hb dX11_puts_172 ?_
          refine lv_topi (fun x_89 ex_89 => ?_)
          have hx_89 : x_89.toInt = x2.toInt - r_24.toInt := (iv_to ex_89).trans (sb_i rfl rfl (by omega) (by omega))
          refine va_iast hx hb hK hP hD hS 40 39 rfl rfl (by unfold vp_in; decide) dX11_puts_173 (fun H locs hP hD hS => ?_)
          have hP : va_P (dC, dI) vwCl (mW g0 pq cp v_29 (upF fz_80 45 (108 : Int32).toNatClampNeg x_89)) H := hP
          have hD : va_D A (mW g0 pq cp v_29 (upF fz_80 45 (108 : Int32).toNatClampNeg x_89)) := hD
          obtain ⟨fz_90, efz_90⟩ : ∃ zq, zq = (upF fz_80 45 (108 : Int32).toNatClampNeg x_89) := ⟨_, rfl⟩
          rw [← efz_90] at hP hD
          have hAfz_90 : mA fz_90 := by rw [efz_90]; exact mA_upF (lo := -2147483648) (hi := 2147483647) hAfz_80 rfl rfl (iv_all _)
          have hRfz_90 : scr v fa v_29 fz_90 := by rw [efz_90]; exact scr.uF hRfz_80 rfl
          have g_91 : (fz_90 4 (x_52 : Int32).toNatClampNeg).toInt = (fz_80 4 (x_52 : Int32).toNatClampNeg).toInt := by rw [efz_90]; exact uF_ne (by decide)
          have g_92 : (fz_90 20 (x1 : Int32).toNatClampNeg).toInt = (fz_80 20 (x1 : Int32).toNatClampNeg).toInt := by rw [efz_90]; exact uF_ne (by decide)
          have g_93 : (fz_90 21 (x1 : Int32).toNatClampNeg).toInt = (fz_80 21 (x1 : Int32).toNatClampNeg).toInt := by rw [efz_90]; exact uF_ne (by decide)
          have g_94 : (fz_90 22 (x1 : Int32).toNatClampNeg).toInt = (fz_80 22 (x1 : Int32).toNatClampNeg).toInt := by rw [efz_90]; exact uF_ne (by decide)
          have g_95 : (fz_90 23 (x1 : Int32).toNatClampNeg).toInt = (fz_80 23 (x1 : Int32).toNatClampNeg).toInt := by rw [efz_90]; exact uF_ne (by decide)
          have sc_96 : scr v fa v_29 fz_90 := by rw [efz_90]; exact scr.uF sc_86 rfl
          have q0_97 : fz_90 0 = fa 0 := by rw [efz_90]; exact (if_neg (by decide)).trans q0_87
          refine lv_aload_n hx hb dX11_puts_174 rfl (lv_at hl 3 rfl) ?_
          refine va_get (D := (dC, dI)) (ci := 11) (v := .ref (pq 45)) (C := RX11) (T := TX11) (N := 63) hx hb hts in_wsX11_puts_X11 hown hK hP 0 rfl rfl 45 (by decide) (hts (.fieldLink RX11 128 "ShipOfficeModel" "letters" "[I") iw_X11_puts_3) (fun _ h9 => h9) rfl dX11_puts_175 ?_
          refine lv_bipush (v := 120) hx hb dX11_puts_178 (by decide) ?_
          refine lv_iload hx hb dX11_puts_180 (lv_at hl 8 rfl) ?_
          refine lv_if_eq (tgt := 189) hx hb dX11_puts_182 (by decide) (fun c_98 => ?_) (fun c_98 => ?_)
          · have dc_98 := c_eq (a := x5.toInt) (b := 0) rfl (by decide) c_98
            refine lv_iconst (v := 0) hx hb dX11_puts_189 (by decide) ?_
            refine va_iast hx hb hK hP hD hS 40 39 rfl rfl (by unfold vp_in; decide) dX11_puts_190 (fun H locs hP hD hS => ?_)
            have hP : va_P (dC, dI) vwCl (mW g0 pq cp v_29 (upF fz_90 45 (120 : Int32).toNatClampNeg 0)) H := hP
            have hD : va_D A (mW g0 pq cp v_29 (upF fz_90 45 (120 : Int32).toNatClampNeg 0)) := hD
            obtain ⟨fz_99, efz_99⟩ : ∃ zq, zq = (upF fz_90 45 (120 : Int32).toNatClampNeg 0) := ⟨_, rfl⟩
            rw [← efz_99] at hP hD
            have hAfz_99 : mA fz_99 := by rw [efz_99]; exact mA_upF (lo := -2147483648) (hi := 2147483647) hAfz_90 rfl rfl (iv_all _)
            have hRfz_99 : scr v fa v_29 fz_99 := by rw [efz_99]; exact scr.uF hRfz_90 rfl
            have g_100 : (fz_99 4 (x_52 : Int32).toNatClampNeg).toInt = (fz_90 4 (x_52 : Int32).toNatClampNeg).toInt := by rw [efz_99]; exact uF_ne (by decide)
            have g_101 : (fz_99 20 (x1 : Int32).toNatClampNeg).toInt = (fz_90 20 (x1 : Int32).toNatClampNeg).toInt := by rw [efz_99]; exact uF_ne (by decide)
            have g_102 : (fz_99 21 (x1 : Int32).toNatClampNeg).toInt = (fz_90 21 (x1 : Int32).toNatClampNeg).toInt := by rw [efz_99]; exact uF_ne (by decide)
            have g_103 : (fz_99 22 (x1 : Int32).toNatClampNeg).toInt = (fz_90 22 (x1 : Int32).toNatClampNeg).toInt := by rw [efz_99]; exact uF_ne (by decide)
            have g_104 : (fz_99 23 (x1 : Int32).toNatClampNeg).toInt = (fz_90 23 (x1 : Int32).toNatClampNeg).toInt := by rw [efz_99]; exact uF_ne (by decide)
            have sc_105 : scr v fa v_29 fz_99 := by rw [efz_99]; exact scr.uF sc_96 rfl
            have q0_106 : fz_99 0 = fa 0 := by rw [efz_99]; exact (if_neg (by decide)).trans q0_97
            exact W.vret hx hb hr (fun t ht hW => ⟨⟨(v_29, fz_99), rfl, ⟨hV_31, hAfz_99, hRfz_99, (by have em : x_52 = fa 20 x1.toNatClampNeg := Int32.toInt_inj.mp (by omega); have eb : x_53 = fa 4 (fa 20 x1.toNatClampNeg).toNatClampNeg := (by rw [← em]; exact Int32.toInt_inj.mp (by omega)); have hL := eqL_p (f := fz_99 45) (by rw [efz_99, efz_90, efz_80, efz_72, efz_64, efz_56, efz_46, efz_40] <;> rfl); have eP : ltP x_39 x_45 x_55 y_4 r_10 x4 x_89 0 = lP v fa x1.toNatClampNeg x2 x3.toInt x4 (if x5 = 0 then 0 else 1) := (by unfold lP; exact ltP_c (Int32.toInt_inj.mp (by omega)) (Int32.toInt_inj.mp (by omega)) (by rw [ex_55, ex_54, eb]) (of_i (by unfold dnF; rw [hq1_cut_2]; congr 1; omega)) (of_i hx_17) rfl (of_i (by unfold ulF; rw [← hx_26]; repeat (first | rw [if_pos (by omega)] | rw [if_neg (by omega)]); omega)) (by rw [if_pos c_98])); rw [eP] at hL; exact hL)⟩, ⟨by rw [ht]; exact hP, va_K.moved hW.alike hK, hD⟩⟩, hS.F ht⟩) hS.2.2 dX11_puts_191
          · have dc_98 := c_ne (a := x5.toInt) (b := 0) rfl (by decide) c_98
            refine lv_iconst (v := 1) hx hb dX11_puts_185 (by decide) ?_
            refine lv_goto (tgt := 190) hx hb dX11_puts_186 (by decide) ?_
            refine va_iast hx hb hK hP hD hS 40 39 rfl rfl (by unfold vp_in; decide) dX11_puts_190 (fun H locs hP hD hS => ?_)
            have hP : va_P (dC, dI) vwCl (mW g0 pq cp v_29 (upF fz_90 45 (120 : Int32).toNatClampNeg 1)) H := hP
            have hD : va_D A (mW g0 pq cp v_29 (upF fz_90 45 (120 : Int32).toNatClampNeg 1)) := hD
            obtain ⟨fz_107, efz_107⟩ : ∃ zq, zq = (upF fz_90 45 (120 : Int32).toNatClampNeg 1) := ⟨_, rfl⟩
            rw [← efz_107] at hP hD
            have hAfz_107 : mA fz_107 := by rw [efz_107]; exact mA_upF (lo := -2147483648) (hi := 2147483647) hAfz_90 rfl rfl (iv_all _)
            have hRfz_107 : scr v fa v_29 fz_107 := by rw [efz_107]; exact scr.uF hRfz_90 rfl
            have g_108 : (fz_107 4 (x_52 : Int32).toNatClampNeg).toInt = (fz_90 4 (x_52 : Int32).toNatClampNeg).toInt := by rw [efz_107]; exact uF_ne (by decide)
            have g_109 : (fz_107 20 (x1 : Int32).toNatClampNeg).toInt = (fz_90 20 (x1 : Int32).toNatClampNeg).toInt := by rw [efz_107]; exact uF_ne (by decide)
            have g_110 : (fz_107 21 (x1 : Int32).toNatClampNeg).toInt = (fz_90 21 (x1 : Int32).toNatClampNeg).toInt := by rw [efz_107]; exact uF_ne (by decide)
            have g_111 : (fz_107 22 (x1 : Int32).toNatClampNeg).toInt = (fz_90 22 (x1 : Int32).toNatClampNeg).toInt := by rw [efz_107]; exact uF_ne (by decide)
            have g_112 : (fz_107 23 (x1 : Int32).toNatClampNeg).toInt = (fz_90 23 (x1 : Int32).toNatClampNeg).toInt := by rw [efz_107]; exact uF_ne (by decide)
            have sc_113 : scr v fa v_29 fz_107 := by rw [efz_107]; exact scr.uF sc_96 rfl
            have q0_114 : fz_107 0 = fa 0 := by rw [efz_107]; exact (if_neg (by decide)).trans q0_97
            exact W.vret hx hb hr (fun t ht hW => ⟨⟨(v_29, fz_107), rfl, ⟨hV_31, hAfz_107, hRfz_107, (by have em : x_52 = fa 20 x1.toNatClampNeg := Int32.toInt_inj.mp (by omega); have eb : x_53 = fa 4 (fa 20 x1.toNatClampNeg).toNatClampNeg := (by rw [← em]; exact Int32.toInt_inj.mp (by omega)); have hL := eqL_p (f := fz_107 45) (by rw [efz_107, efz_90, efz_80, efz_72, efz_64, efz_56, efz_46, efz_40] <;> rfl); have eP : ltP x_39 x_45 x_55 y_4 r_10 x4 x_89 1 = lP v fa x1.toNatClampNeg x2 x3.toInt x4 (if x5 = 0 then 0 else 1) := (by unfold lP; exact ltP_c (Int32.toInt_inj.mp (by omega)) (Int32.toInt_inj.mp (by omega)) (by rw [ex_55, ex_54, eb]) (of_i (by unfold dnF; rw [hq1_cut_2]; congr 1; omega)) (of_i hx_17) rfl (of_i (by unfold ulF; rw [← hx_26]; repeat (first | rw [if_pos (by omega)] | rw [if_neg (by omega)]); omega)) (by rw [if_neg c_98])); rw [eP] at hL; exact hL)⟩, ⟨by rw [ht]; exact hP, va_K.moved hW.alike hK, hD⟩⟩, hS.F ht⟩) hS.2.2 dX11_puts_191
        · have dc_88 := c_nle (a := 0) (b := r_24.toInt) (by decide) rfl c_88
          refine lv_iconst (v := 0) hx hb dX11_puts_165 (by decide) ?_
          refine lv_goto (tgt := 173) hx hb dX11_puts_166 (by decide) ?_
          refine va_iast hx hb hK hP hD hS 40 39 rfl rfl (by unfold vp_in; decide) dX11_puts_173 (fun H locs hP hD hS => ?_)
          have hP : va_P (dC, dI) vwCl (mW g0 pq cp v_29 (upF fz_80 45 (108 : Int32).toNatClampNeg 0)) H := hP
          have hD : va_D A (mW g0 pq cp v_29 (upF fz_80 45 (108 : Int32).toNatClampNeg 0)) := hD
          obtain ⟨fz_115, efz_115⟩ : ∃ zq, zq = (upF fz_80 45 (108 : Int32).toNatClampNeg 0) := ⟨_, rfl⟩
          rw [← efz_115] at hP hD
          have hAfz_115 : mA fz_115 := by rw [efz_115]; exact mA_upF (lo := -2147483648) (hi := 2147483647) hAfz_80 rfl rfl (iv_all _)
          have hRfz_115 : scr v fa v_29 fz_115 := by rw [efz_115]; exact scr.uF hRfz_80 rfl
          have g_116 : (fz_115 4 (x_52 : Int32).toNatClampNeg).toInt = (fz_80 4 (x_52 : Int32).toNatClampNeg).toInt := by rw [efz_115]; exact uF_ne (by decide)
          have g_117 : (fz_115 20 (x1 : Int32).toNatClampNeg).toInt = (fz_80 20 (x1 : Int32).toNatClampNeg).toInt := by rw [efz_115]; exact uF_ne (by decide)
          have g_118 : (fz_115 21 (x1 : Int32).toNatClampNeg).toInt = (fz_80 21 (x1 : Int32).toNatClampNeg).toInt := by rw [efz_115]; exact uF_ne (by decide)
          have g_119 : (fz_115 22 (x1 : Int32).toNatClampNeg).toInt = (fz_80 22 (x1 : Int32).toNatClampNeg).toInt := by rw [efz_115]; exact uF_ne (by decide)
          have g_120 : (fz_115 23 (x1 : Int32).toNatClampNeg).toInt = (fz_80 23 (x1 : Int32).toNatClampNeg).toInt := by rw [efz_115]; exact uF_ne (by decide)
          have sc_121 : scr v fa v_29 fz_115 := by rw [efz_115]; exact scr.uF sc_86 rfl
          have q0_122 : fz_115 0 = fa 0 := by rw [efz_115]; exact (if_neg (by decide)).trans q0_87
          refine lv_aload_n hx hb dX11_puts_174 rfl (lv_at hl 3 rfl) ?_
          refine va_get (D := (dC, dI)) (ci := 11) (v := .ref (pq 45)) (C := RX11) (T := TX11) (N := 63) hx hb hts in_wsX11_puts_X11 hown hK hP 0 rfl rfl 45 (by decide) (hts (.fieldLink RX11 128 "ShipOfficeModel" "letters" "[I") iw_X11_puts_3) (fun _ h9 => h9) rfl dX11_puts_175 ?_
          refine lv_bipush (v := 120) hx hb dX11_puts_178 (by decide) ?_
          refine lv_iload hx hb dX11_puts_180 (lv_at hl 8 rfl) ?_
          refine lv_if_eq (tgt := 189) hx hb dX11_puts_182 (by decide) (fun c_123 => ?_) (fun c_123 => ?_)
          · have dc_123 := c_eq (a := x5.toInt) (b := 0) rfl (by decide) c_123
            refine lv_iconst (v := 0) hx hb dX11_puts_189 (by decide) ?_
            refine va_iast hx hb hK hP hD hS 40 39 rfl rfl (by unfold vp_in; decide) dX11_puts_190 (fun H locs hP hD hS => ?_)
            have hP : va_P (dC, dI) vwCl (mW g0 pq cp v_29 (upF fz_115 45 (120 : Int32).toNatClampNeg 0)) H := hP
            have hD : va_D A (mW g0 pq cp v_29 (upF fz_115 45 (120 : Int32).toNatClampNeg 0)) := hD
            obtain ⟨fz_124, efz_124⟩ : ∃ zq, zq = (upF fz_115 45 (120 : Int32).toNatClampNeg 0) := ⟨_, rfl⟩
            rw [← efz_124] at hP hD
            have hAfz_124 : mA fz_124 := by rw [efz_124]; exact mA_upF (lo := -2147483648) (hi := 2147483647) hAfz_115 rfl rfl (iv_all _)
            have hRfz_124 : scr v fa v_29 fz_124 := by rw [efz_124]; exact scr.uF hRfz_115 rfl
            have g_125 : (fz_124 4 (x_52 : Int32).toNatClampNeg).toInt = (fz_115 4 (x_52 : Int32).toNatClampNeg).toInt := by rw [efz_124]; exact uF_ne (by decide)
            have g_126 : (fz_124 20 (x1 : Int32).toNatClampNeg).toInt = (fz_115 20 (x1 : Int32).toNatClampNeg).toInt := by rw [efz_124]; exact uF_ne (by decide)
            have g_127 : (fz_124 21 (x1 : Int32).toNatClampNeg).toInt = (fz_115 21 (x1 : Int32).toNatClampNeg).toInt := by rw [efz_124]; exact uF_ne (by decide)
            have g_128 : (fz_124 22 (x1 : Int32).toNatClampNeg).toInt = (fz_115 22 (x1 : Int32).toNatClampNeg).toInt := by rw [efz_124]; exact uF_ne (by decide)
            have g_129 : (fz_124 23 (x1 : Int32).toNatClampNeg).toInt = (fz_115 23 (x1 : Int32).toNatClampNeg).toInt := by rw [efz_124]; exact uF_ne (by decide)
            have sc_130 : scr v fa v_29 fz_124 := by rw [efz_124]; exact scr.uF sc_121 rfl
            have q0_131 : fz_124 0 = fa 0 := by rw [efz_124]; exact (if_neg (by decide)).trans q0_122
            exact W.vret hx hb hr (fun t ht hW => ⟨⟨(v_29, fz_124), rfl, ⟨hV_31, hAfz_124, hRfz_124, (by have em : x_52 = fa 20 x1.toNatClampNeg := Int32.toInt_inj.mp (by omega); have eb : x_53 = fa 4 (fa 20 x1.toNatClampNeg).toNatClampNeg := (by rw [← em]; exact Int32.toInt_inj.mp (by omega)); have hL := eqL_p (f := fz_124 45) (by rw [efz_124, efz_115, efz_80, efz_72, efz_64, efz_56, efz_46, efz_40] <;> rfl); have eP : ltP x_39 x_45 x_55 y_4 r_10 x4 0 0 = lP v fa x1.toNatClampNeg x2 x3.toInt x4 (if x5 = 0 then 0 else 1) := (by unfold lP; exact ltP_c (Int32.toInt_inj.mp (by omega)) (Int32.toInt_inj.mp (by omega)) (by rw [ex_55, ex_54, eb]) (of_i (by unfold dnF; rw [hq1_cut_2]; congr 1; omega)) (of_i hx_17) rfl (of_i (by unfold ulF; rw [← hx_26]; repeat (first | rw [if_pos (by omega)] | rw [if_neg (by omega)]); decide)) (by rw [if_pos c_123])); rw [eP] at hL; exact hL)⟩, ⟨by rw [ht]; exact hP, va_K.moved hW.alike hK, hD⟩⟩, hS.F ht⟩) hS.2.2 dX11_puts_191
          · have dc_123 := c_ne (a := x5.toInt) (b := 0) rfl (by decide) c_123
            refine lv_iconst (v := 1) hx hb dX11_puts_185 (by decide) ?_
            refine lv_goto (tgt := 190) hx hb dX11_puts_186 (by decide) ?_
            refine va_iast hx hb hK hP hD hS 40 39 rfl rfl (by unfold vp_in; decide) dX11_puts_190 (fun H locs hP hD hS => ?_)
            have hP : va_P (dC, dI) vwCl (mW g0 pq cp v_29 (upF fz_115 45 (120 : Int32).toNatClampNeg 1)) H := hP
            have hD : va_D A (mW g0 pq cp v_29 (upF fz_115 45 (120 : Int32).toNatClampNeg 1)) := hD
            obtain ⟨fz_132, efz_132⟩ : ∃ zq, zq = (upF fz_115 45 (120 : Int32).toNatClampNeg 1) := ⟨_, rfl⟩
            rw [← efz_132] at hP hD
            have hAfz_132 : mA fz_132 := by rw [efz_132]; exact mA_upF (lo := -2147483648) (hi := 2147483647) hAfz_115 rfl rfl (iv_all _)
            have hRfz_132 : scr v fa v_29 fz_132 := by rw [efz_132]; exact scr.uF hRfz_115 rfl
            have g_133 : (fz_132 4 (x_52 : Int32).toNatClampNeg).toInt = (fz_115 4 (x_52 : Int32).toNatClampNeg).toInt := by rw [efz_132]; exact uF_ne (by decide)
            have g_134 : (fz_132 20 (x1 : Int32).toNatClampNeg).toInt = (fz_115 20 (x1 : Int32).toNatClampNeg).toInt := by rw [efz_132]; exact uF_ne (by decide)
            have g_135 : (fz_132 21 (x1 : Int32).toNatClampNeg).toInt = (fz_115 21 (x1 : Int32).toNatClampNeg).toInt := by rw [efz_132]; exact uF_ne (by decide)
            have g_136 : (fz_132 22 (x1 : Int32).toNatClampNeg).toInt = (fz_115 22 (x1 : Int32).toNatClampNeg).toInt := by rw [efz_132]; exact uF_ne (by decide)
            have g_137 : (fz_132 23 (x1 : Int32).toNatClampNeg).toInt = (fz_115 23 (x1 : Int32).toNatClampNeg).toInt := by rw [efz_132]; exact uF_ne (by decide)
            have sc_138 : scr v fa v_29 fz_132 := by rw [efz_132]; exact scr.uF sc_121 rfl
            have q0_139 : fz_132 0 = fa 0 := by rw [efz_132]; exact (if_neg (by decide)).trans q0_122
            exact W.vret hx hb hr (fun t ht hW => ⟨⟨(v_29, fz_132), rfl, ⟨hV_31, hAfz_132, hRfz_132, (by have em : x_52 = fa 20 x1.toNatClampNeg := Int32.toInt_inj.mp (by omega); have eb : x_53 = fa 4 (fa 20 x1.toNatClampNeg).toNatClampNeg := (by rw [← em]; exact Int32.toInt_inj.mp (by omega)); have hL := eqL_p (f := fz_132 45) (by rw [efz_132, efz_115, efz_80, efz_72, efz_64, efz_56, efz_46, efz_40] <;> rfl); have eP : ltP x_39 x_45 x_55 y_4 r_10 x4 0 1 = lP v fa x1.toNatClampNeg x2 x3.toInt x4 (if x5 = 0 then 0 else 1) := (by unfold lP; exact ltP_c (Int32.toInt_inj.mp (by omega)) (Int32.toInt_inj.mp (by omega)) (by rw [ex_55, ex_54, eb]) (of_i (by unfold dnF; rw [hq1_cut_2]; congr 1; omega)) (of_i hx_17) rfl (of_i (by unfold ulF; rw [← hx_26]; repeat (first | rw [if_pos (by omega)] | rw [if_neg (by omega)]); decide)) (by rw [if_neg c_123])); rw [eP] at hL; exact hL)⟩, ⟨by rw [ht]; exact hP, va_K.moved hW.alike hK, hD⟩⟩, hS.F ht⟩) hS.2.2 dX11_puts_191
      · have dc_7 := c_nlt (a := x2.toInt) (b := y_3.toInt) rfl rfl c_7
        refine lv_iload hx hb dX11_puts_17 (lv_at hl 1 rfl) ?_
        refine lv_aload_n hx hb dX11_puts_19 rfl (lv_at hl 2 rfl) ?_
        refine lv_iload_n hx hb dX11_puts_20 rfl (lv_at hl 3 rfl) ?_
        refine lv_iload hx hb dX11_puts_21 (lv_at hl 0 rfl) ?_
        refine lv_iload_n hx hb dX11_puts_23 rfl (lv_at hl 5 rfl) ?_
        have hFc := va_free (wc := (mW g0 pq cp z_5 fz_6)) hD hS hA (List.range 48) rfl
        refine va_calli (va_runV (As := [.int x1, .int y_3, .int x3]) (rest := [.int y_4]) ⟨hx, hb, hml, hown, hts⟩ (c_X11_stateOf_f l dC dI H.size g0 pq cp z_5 fz_6 hVz_5 hAz_5 x1 (by omega) y_3 (by omega) x3 (wlA_fr hWl (hRz_5.1 42 rfl) (hRz_5.2 19 rfl) (hRz_5.2 16 rfl))) (cwV 3 hts gX11_puts_X11_stateOf rfl rfl rfl (by decide +kernel) ⟨(Nat.le_of_ble_eq_true rfl), (Nat.le_of_ble_eq_true rfl)⟩) (pr_V (r := (RX11, TX11, 63)) hP hK hD 0 11 rfl rfl) rfl rfl hl.1 rfl (lv_room (Nat.le_of_ble_eq_true rfl)) dX11_puts_24 ⟨(Nat.le_of_ble_eq_true rfl), (Nat.le_of_ble_eq_true rfl)⟩) hS (fun q _ h => hFc q h) hFc (fun r_141 u t H locs ht hvm w_140 hB hz1 hk1 hS => ?_)
        obtain ⟨v_142, fa_143⟩ := u
        obtain ⟨hP1, hK1, hD1⟩ := hB
        rw [ht] at hP1
        have hP : va_P (dC, dI) vwCl (mW g0 pq cp v_142 fa_143) H := hP1
        have hD : va_D A (mW g0 pq cp v_142 fa_143) := hD1.weaken (fun _ _ _ h => hFc _ h)
        clear hP1 hK1 hD1 hk1 hz1 hvm ht hFc
        obtain ⟨hV_144, hA_145, hR_146, hb_147, hx_148⟩ := w_140
        dsimp only at hV_144 hA_145 hR_146 hb_147 hx_148
        have R_149 := scr.tr hRz_5 hR_146
        have sc_150 := scr.tr hRz_5 hR_146
        have q0_151 : fa_143 0 = fa 0 := (hR_146.2 0 rfl).trans (hRz_5.2 0 rfl)
        rw [stF_s hWl hRz_5] at hx_148
        refine lv_iconst (v := 1) hx hb dX11_puts_27 (by decide) ?_
        refine lv_icmp_ne (tgt := 35) hx hb dX11_puts_28 (by decide) (fun c_152 => ?_) (fun c_152 => ?_)
        · have dc_152 := c_ne (a := r_141.toInt) (b := 1) rfl (by decide) c_152
          refine lv_iconst (v := 0) hx hb dX11_puts_35 (by decide) ?_
          refine lv_iadd hx hb dX11_puts_36 ?_
          refine lv_topi (fun x_153 ex_153 => ?_)
          have hx_153 : x_153.toInt = y_4.toInt + 0 := (iv_to ex_153).trans (ad_i rfl (by decide) (by omega) (by omega))
          refine lv_istore (lv' := [(6, .int x_153), (7, .int y_3), (0, .ref g0), (1, .int x1), (2, .int x2), (3, .int x3), (4, .int x4), (5, .int x5)]) hx hb dX11_puts_37 hl (by decide) rfl (fun ls hl => ?_)
          obtain ⟨x_154, ex_154⟩ : ∃ zq : Int32, y_3 + 1 = zq := ⟨_, rfl⟩
          have hx_154 : x_154.toInt = y_3.toInt + 1 := (iv_to ex_154).symm.trans (ad_i rfl (by decide) (by omega) (by omega))
          refine lv_iinc (v := x_154) (lv' := [(7, .int x_154), (6, .int x_153), (0, .ref g0), (1, .int x1), (2, .int x2), (3, .int x3), (4, .int x4), (5, .int x5)]) hx hb dX11_puts_39 hl (k := 1) rfl ex_154 (by decide) rfl (fun ls hl => ?_)
          clear ex_154
          refine lv_goto (tgt := 11) hx hb dX11_puts_42 (by decide) ?_
          exact ih (n - 1) (by omega) x_154 x_153 v_142 fa_143 _ _ ls (by omega) (by omega) (by omega) (by omega) (er_n hq1_cut_2 (by omega) (by unfold abG; repeat (first | rw [if_pos (by omega)] | rw [if_neg (by omega)]); omega) (by omega)) hV_144 hA_145 R_149 hP hD hS (lv_sub hl [0, 1, 2, 3, 4, 5, 6, 7] rfl)
        · have dc_152 := c_eq (a := r_141.toInt) (b := 1) rfl (by decide) c_152
          refine lv_iconst (v := 1) hx hb dX11_puts_31 (by decide) ?_
          refine lv_goto (tgt := 36) hx hb dX11_puts_32 (by decide) ?_
          refine lv_iadd hx hb dX11_puts_36 ?_
          refine lv_topi (fun x_155 ex_155 => ?_)
          have hx_155 : x_155.toInt = y_4.toInt + 1 := (iv_to ex_155).trans (ad_i rfl (by decide) (by omega) (by omega))
          refine lv_istore (lv' := [(6, .int x_155), (7, .int y_3), (0, .ref g0), (1, .int x1), (2, .int x2), (3, .int x3), (4, .int x4), (5, .int x5)]) hx hb dX11_puts_37 hl (by decide) rfl (fun ls hl => ?_)
          obtain ⟨x_156, ex_156⟩ : ∃ zq : Int32, y_3 + 1 = zq := ⟨_, rfl⟩
          have hx_156 : x_156.toInt = y_3.toInt + 1 := (iv_to ex_156).symm.trans (ad_i rfl (by decide) (by omega) (by omega))
          refine lv_iinc (v := x_156) (lv' := [(7, .int x_156), (6, .int x_155), (0, .ref g0), (1, .int x1), (2, .int x2), (3, .int x3), (4, .int x4), (5, .int x5)]) hx hb dX11_puts_39 hl (k := 1) rfl ex_156 (by decide) rfl (fun ls hl => ?_)
          clear ex_156
          refine lv_goto (tgt := 11) hx hb dX11_puts_42 (by decide) ?_
          exact ih (n - 1) (by omega) x_156 x_155 v_142 fa_143 _ _ ls (by omega) (by omega) (by omega) (by omega) (er_n hq1_cut_2 (by omega) (by unfold abG; repeat (first | rw [if_pos (by omega)] | rw [if_neg (by omega)]); omega) (by omega)) hV_144 hA_145 R_149 hP hD hS (lv_sub hl [0, 1, 2, 3, 4, 5, 6, 7] rfl)
  have kc_157 : (0 : Int32).toInt = 0 := by decide
  exact cut_2 3002 x_1 0 v fa _ _ ls (by omega) (by omega) (by decide) (by have rc : (0 : Int32).toInt = 0 := (by decide); omega) (er_0 (by omega)) gV gA scr.rf hP hD hS (lv_sub hl [0, 1, 2, 3, 4, 5, 6, 7] rfl)
